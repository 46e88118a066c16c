/-! CLASS AGAINST REFERENCE, 6: a trial word out of its two kinds of pulses -/
def q_wq (a b : Bool) (k : Nat) : Prop := q_wd (fun d => if q_bit (nI k) d = 8 then (if a then 1 else 0) else (if b then 1 else 0)) 12 = ((if a then nI k else 0) ||| (if b then 4095 - nI k else 0))
theorem q_word0 : ∀ i : Nat, i < 16 → ∀ j : Nat, j < 16 → ∀ a b : Bool, q_wd (fun d => if q_bit (nI (0 + 16 * i + j)) d = 8 then (if a then 1 else 0) else (if b then 1 else 0)) 12 = ((if a then nI (0 + 16 * i + j) else 0) ||| (if b then 4095 - nI (0 + 16 * i + j) else 0)) := by decide +kernel
theorem q_word1 : ∀ i : Nat, i < 16 → ∀ j : Nat, j < 16 → ∀ a b : Bool, q_wd (fun d => if q_bit (nI (256 + 16 * i + j)) d = 8 then (if a then 1 else 0) else (if b then 1 else 0)) 12 = ((if a then nI (256 + 16 * i + j) else 0) ||| (if b then 4095 - nI (256 + 16 * i + j) else 0)) := by decide +kernel
theorem q_word2 : ∀ i : Nat, i < 16 → ∀ j : Nat, j < 16 → ∀ a b : Bool, q_wd (fun d => if q_bit (nI (512 + 16 * i + j)) d = 8 then (if a then 1 else 0) else (if b then 1 else 0)) 12 = ((if a then nI (512 + 16 * i + j) else 0) ||| (if b then 4095 - nI (512 + 16 * i + j) else 0)) := by decide +kernel
theorem q_word3 : ∀ i : Nat, i < 16 → ∀ j : Nat, j < 16 → ∀ a b : Bool, q_wd (fun d => if q_bit (nI (768 + 16 * i + j)) d = 8 then (if a then 1 else 0) else (if b then 1 else 0)) 12 = ((if a then nI (768 + 16 * i + j) else 0) ||| (if b then 4095 - nI (768 + 16 * i + j) else 0)) := by decide +kernel
theorem q_word4 : ∀ i : Nat, i < 16 → ∀ j : Nat, j < 16 → ∀ a b : Bool, q_wd (fun d => if q_bit (nI (1024 + 16 * i + j)) d = 8 then (if a then 1 else 0) else (if b then 1 else 0)) 12 = ((if a then nI (1024 + 16 * i + j) else 0) ||| (if b then 4095 - nI (1024 + 16 * i + j) else 0)) := by decide +kernel
theorem q_word5 : ∀ i : Nat, i < 16 → ∀ j : Nat, j < 16 → ∀ a b : Bool, q_wd (fun d => if q_bit (nI (1280 + 16 * i + j)) d = 8 then (if a then 1 else 0) else (if b then 1 else 0)) 12 = ((if a then nI (1280 + 16 * i + j) else 0) ||| (if b then 4095 - nI (1280 + 16 * i + j) else 0)) := by decide +kernel
theorem q_word6 : ∀ i : Nat, i < 16 → ∀ j : Nat, j < 16 → ∀ a b : Bool, q_wd (fun d => if q_bit (nI (1536 + 16 * i + j)) d = 8 then (if a then 1 else 0) else (if b then 1 else 0)) 12 = ((if a then nI (1536 + 16 * i + j) else 0) ||| (if b then 4095 - nI (1536 + 16 * i + j) else 0)) := by decide +kernel
theorem q_word7 : ∀ i : Nat, i < 16 → ∀ j : Nat, j < 16 → ∀ a b : Bool, q_wd (fun d => if q_bit (nI (1792 + 16 * i + j)) d = 8 then (if a then 1 else 0) else (if b then 1 else 0)) 12 = ((if a then nI (1792 + 16 * i + j) else 0) ||| (if b then 4095 - nI (1792 + 16 * i + j) else 0)) := by decide +kernel
theorem q_word8 : ∀ i : Nat, i < 16 → ∀ j : Nat, j < 16 → ∀ a b : Bool, q_wd (fun d => if q_bit (nI (2048 + 16 * i + j)) d = 8 then (if a then 1 else 0) else (if b then 1 else 0)) 12 = ((if a then nI (2048 + 16 * i + j) else 0) ||| (if b then 4095 - nI (2048 + 16 * i + j) else 0)) := by decide +kernel
theorem q_word9 : ∀ i : Nat, i < 16 → ∀ j : Nat, j < 16 → ∀ a b : Bool, q_wd (fun d => if q_bit (nI (2304 + 16 * i + j)) d = 8 then (if a then 1 else 0) else (if b then 1 else 0)) 12 = ((if a then nI (2304 + 16 * i + j) else 0) ||| (if b then 4095 - nI (2304 + 16 * i + j) else 0)) := by decide +kernel
theorem q_word10 : ∀ i : Nat, i < 16 → ∀ j : Nat, j < 16 → ∀ a b : Bool, q_wd (fun d => if q_bit (nI (2560 + 16 * i + j)) d = 8 then (if a then 1 else 0) else (if b then 1 else 0)) 12 = ((if a then nI (2560 + 16 * i + j) else 0) ||| (if b then 4095 - nI (2560 + 16 * i + j) else 0)) := by decide +kernel
theorem q_word11 : ∀ i : Nat, i < 16 → ∀ j : Nat, j < 16 → ∀ a b : Bool, q_wd (fun d => if q_bit (nI (2816 + 16 * i + j)) d = 8 then (if a then 1 else 0) else (if b then 1 else 0)) 12 = ((if a then nI (2816 + 16 * i + j) else 0) ||| (if b then 4095 - nI (2816 + 16 * i + j) else 0)) := by decide +kernel
theorem q_word12 : ∀ i : Nat, i < 16 → ∀ j : Nat, j < 16 → ∀ a b : Bool, q_wd (fun d => if q_bit (nI (3072 + 16 * i + j)) d = 8 then (if a then 1 else 0) else (if b then 1 else 0)) 12 = ((if a then nI (3072 + 16 * i + j) else 0) ||| (if b then 4095 - nI (3072 + 16 * i + j) else 0)) := by decide +kernel
theorem q_word13 : ∀ i : Nat, i < 16 → ∀ j : Nat, j < 16 → ∀ a b : Bool, q_wd (fun d => if q_bit (nI (3328 + 16 * i + j)) d = 8 then (if a then 1 else 0) else (if b then 1 else 0)) 12 = ((if a then nI (3328 + 16 * i + j) else 0) ||| (if b then 4095 - nI (3328 + 16 * i + j) else 0)) := by decide +kernel
theorem q_word14 : ∀ i : Nat, i < 16 → ∀ j : Nat, j < 16 → ∀ a b : Bool, q_wd (fun d => if q_bit (nI (3584 + 16 * i + j)) d = 8 then (if a then 1 else 0) else (if b then 1 else 0)) 12 = ((if a then nI (3584 + 16 * i + j) else 0) ||| (if b then 4095 - nI (3584 + 16 * i + j) else 0)) := by decide +kernel
theorem q_word15 : ∀ i : Nat, i < 16 → ∀ j : Nat, j < 16 → ∀ a b : Bool, q_wd (fun d => if q_bit (nI (3840 + 16 * i + j)) d = 8 then (if a then 1 else 0) else (if b then 1 else 0)) 12 = ((if a then nI (3840 + 16 * i + j) else 0) ||| (if b then 4095 - nI (3840 + 16 * i + j) else 0)) := by decide +kernel
theorem q_word {k : Nat} (hk : k ≤ 4095) (a b : Bool) : q_wq a b k := by
  by_cases h15 : 3840 ≤ k
  · have h := q_word15 ((k - 3840) / 16) (by omega) ((k - 3840) % 16) (by omega) a b
    rw [show 3840 + 16 * ((k - 3840) / 16) + (k - 3840) % 16 = k by omega] at h
    exact h
  by_cases h14 : 3584 ≤ k
  · have h := q_word14 ((k - 3584) / 16) (by omega) ((k - 3584) % 16) (by omega) a b
    rw [show 3584 + 16 * ((k - 3584) / 16) + (k - 3584) % 16 = k by omega] at h
    exact h
  by_cases h13 : 3328 ≤ k
  · have h := q_word13 ((k - 3328) / 16) (by omega) ((k - 3328) % 16) (by omega) a b
    rw [show 3328 + 16 * ((k - 3328) / 16) + (k - 3328) % 16 = k by omega] at h
    exact h
  by_cases h12 : 3072 ≤ k
  · have h := q_word12 ((k - 3072) / 16) (by omega) ((k - 3072) % 16) (by omega) a b
    rw [show 3072 + 16 * ((k - 3072) / 16) + (k - 3072) % 16 = k by omega] at h
    exact h
  by_cases h11 : 2816 ≤ k
  · have h := q_word11 ((k - 2816) / 16) (by omega) ((k - 2816) % 16) (by omega) a b
    rw [show 2816 + 16 * ((k - 2816) / 16) + (k - 2816) % 16 = k by omega] at h
    exact h
  by_cases h10 : 2560 ≤ k
  · have h := q_word10 ((k - 2560) / 16) (by omega) ((k - 2560) % 16) (by omega) a b
    rw [show 2560 + 16 * ((k - 2560) / 16) + (k - 2560) % 16 = k by omega] at h
    exact h
  by_cases h9 : 2304 ≤ k
  · have h := q_word9 ((k - 2304) / 16) (by omega) ((k - 2304) % 16) (by omega) a b
    rw [show 2304 + 16 * ((k - 2304) / 16) + (k - 2304) % 16 = k by omega] at h
    exact h
  by_cases h8 : 2048 ≤ k
  · have h := q_word8 ((k - 2048) / 16) (by omega) ((k - 2048) % 16) (by omega) a b
    rw [show 2048 + 16 * ((k - 2048) / 16) + (k - 2048) % 16 = k by omega] at h
    exact h
  by_cases h7 : 1792 ≤ k
  · have h := q_word7 ((k - 1792) / 16) (by omega) ((k - 1792) % 16) (by omega) a b
    rw [show 1792 + 16 * ((k - 1792) / 16) + (k - 1792) % 16 = k by omega] at h
    exact h
  by_cases h6 : 1536 ≤ k
  · have h := q_word6 ((k - 1536) / 16) (by omega) ((k - 1536) % 16) (by omega) a b
    rw [show 1536 + 16 * ((k - 1536) / 16) + (k - 1536) % 16 = k by omega] at h
    exact h
  by_cases h5 : 1280 ≤ k
  · have h := q_word5 ((k - 1280) / 16) (by omega) ((k - 1280) % 16) (by omega) a b
    rw [show 1280 + 16 * ((k - 1280) / 16) + (k - 1280) % 16 = k by omega] at h
    exact h
  by_cases h4 : 1024 ≤ k
  · have h := q_word4 ((k - 1024) / 16) (by omega) ((k - 1024) % 16) (by omega) a b
    rw [show 1024 + 16 * ((k - 1024) / 16) + (k - 1024) % 16 = k by omega] at h
    exact h
  by_cases h3 : 768 ≤ k
  · have h := q_word3 ((k - 768) / 16) (by omega) ((k - 768) % 16) (by omega) a b
    rw [show 768 + 16 * ((k - 768) / 16) + (k - 768) % 16 = k by omega] at h
    exact h
  by_cases h2 : 512 ≤ k
  · have h := q_word2 ((k - 512) / 16) (by omega) ((k - 512) % 16) (by omega) a b
    rw [show 512 + 16 * ((k - 512) / 16) + (k - 512) % 16 = k by omega] at h
    exact h
  by_cases h1 : 256 ≤ k
  · have h := q_word1 ((k - 256) / 16) (by omega) ((k - 256) % 16) (by omega) a b
    rw [show 256 + 16 * ((k - 256) / 16) + (k - 256) % 16 = k by omega] at h
    exact h
  have h := q_word0 ((k - 0) / 16) (by omega) ((k - 0) % 16) (by omega) a b
  rw [show 0 + 16 * ((k - 0) / 16) + (k - 0) % 16 = k by omega] at h
  exact h
theorem q_bit_48 (x : Int32) (i : Nat) : q_bit x i = 8 ∨ q_bit x i = 4 := by
  unfold q_bit
  split
  · exact Or.inl rfl
  · exact Or.inr rfl
