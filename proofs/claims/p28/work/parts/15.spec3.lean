/-! THE JOURNEY AND THE TEXT -/
def q_pm (g : Int32 → Int32) (p : Nat → Int32) (f i : Nat) : Nat → Int32 := fun k => if f ≤ k ∧ k < i then g (p k) else p k
theorem q_pm_ap (g : Int32 → Int32) (p : Nat → Int32) (f i k : Nat) : q_pm g p f i k = if f ≤ k ∧ k < i then g (p k) else p k := rfl
theorem q_upd (f : Nat → Int32) (k : Nat) (x : Int32) (j : Nat) : upd f k x j = if j = k then x else f j := rfl
theorem q_pm_init {g : Int32 → Int32} {w : Nat → Nat → Int32} {f : Nat} : w = sf w 2 (q_pm g (w 2) f f) := by
  funext k j
  show w k j = (if k = 2 then q_pm g (w 2) f f else w k) j
  by_cases h : k = 2
  · subst h
    rw [if_pos rfl, q_pm_ap, if_neg (by omega)]
  · rw [if_neg h]
theorem q_pm_step {g : Int32 → Int32} {w : Nat → Nat → Int32} {f i : Nat} (h : f ≤ i) : su (sf w 2 (q_pm g (w 2) f i)) 2 i (g (sf w 2 (q_pm g (w 2) f i) 2 i)) = sf w 2 (q_pm g (w 2) f (i + 1)) := by
  funext k j
  show (if k = 2 then upd (if k = 2 then q_pm g (w 2) f i else w k) i (g (q_pm g (w 2) f i i)) else (if k = 2 then q_pm g (w 2) f i else w k)) j = (if k = 2 then q_pm g (w 2) f (i + 1) else w k) j
  by_cases hk : k = 2
  · subst hk
    rw [if_pos rfl, if_pos rfl, if_pos rfl, q_upd, q_pm_ap, q_pm_ap, q_pm_ap]
    by_cases hj : j = i
    · subst hj
      rw [if_pos rfl, if_neg (by omega), if_pos (by omega)]
    · rw [if_neg hj]
      by_cases h1 : f ≤ j ∧ j < i
      · rw [if_pos h1, if_pos (by omega)]
      · rw [if_neg h1, if_neg (by omega)]
  · rw [if_neg hk, if_neg hk, if_neg hk]
def q_pt (v w : Nat → Nat → Int32) (j f n t : Nat) : Nat → Nat → Int32 := if 12 ≤ n - f then sf (su (su (su w 3 1 (nI (f + 12))) 3 0 (nI (t + 12))) 1 j (q_wd (fun d => q_rd v (w 2 (f + d))) 12)) 2 (q_pm (q_ho v) (w 2) (f + 12) n) else su w 3 1 (nI n)
def q_gs (v : Nat → Nat → Int32) (i : Nat) (X : Nat → Nat → Int32) (f n : Nat) : Nat → Nat → Int32 := su (su (sf X 2 (q_pm (fun y => q_sh y (v 1 i)) (X 2) f n)) 0 i (nI (n - f))) 1 i (v 2 i)
/-- where the pulses begin that are still on their way; how many were taken -/
def q_gf (v : Nat → Nat → Int32) (n : Nat) : Nat → Nat
  | 0 => 0
  | i + 1 => if v 0 i = 0 ∨ v 0 i = 1 then (if 12 ≤ n - q_gf v n i then q_gf v n i + 12 else n) else if v 0 i = 2 then n else q_gf v n i
def q_gk (v : Nat → Nat → Int32) (n : Nat) : Nat → Nat
  | 0 => 0
  | i + 1 => if v 0 i = 0 ∨ v 0 i = 1 then (if 12 ≤ n - q_gf v n i then q_gk v n i + 12 else q_gk v n i) else q_gk v n i
theorem q_gf_le (v : Nat → Nat → Int32) (n : Nat) : ∀ i : Nat, q_gf v n i ≤ n
  | 0 => Nat.zero_le n
  | i + 1 => by
    have h := q_gf_le v n i
    simp only [q_gf]
    split
    · split <;> omega
    · split
      · omega
      · exact h
theorem q_gk_le (v : Nat → Nat → Int32) (n : Nat) : ∀ i : Nat, q_gk v n i ≤ 12 * i
  | 0 => Nat.zero_le _
  | i + 1 => by
    have h := q_gk_le v n i
    simp only [q_gk]
    split
    · split <;> omega
    · omega
def q_g0 (v w : Nat → Nat → Int32) (n : Nat) : Nat → Nat → Int32 := su (su (su (sf w 2 (v 6)) 3 1 0) 3 2 (nI n)) 3 0 0
def q_gt (v w : Nat → Nat → Int32) (n : Nat) : Nat → Nat → Nat → Int32
  | 0 => q_g0 v w n
  | i + 1 => if v 0 i = 0 ∨ v 0 i = 1 then q_pt v (q_gs v i (q_gt v w n i) (q_gf v n i) n) i (q_gf v n i) n (q_gk v n i) else if v 0 i = 2 then su (q_gs v i (q_gt v w n i) (q_gf v n i) n) 3 1 (nI n) else q_gs v i (q_gt v w n i) (q_gf v n i) n
theorem q_gt_inv (v w : Nat → Nat → Int32) (n : Nat) : ∀ i : Nat, q_gt v w n i 3 1 = nI (q_gf v n i) ∧ q_gt v w n i 3 2 = nI n ∧ q_gt v w n i 3 0 = nI (q_gk v n i)
  | 0 => ⟨rfl, rfl, rfl⟩
  | i + 1 => by
    obtain ⟨h1, h2, h3⟩ := q_gt_inv v w n i
    simp only [q_gt, q_gf, q_gk]
    by_cases ht : v 0 i = 0 ∨ v 0 i = 1
    · simp only [if_pos ht]
      by_cases hn : 12 ≤ n - q_gf v n i
      · simp only [q_pt, if_pos hn]
        exact ⟨rfl, h2, rfl⟩
      · simp only [q_pt, if_neg hn]
        exact ⟨rfl, h2, h3⟩
    · simp only [if_neg ht]
      by_cases hb : v 0 i = 2
      · simp only [if_pos hb]
        exact ⟨rfl, h2, h3⟩
      · simp only [if_neg hb]
        exact ⟨h1, h2, h3⟩
/-! text: t 0 the signs, n of them -/
def q_sg (t : Nat → Nat → Int32) (n : Nat) (x : Int32) : Int32 := if x < 0 then 32 else if x.toNatClampNeg < n then t 0 x.toNatClampNeg else 32
def q_dg2 (x : Int32) : Int32 := if x < 97 then -1 else if 102 < x then -1 else x - 97 + 10
def q_dg (x : Int32) : Int32 := if x < 48 then q_dg2 x else if 57 < x then q_dg2 x else x - 48
def q_ft (t : Nat → Nat → Int32) (n k : Nat) : Bool := if 10 ≤ k / 4 then false else if q_sg t n (nI k - 1) = 33 then false else if 3 ≤ k % 4 then (if q_sg t n (nI k) = 33 then true else if q_sg t n (nI k) = 44 then (if 9 ≤ k / 4 then false else true) else false) else if q_dg (q_sg t n (nI k)) = -1 then false else true
def q_fst (p : Nat → Bool) : Nat → Nat → Nat
  | 0, i => i
  | m + 1, i => if p i then q_fst p m (i + 1) else i
def q_ep (t : Nat → Nat → Int32) (n : Nat) : Nat := q_fst (q_ft t n) n 0
theorem q_fst_le (p : Nat → Bool) : ∀ m i : Nat, q_fst p m i ≤ i + m
  | 0, i => Nat.le_refl i
  | m + 1, i => by
    simp only [q_fst]
    split
    · have := q_fst_le p m (i + 1)
      omega
    · omega
theorem q_ep_le (t : Nat → Nat → Int32) (n : Nat) : q_ep t n ≤ n := by
  have := q_fst_le (q_ft t n) n 0
  unfold q_ep
  omega
theorem q_fst_in {p : Nat → Bool} {n i : Nat} (hi : i < n) (hp : p i = true) (h : q_fst p n 0 = q_fst p (n - i) i) : q_fst p n 0 = q_fst p (n - (i + 1)) (i + 1) := by
  rw [h, show n - i = (n - (i + 1)) + 1 by omega]
  simp [q_fst, hp]
theorem q_fst_out {p : Nat → Bool} {n i : Nat} (hi : i < n) (hp : ¬ p i = true) (h : q_fst p n 0 = q_fst p (n - i) i) : q_fst p n 0 = i := by
  rw [h, show n - i = (n - (i + 1)) + 1 by omega]
  simp [q_fst, hp]
theorem q_eg_pos {t : Nat → Nat → Int32} {n : Nat} (h : q_sg t n (nI n - 1) = 33) : 0 < n := by
  rcases Nat.eq_zero_or_pos n with q | q
  · subst q
    have e : q_sg t 0 (nI 0 - 1) = 32 := by
      unfold q_sg
      rw [if_pos (by decide)]
    rw [e] at h
    exact absurd h (by decide)
  · exact q
def q_wm0 (t : Nat → Nat → Int32) (n : Nat) : Nat := if q_sg t n (nI n - 1) = 33 then n - 1 else n
def q_wt (t : Nat → Nat → Int32) (n : Nat) : Nat := if q_ep t n < n then 0 else if q_wm0 t n % 4 = 3 then (q_wm0 t n + 1) / 4 else 0
def q_hex (f : Nat → Int32) : Nat → Int32
  | 0 => 0
  | i + 1 => 16 * q_hex f i + f i
def q_wat (t : Nat → Nat → Int32) (n k : Nat) : Int32 := q_hex (fun i => q_dg (q_sg t n (nI (k * 4 + i)))) 3
