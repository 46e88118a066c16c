/-! NUMBERS, the journey, sums (rows of whole) -/
def q_kof (n : Nat) : Nat := if 360 ≤ n then 0 else if 180 ≤ n then 1 else if 90 ≤ n then 2 else if 45 ≤ n then 3 else if 23 ≤ n then 4 else if 12 ≤ n then 5 else if 6 ≤ n then 6 else if 3 ≤ n then 7 else if 2 ≤ n then 8 else 9
def q_fx (n : Nat) : UInt64 := FP.ddiv (FP.i2d (nI n)) 4645040803167600640
def q_n64b (r : UInt64) : Bool := decide (r &&& 0x7fffffffffffffff ≤ 0x7ff0000000000000)
theorem q_n64b_v {r : UInt64} (h : q_n64b r = true) : vf_n64 r := by
  unfold vf_n64
  exact of_decide_eq_true h
def q_okc (x : UInt64) (K : Nat) : Bool := decide (0 < Op.cmpValue (FP.dcmp x FP.dconst0) .g) && decide (K ≤ 20) && (List.range K).all (fun k => decide (Op.cmpValue (FP.dcmp (q_sc x k) FP.dconst1) .g < 0) && q_n64b (FP.dmul (q_sc x k) 4611686018427387904)) && decide (0 ≤ Op.cmpValue (FP.dcmp (q_sc x K) FP.dconst1) .g) && q_n64b (FP.dsub (q_sc x K) FP.dconst1) && q_n64b (FP.dmul (FP.dsub (q_sc x K) FP.dconst1) 4841369599423283200)
theorem q_okc_v {x : UInt64} {K : Nat} (h : q_okc x K = true) : q_okK x K := by
  simp only [q_okc, Bool.and_eq_true, decide_eq_true_eq, List.all_eq_true, List.mem_range] at h
  obtain ⟨⟨⟨⟨⟨h1, h2⟩, h3⟩, h4⟩, h5⟩, h6⟩ := h
  exact ⟨h1, h2, fun k hk => ⟨(h3 k hk).1, q_n64b_v (h3 k hk).2⟩, h4, q_n64b_v h5, q_n64b_v h6⟩
def q_fpc (n : Nat) : Bool := q_n64b (q_fx n) && decide (Op.cmpValue (FP.dcmp (q_fx n) (q_fx n)) .l = 0) && (if n = 0 then decide (¬ 0 < Op.cmpValue (FP.dcmp (q_fx n) FP.dconst0) .g) && decide ((q_fx n).toInt64 = 0) else q_okc (q_fx n) (q_kof n) && decide (q_bv (q_fx n) (q_kof n) = (q_fx n).toInt64))
theorem q_fpa : ∀ n : Nat, n < 361 → q_fpc n = true := by decide +kernel
theorem q_fp {n : Nat} (hn : n ≤ 360) : vf_n64 (q_fx n) ∧ Op.cmpValue (FP.dcmp (q_fx n) (q_fx n)) .l = 0 ∧ q_okb (q_fx n) (q_fx n).toInt64 := by
  have h := q_fpa n (by omega)
  simp only [q_fpc, Bool.and_eq_true, decide_eq_true_eq] at h
  obtain ⟨⟨h1, h2⟩, h3⟩ := h
  refine ⟨q_n64b_v h1, h2, ?_⟩
  by_cases h0 : n = 0
  · rw [if_pos h0] at h3
    simp only [Bool.and_eq_true, decide_eq_true_eq] at h3
    exact Or.inl h3
  · rw [if_neg h0] at h3
    simp only [Bool.and_eq_true, decide_eq_true_eq] at h3
    exact Or.inr ⟨q_kof n, q_okc_v h3.1, h3.2.symm⟩
/-! sums of colours stay small -/
theorem q_br_le (x k : Int32) : 0 ≤ (q_br x k).toInt ∧ (q_br x k).toInt ≤ 15 := by
  unfold q_br
  have h : ∀ y : Int32, 0 ≤ (y &&& 15).toInt ∧ (y &&& 15).toInt ≤ 15 := by
    intro y
    have e : (y &&& 15).toBitVec = y.toBitVec &&& 15#32 := rfl
    have h2 : (y.toBitVec &&& 15#32).toNat ≤ 15 := by
      rw [BitVec.toNat_and]
      exact Nat.and_le_right
    have h3 : (y &&& 15).toInt = ((y.toBitVec &&& 15#32).toNat : Int) := by
      show (y &&& 15).toBitVec.toInt = _
      rw [e, BitVec.toInt_eq_toNat_of_lt (by omega)]
    omega
  exact h _
theorem q_wd_c {f g : Nat → Int32} : ∀ d, (∀ i, i < d → f i = g i) → q_wd f d = q_wd g d
  | 0, _ => rfl
  | d + 1, h => by
    simp only [q_wd]
    rw [q_wd_c d (fun i hi => h i (by omega)), h d (by omega)]
def q_cmv (v : Nat → Nat → Int32) (n j : Nat) : Nat := if q_cut v j = true then 0 else n - 12 * q_ta v j
theorem q_cut_s {v : Nat → Nat → Int32} {i : Nat} : q_cut v (i + 1) = true ↔ (q_cut v i = true ∨ v 0 i = 2) := by
  show (q_cut v i || decide (v 0 i = 2)) = true ↔ _
  simp
theorem q_gf_eq (v : Nat → Nat → Int32) (n : Nat) : ∀ i : Nat, q_gf v n i = if q_cut v i = true then n else min n (12 * q_ta v i)
  | 0 => (Nat.min_zero n).symm
  | i + 1 => by
    have h := q_gf_eq v n i
    simp only [q_gf, q_ta]
    by_cases hc : q_cut v i = true
    · rw [if_pos hc] at h
      rw [h, if_pos (q_cut_s.mpr (Or.inl hc))]
      repeat' split
      all_goals omega
    · rw [if_neg hc] at h
      rw [h]
      by_cases ht : v 0 i = 0 ∨ v 0 i = 1
      · have hb : ¬ v 0 i = 2 := by
          rcases ht with e | e <;> rw [e] <;> decide
        rw [if_pos ht, if_pos ht, if_neg (fun q => (q_cut_s.mp q).elim hc hb)]
        split <;> omega
      · rw [if_neg ht, if_neg ht]
        by_cases hb : v 0 i = 2
        · rw [if_pos hb, if_pos (q_cut_s.mpr (Or.inr hb))]
        · rw [if_neg hb, if_neg (fun q => (q_cut_s.mp q).elim hc hb)]
theorem q_came (v : Nat → Nat → Int32) (n i : Nat) : n - q_gf v n i = q_cmv v n i := by
  rw [q_gf_eq]
  unfold q_cmv
  split <;> omega
theorem q_gt_all (v w : Nat → Nat → Int32) (n : Nat) : ∀ i : Nat, i ≤ 8 → (∀ q, q_gf v n i ≤ q → q < n → q_gt v w n i 2 q = q_tr v i (v 6 q)) ∧ (∀ j, j < i → q_gt v w n i 1 j = q_wbp v j n ∧ q_gt v w n i 0 j = nI (q_cmv v n j))
  | 0, _ => ⟨fun q _ _ => rfl, fun j hj => absurd hj (Nat.not_lt_zero j)⟩
  | i + 1, hi => by
    obtain ⟨hA, hB⟩ := q_gt_all v w n i (by omega)
    have hfl := q_gf_le v n i
    have hcm := q_came v n i
    -- behind the wire
    have s2 : ∀ q, q_gf v n i ≤ q → q < n → q_gs v i (q_gt v w n i) (q_gf v n i) n 2 q = q_ar v i (v 6 q) := by
      intro q h1 h2
      show q_pm (fun y => q_sh y (v 1 i)) (q_gt v w n i 2) (q_gf v n i) n q = _
      rw [q_pm_ap, if_pos ⟨h1, h2⟩, hA q h1 h2]
      rfl
    have s1 : ∀ j, q_gs v i (q_gt v w n i) (q_gf v n i) n 1 j = if j = i then v 2 i else q_gt v w n i 1 j := fun j => rfl
    have s0 : ∀ j, q_gs v i (q_gt v w n i) (q_gf v n i) n 0 j = if j = i then nI (n - q_gf v n i) else q_gt v w n i 0 j := fun j => rfl
    have b0 : ∀ j, j < i + 1 → q_gs v i (q_gt v w n i) (q_gf v n i) n 0 j = nI (q_cmv v n j) := by
      intro j hj
      rw [s0]
      by_cases e : j = i
      · subst e
        rw [if_pos rfl, hcm]
      · rw [if_neg e]
        exact (hB j (by omega)).2
    have b1 : ∀ j, j < i → q_gs v i (q_gt v w n i) (q_gf v n i) n 1 j = q_wbp v j n := by
      intro j hj
      rw [s1, if_neg (by omega)]
      exact (hB j hj).1
    by_cases ht : v 0 i = 0 ∨ v 0 i = 1
    · have eg : q_gt v w n (i + 1) = q_pt v (q_gs v i (q_gt v w n i) (q_gf v n i) n) i (q_gf v n i) n (q_gk v n i) := if_pos ht
      by_cases h12 : 12 ≤ n - q_gf v n i
      · have ef : q_gf v n (i + 1) = q_gf v n i + 12 := by
          simp only [q_gf]
          rw [if_pos ht, if_pos h12]
        have hcut : q_cut v i = false ∧ q_gf v n i = 12 * q_ta v i ∧ (q_ta v i + 1) * 12 ≤ n := by
          have hg := q_gf_eq v n i
          by_cases hc : q_cut v i = true
          · rw [if_pos hc] at hg
            omega
          · rw [if_neg hc] at hg
            exact ⟨by simpa using hc, by omega, by omega⟩
        rw [eg]
        unfold q_pt
        rw [if_pos h12]
        refine ⟨fun q h1 h2 => ?_, fun j hj => ⟨?_, b0 j hj⟩⟩
        · rw [ef] at h1
          show q_pm (q_ho v) (q_gs v i (q_gt v w n i) (q_gf v n i) n 2) (q_gf v n i + 12) n q = _
          rw [q_pm_ap, if_pos ⟨h1, h2⟩, s2 q (by omega) h2]
          simp only [q_tr]
          rw [if_pos ht]
          rfl
        · show (if j = i then q_wd (fun d => q_rd v (q_gs v i (q_gt v w n i) (q_gf v n i) n 2 (q_gf v n i + d))) 12 else q_gs v i (q_gt v w n i) (q_gf v n i) n 1 j) = _
          by_cases e : j = i
          · subst e
            rw [if_pos rfl]
            unfold q_wbp
            rw [if_pos ⟨⟨ht, hcut.1⟩, hcut.2.2⟩]
            refine q_wd_c 12 (fun d hd => ?_)
            rw [s2 _ (by omega) (by omega), hcut.2.1, Nat.mul_comm]
          · rw [if_neg e]
            exact b1 j (by omega)
      · have ef : q_gf v n (i + 1) = n := by
          simp only [q_gf]
          rw [if_pos ht, if_neg h12]
        rw [eg]
        unfold q_pt
        rw [if_neg h12]
        refine ⟨fun q h1 h2 => by omega, fun j hj => ⟨?_, b0 j hj⟩⟩
        show q_gs v i (q_gt v w n i) (q_gf v n i) n 1 j = _
        by_cases e : j = i
        · subst e
          rw [s1, if_pos rfl]
          unfold q_wbp
          rw [if_neg]
          rintro ⟨⟨-, hc⟩, hn⟩
          have hg := q_gf_eq v n j
          rw [hc] at hg
          simp at hg
          omega
        · exact b1 j (by omega)
    · have ew : ∀ j, j < i + 1 → q_gs v i (q_gt v w n i) (q_gf v n i) n 1 j = q_wbp v j n := by
        intro j hj
        by_cases e : j = i
        · subst e
          rw [s1, if_pos rfl]
          unfold q_wbp
          rw [if_neg (fun q => ht q.1.1)]
        · exact b1 j (by omega)
      by_cases hb : v 0 i = 2
      · have eg : q_gt v w n (i + 1) = su (q_gs v i (q_gt v w n i) (q_gf v n i) n) 3 1 (nI n) := by
          simp only [q_gt]
          rw [if_neg ht, if_pos hb]
        have ef : q_gf v n (i + 1) = n := by
          simp only [q_gf]
          rw [if_neg ht, if_pos hb]
        rw [eg]
        exact ⟨fun q h1 h2 => by omega, fun j hj => ⟨ew j hj, b0 j hj⟩⟩
      · have eg : q_gt v w n (i + 1) = q_gs v i (q_gt v w n i) (q_gf v n i) n := by
          simp only [q_gt]
          rw [if_neg ht, if_neg hb]
        have ef : q_gf v n (i + 1) = q_gf v n i := by
          simp only [q_gf]
          rw [if_neg ht, if_neg hb]
        rw [eg, ef]
        refine ⟨fun q h1 h2 => ?_, fun j hj => ⟨ew j hj, b0 j hj⟩⟩
        rw [s2 q h1 h2]
        simp only [q_tr]
        rw [if_neg ht]
        rfl
theorem q_lg_r {v w : Nat → Nat → Int32} {k : Nat} (hk : ¬ k = 2 ∧ ¬ k = 3 ∧ ¬ k = 4) : ∀ i : Nat, q_lg v w i k = v k
  | 0 => rfl
  | i + 1 => by
    rw [← q_lg_r (v := v) (w := w) hk i]
    simp only [q_lg, su, if_neg hk.1, if_neg hk.2.1, if_neg hk.2.2]
theorem q_lg_at {v w : Nat → Nat → Int32} : ∀ i : Nat, ∀ j, q_lg v w i 2 j = (if j < i then w 1 j else v 2 j) ∧ q_lg v w i 4 j = (if j < i then w 0 j else v 4 j) ∧ q_lg v w i 3 j = (if j < i then (if v 0 j = 0 then w 1 j else 0) else v 3 j)
  | 0, j => ⟨rfl, rfl, rfl⟩
  | i + 1, j => by
    obtain ⟨h1, h2, h3⟩ := q_lg_at (v := v) (w := w) i j
    have h0 : q_lg v w i 0 = v 0 := q_lg_r ⟨by decide, by decide, by decide⟩ i
    have e2 : q_lg v w (i + 1) 2 j = upd (q_lg v w i 2) i (w 1 i) j := rfl
    have e4 : q_lg v w (i + 1) 4 j = upd (q_lg v w i 4) i (w 0 i) j := rfl
    have e3 : q_lg v w (i + 1) 3 j = upd (q_lg v w i 3) i (if q_lg v w i 0 i = 0 then w 1 i else 0) j := rfl
    rw [e2, e4, e3, h0]
    simp only [q_upd]
    by_cases hji : j = i
    · subst hji
      refine ⟨?_, ?_, ?_⟩
      · rw [if_pos rfl, if_pos (by omega)]
      · rw [if_pos rfl, if_pos (by omega)]
      · rw [if_pos rfl]
        exact (if_pos (by omega)).symm
    · have hl : j < i + 1 ↔ j < i := by omega
      simp only [hl]
      refine ⟨?_, ?_, ?_⟩
      · rw [if_neg hji]
        exact h1
      · rw [if_neg hji]
        exact h2
      · rw [if_neg hji]
        exact h3
theorem q_hs_c {f g : Nat → Int32} {a b : Int64} (e : a = b) : ∀ d : Nat, (∀ i, i < d → f i = g i) → q_hs f a d = q_hs g b d
  | 0, _ => e
  | d + 1, h => by
    simp only [q_hs]
    rw [q_hs_c e d (fun i hi => h i (by omega)), h d (by omega)]
theorem q_brN (x k : Int32) : ∃ m : Nat, m ≤ 15 ∧ q_br x k = nI m := by
  have h := q_br_le x k
  refine ⟨(q_br x k).toInt.toNat, by omega, ?_⟩
  refine Int32.toInt_inj.mp ?_
  rw [nI_toInt (by omega)]
  omega
theorem q_inN {f : Nat → Int32} {s : Int32} {B : Nat} (hs : ∃ m : Nat, m ≤ B ∧ s = nI m) (hf : ∀ k, ∃ m : Nat, m ≤ 15 ∧ f k = nI m) : ∀ d : Nat, ∃ m : Nat, m ≤ B + 15 * d ∧ q_in f d s = nI m
  | 0 => hs
  | d + 1 => by
    obtain ⟨m, h1, h2⟩ := q_inN hs hf d
    obtain ⟨m2, h3, h4⟩ := hf d
    refine ⟨m + m2, by omega, ?_⟩
    simp only [q_in]
    rw [h2, h4, nI_add]
theorem q_sum2N {g : Nat → Nat → Int32} (hg : ∀ j k, ∃ m : Nat, m ≤ 15 ∧ g j k = nI m) : ∀ d : Nat, ∃ m : Nat, m ≤ 45 * d ∧ q_sum2 g d = nI m
  | 0 => ⟨0, by omega, rfl⟩
  | d + 1 => by
    obtain ⟨m, h1, h2⟩ := q_inN (q_sum2N hg d) (fun k => hg d k) 3
    exact ⟨m, by omega, h2⟩
theorem q_cwN (v : Nat → Nat → Int32) : ∃ m : Nat, m ≤ 360 ∧ q_cw v = nI m := q_sum2N (fun j k => q_brN _ _) 8
theorem q_shnN {v : Nat → Nat → Int32} (hs : ¬ v 5 2 < 0) (x k : Int32) : ∃ m : Nat, m ≤ 15 ∧ q_shn v (q_br x k) (q_cw v) = nI m := by
  obtain ⟨b, h1, h2⟩ := q_brN x k
  obtain ⟨w, h3, h4⟩ := q_cwN v
  rw [h2, h4]
  unfold q_shn
  by_cases a : nI w ≤ 0
  · exact ⟨b, h1, if_pos a⟩
  · rw [if_neg a]
    by_cases c : v 5 2 < nI w
    · rw [if_pos c]
      obtain ⟨s, h5, h6⟩ := nI_of hs
      rw [h6] at c ⊢
      have h7 := (nI_ltI h5 (by omega)).mp c
      have h8 : b * s ≤ 15 * s := Nat.mul_le_mul_right s h1
      rw [pk_mul, pk_div (by omega) (by omega) (by omega)]
      refine ⟨b * s / w, ?_, rfl⟩
      have h9 : b * s / w ≤ b * w / w := Nat.div_le_div_right (Nat.mul_le_mul_left b (by omega))
      rw [Nat.mul_div_cancel b (by omega)] at h9
      omega
    · exact ⟨b, h1, if_neg c⟩
theorem q_stN {v : Nat → Nat → Int32} (hs : ¬ v 5 2 < 0) : ∃ m : Nat, m ≤ 360 ∧ q_st v = nI m := q_sum2N (fun j k => q_shnN hs _ _) 8
theorem q_stF {v : Nat → Nat → Int32} (hs : ¬ v 5 2 < 0) : vf_n64 (FP.ddiv (FP.i2d (q_st v)) 4645040803167600640) ∧ Op.cmpValue (FP.dcmp (FP.ddiv (FP.i2d (q_st v)) 4645040803167600640) (FP.ddiv (FP.i2d (q_st v)) 4645040803167600640)) .l = 0 ∧ q_okb (FP.ddiv (FP.i2d (q_st v)) 4645040803167600640) (FP.ddiv (FP.i2d (q_st v)) 4645040803167600640).toInt64 := by
  obtain ⟨m, h1, h2⟩ := q_stN hs
  rw [h2]
  exact q_fp h1
