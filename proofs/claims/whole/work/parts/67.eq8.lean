/-! CLASS AGAINST REFERENCE, 8: the hash; small sums -/
theorem q_hs_c {f g : Nat → Int32} {a b : Int64} (e : a = b) : ∀ d : Nat, (∀ i, i < d → f i = g i) → q_hs f a d = q_hs g b d
  | 0, _ => e
  | d + 1, h => by
    simp only [q_hs]
    rw [q_hs_c e d (fun i hi => h i (by omega)), h d (by omega)]
theorem q_hk_hs {u : Nat → Nat → Int32} {f : Nat → Option Nat} {a b : Int64} (e : a = b) : ∀ d : Nat, (∀ j, j < d → (f j = none ↔ u 3 j = 0)) → q_hs (fun j => if f j = none then 0 else 1) a d = q_hk u b d
  | 0, _ => e
  | d + 1, h => by
    simp only [q_hs, q_hk]
    rw [q_hk_hs e d (fun i hi => h i (by omega))]
    have h2 := h d (by omega)
    by_cases q : u 3 d = 0
    · rw [if_pos q, if_pos (h2.mpr q)]
      rfl
    · rw [if_neg q, if_neg (fun z => q (h2.mp z))]
      rfl
theorem q_wl_wlm {u v w : Nat → Nat → Int32} {n : Nat} {a b : Int64} (h : q_E n v (zv u)) (ht : u 6 3 = -1) (e : a = b) : ∀ i : Nat, i ≤ 8 → q_wl v (q_gt v w n 8) n a i = q_wlm u n b i
  | 0, _ => e
  | i + 1, hi => by
    have ih := q_wl_wlm (w := w) h ht e i (by omega)
    simp only [q_wl, q_wlm]
    unfold q_wl1 q_wl1m
    have h1 : q_gt v w n 8 1 i = q_wb u n i := by
      rw [((q_gt_all v w n 8 (by omega)).2 i (by omega)).1, q_wb_wbp ht, e_wbp h (by omega)]
    have h2 : q_wbp v i n = q_wb u n i := by
      rw [q_wb_wbp ht, e_wbp h (by omega)]
    rw [h1, h2, q_be_fl h (by omega), e_wu h (by omega), q_hs_c ih 8 (fun k _ => e_lo h (by omega))]
theorem q_di_dim {u v w t : Nat → Nat → Int32} {n z k : Nat} {f : Nat → Option Nat} (h : q_E n v (zv u)) (ht : u 6 3 = -1) (hs : u 0 44 = zv u 7 2 + zv u 7 3 + zv u 7 4 + zv u 7 0) (hz : u 6 0 = nI z) (hf : ∀ j, j < 2 → (f j = none ↔ u 3 j = 0)) (hx : ∀ y, y < k → t 0 y = u 4 y) : q_di v (q_gt v w n 8) n z f t k (FP.ddiv (FP.i2d (q_st v)) 4645040803167600640).toInt64 = q_dim u n k := by
  unfold q_di q_dim
  have e1 : q_hs (q_co v z) 3517 11 = q_hs (q_nm u) 3517 11 := q_hs_c rfl 11 (fun i hi => by rw [q_nm_co hs hz hi, e_co h])
  have e2 : q_hs (v 5) (q_hs (q_co v z) 3517 11) 3 = q_hs (zv u 5) (q_hs (q_nm u) 3517 11) 3 := q_hs_c e1 3 (fun i hi => h.2.1 i hi)
  have e3 := q_wl_wlm (w := w) h ht e2 8 (by omega)
  have e4 := q_hs_c e3 n (fun i hi => h.2.2.1 i hi)
  have e5 : q_bk v = q_bf (su u 6 3 0) 8 := by
    rw [q_bf_bk]
    exact e_bk h
  rw [e4, e5, e_st h, show (1365 : Int32) = nI 1365 from rfl, show (4095 : Int32) = nI 4095 from rfl, q_wv_wm h (by omega), q_wv_wm h (by omega)]
  exact q_hs_c (by rw [q_hk_hs rfl 2 hf]) k hx
theorem q_brN (x k : Int32) : ∃ m : Nat, m ≤ 15 ∧ q_br x k = nI m := by
  have h := q_br_le x k
  refine ⟨(q_br x k).toInt.toNat, by omega, ?_⟩
  refine Int32.toInt_inj.mp ?_
  rw [nI_toInt (by omega)]
  omega
theorem q_inN {f : Nat → Int32} {s : Int32} {B : Nat} (hs : ∃ m : Nat, m ≤ B ∧ s = nI m) (hf : ∀ k, ∃ m : Nat, m ≤ 15 ∧ f k = nI m) : ∀ d : Nat, ∃ m : Nat, m ≤ B + 15 * d ∧ q_in f d s = nI m
  | 0 => hs
  | d + 1 => by
    obtain ⟨m, h1, h2⟩ := q_inN hs hf d
    obtain ⟨m2, h3, h4⟩ := hf d
    refine ⟨m + m2, by omega, ?_⟩
    simp only [q_in]
    rw [h2, h4, nI_add]
theorem q_sum2N {g : Nat → Nat → Int32} (hg : ∀ j k, ∃ m : Nat, m ≤ 15 ∧ g j k = nI m) : ∀ d : Nat, ∃ m : Nat, m ≤ 45 * d ∧ q_sum2 g d = nI m
  | 0 => ⟨0, by omega, rfl⟩
  | d + 1 => by
    obtain ⟨m, h1, h2⟩ := q_inN (q_sum2N hg d) (fun k => hg d k) 3
    exact ⟨m, by omega, h2⟩
theorem q_cwN (v : Nat → Nat → Int32) : ∃ m : Nat, m ≤ 360 ∧ q_cw v = nI m := q_sum2N (fun j k => q_brN _ _) 8
theorem q_shnN {v : Nat → Nat → Int32} (hs : ¬ v 5 2 < 0) (x k : Int32) : ∃ m : Nat, m ≤ 15 ∧ q_shn v (q_br x k) (q_cw v) = nI m := by
  obtain ⟨b, h1, h2⟩ := q_brN x k
  obtain ⟨w, h3, h4⟩ := q_cwN v
  rw [h2, h4]
  unfold q_shn
  by_cases a : nI w ≤ 0
  · exact ⟨b, h1, if_pos a⟩
  · rw [if_neg a]
    by_cases c : v 5 2 < nI w
    · rw [if_pos c]
      obtain ⟨s, h5, h6⟩ := nI_of hs
      rw [h6] at c ⊢
      have h7 := (nI_ltI h5 (by omega)).mp c
      have h8 : b * s ≤ 15 * s := Nat.mul_le_mul_right s h1
      rw [pk_mul, pk_div (by omega) (by omega) (by omega)]
      refine ⟨b * s / w, ?_, rfl⟩
      have h9 : b * s / w ≤ b * w / w := Nat.div_le_div_right (Nat.mul_le_mul_left b (by omega))
      rw [Nat.mul_div_cancel b (by omega)] at h9
      omega
    · exact ⟨b, h1, if_neg c⟩
theorem q_stN {v : Nat → Nat → Int32} (hs : ¬ v 5 2 < 0) : ∃ m : Nat, m ≤ 360 ∧ q_st v = nI m := q_sum2N (fun j k => q_shnN hs _ _) 8
theorem q_stF {v : Nat → Nat → Int32} (hs : ¬ v 5 2 < 0) : vf_n64 (FP.ddiv (FP.i2d (q_st v)) 4645040803167600640) ∧ Op.cmpValue (FP.dcmp (FP.ddiv (FP.i2d (q_st v)) 4645040803167600640) (FP.ddiv (FP.i2d (q_st v)) 4645040803167600640)) .l = 0 ∧ q_okb (FP.ddiv (FP.i2d (q_st v)) 4645040803167600640) (FP.ddiv (FP.i2d (q_st v)) 4645040803167600640).toInt64 := by
  obtain ⟨m, h1, h2⟩ := q_stN hs
  rw [h2]
  exact q_fp h1
