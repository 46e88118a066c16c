/-! p28: WHAT HOLDS OF A STATE, and what keeps it -/
def p_ok (v : Nat → Nat → Int32) (n T : Nat) : Prop := n ≤ 120 ∧ v 7 0 = nI n ∧ (∀ i, i < 8 → ∃ m, m < 4096 ∧ v 2 i = nI m) ∧ (∀ i, i < 8 → ∃ m, m < 4096 ∧ v 3 i = nI m) ∧ (∀ i, 0 < i → i < 8 → ¬ v 4 (i - 1) < v 4 i) ∧ (∃ c, c ≤ 360 ∧ v 5 2 = nI c) ∧ v 7 2 = nI (12 * T)
theorem p_ok_of {v v' : Nat → Nat → Int32} {n n' T : Nat} (h : p_ok v n T) (hn : n' ≤ 120) (h70 : v' 7 0 = nI n') (h2 : v' 2 = v 2) (h3 : v' 3 = v 3) (h4 : v' 4 = v 4) (h5 : v' 5 2 = v 5 2) (h72 : v' 7 2 = v 7 2) : p_ok v' n' T := by
  obtain ⟨a1, a2, a3, a4, a5, a6, a7⟩ := h
  refine ⟨hn, h70, ?_, ?_, ?_, ?_, ?_⟩
  · rw [h2]
    exact a3
  · rw [h3]
    exact a4
  · rw [h4]
    exact a5
  · rw [h5]
    exact a6
  · rw [h72]
    exact a7
theorem p_ok_s0 : p_ok q_s0 0 0 := by
  refine ⟨by omega, rfl, fun i _ => ⟨0, by omega, rfl⟩, fun i _ => ⟨0, by omega, rfl⟩, fun i _ _ => ?_, ⟨360, by omega, rfl⟩, rfl⟩
  show ¬ (0 : Int32) < 0
  decide
theorem p_ok_mode {v : Nat → Nat → Int32} {n T i : Nat} {x : Int32} (h : p_ok v n T) : p_ok (su v 0 i x) n T := p_ok_of h h.1 h.2.1 rfl rfl rfl rfl rfl
theorem p_ok_loss {v : Nat → Nat → Int32} {n T i : Nat} {x : Int32} (h : p_ok v n T) : p_ok (su v 1 i x) n T := p_ok_of h h.1 h.2.1 rfl rfl rfl rfl rfl
theorem p_ok_set {v : Nat → Nat → Int32} {n T i j : Nat} (h : p_ok v n T) (hj : j ≤ 360) : p_ok (su v 5 i (nI j)) n T := by
  obtain ⟨a1, a2, a3, a4, a5, a6, a7⟩ := h
  refine ⟨a1, a2, a3, a4, a5, ?_, a7⟩
  show ∃ c, c ≤ 360 ∧ upd (v 5) i (nI j) 2 = nI c
  rw [q_upd]
  by_cases e : 2 = i
  · rw [if_pos e]
    exact ⟨j, hj, rfl⟩
  · rw [if_neg e]
    exact a6
theorem p_ok_ap {v : Nat → Nat → Int32} {n T : Nat} {x : Int32} (h : p_ok v n T) (hn : n < 120) : p_ok (su (su v 6 n x) 7 0 (nI (n + 1))) (n + 1) T := p_ok_of h (by omega) rfl rfl rfl rfl rfl rfl
theorem p_ok_aw {v : Nat → Nat → Int32} {n T : Nat} {x : Int32} (h : p_ok v n T) : ∀ d : Nat, n + d ≤ 120 → p_ok (q_aw x n v d) (n + d) T
  | 0, _ => h
  | d + 1, hd => p_ok_ap (p_ok_aw (x := x) h d (by omega)) (by omega)
theorem p_ok_rfu {v : Nat → Nat → Int32} {n T : Nat} (h : p_ok v n T) : p_ok (q_rfu v) n T := p_ok_of h h.1 h.2.1 rfl rfl rfl rfl rfl
theorem p_ok_drop {v : Nat → Nat → Int32} {n T : Nat} {x : Int32} (h : p_ok v n T) : p_ok (su (su v 7 4 x) 7 0 0) 0 T := p_ok_of h (by omega) rfl rfl rfl rfl rfl rfl
/-! the gap -/
theorem p_wdN {f : Nat → Int32} (hf : ∀ d, f d = 1 ∨ f d = 0) : ∀ d : Nat, ∃ m, m < 2 ^ d ∧ q_wd f d = nI m
  | 0 => ⟨0, by omega, rfl⟩
  | d + 1 => by
    obtain ⟨m, h1, h2⟩ := p_wdN hf d
    have e : q_wd f (d + 1) = 2 * q_wd f d + f d := rfl
    have e2 : (2 : Int32) = nI 2 := rfl
    have e3 : (2 : Nat) ^ (d + 1) = 2 * 2 ^ d := by rw [Nat.pow_succ, Nat.mul_comm]
    rcases hf d with q | q
    · refine ⟨2 * m + 1, by omega, ?_⟩
      rw [e, h2, q, e2, pk_mul, show (1 : Int32) = nI 1 from rfl, nI_add]
    · refine ⟨2 * m, by omega, ?_⟩
      rw [e, h2, q, e2, pk_mul, Int32.add_zero]
theorem p_wbpN {v : Nat → Nat → Int32} {j n : Nat} (h : ∃ m, m < 4096 ∧ v 2 j = nI m) : ∃ m, m < 4096 ∧ q_wbp v j n = nI m := by
  unfold q_wbp
  by_cases c : ((v 0 j = 0 ∨ v 0 j = 1) ∧ q_cut v j = false) ∧ (q_ta v j + 1) * 12 ≤ n
  · rw [if_pos c]
    refine p_wdN (fun d => ?_) 12
    unfold q_rd
    by_cases a : ¬ q_ar v j (v 6 (q_ta v j * 12 + d)) < v 5 0
    · exact Or.inl (if_pos a)
    · exact Or.inr (if_neg a)
  · rw [if_neg c]
    exact h
theorem p_gf_mono (v : Nat → Nat → Int32) (n i : Nat) : q_gf v n i ≤ q_gf v n (i + 1) := by
  have h := q_gf_le v n i
  simp only [q_gf]
  split
  · split <;> omega
  · split
    · exact h
    · exact Nat.le_refl _
theorem p_gk_gf (v : Nat → Nat → Int32) (n : Nat) : ∀ i : Nat, q_gk v n i ≤ q_gf v n i ∧ q_gk v n i % 12 = 0
  | 0 => ⟨Nat.le_refl _, rfl⟩
  | i + 1 => by
    obtain ⟨h1, h2⟩ := p_gk_gf v n i
    have h3 := q_gf_le v n i
    simp only [q_gk, q_gf]
    split
    · split
      · omega
      · omega
    · split
      · omega
      · omega
theorem p_lc (v w : Nat → Nat → Int32) (n : Nat) : ∀ i : Nat, i ≤ 8 → ∃ c, c ≤ i ∧ 12 * c ≤ q_gk v n i ∧ q_lc v (q_gt v w n 8) i = nI c
  | 0, _ => ⟨0, by omega, by omega, rfl⟩
  | i + 1, hi => by
    obtain ⟨c, h1, h2, h3⟩ := p_lc v w n i (by omega)
    have e1 : q_lg v (q_gt v w n 8) i 2 i = v 2 i := by
      rw [(q_lg_at i i).1, if_neg (Nat.lt_irrefl i)]
    have e2 : q_gt v w n 8 1 i = q_wbp v i n := ((q_gt_all v w n 8 (Nat.le_refl 8)).2 i (by omega)).1
    have hk : q_gk v n i ≤ q_gk v n (i + 1) := by
      simp only [q_gk]
      split
      · split <;> omega
      · exact Nat.le_refl _
    by_cases e : q_lg v (q_gt v w n 8) i 2 i = q_gt v w n 8 1 i
    · refine ⟨c, by omega, by omega, ?_⟩
      show (if q_lg v (q_gt v w n 8) i 2 i = q_gt v w n 8 1 i then q_lc v (q_gt v w n 8) i else q_lc v (q_gt v w n 8) i + 1) = nI c
      rw [if_pos e]
      exact h3
    · have hc : ((v 0 i = 0 ∨ v 0 i = 1) ∧ q_cut v i = false) ∧ (q_ta v i + 1) * 12 ≤ n := by
        by_cases c1 : ((v 0 i = 0 ∨ v 0 i = 1) ∧ q_cut v i = false) ∧ (q_ta v i + 1) * 12 ≤ n
        · exact c1
        · refine absurd ?_ e
          rw [e1, e2]
          unfold q_wbp
          rw [if_neg c1]
      have hg := q_gf_eq v n i
      rw [if_neg (by rw [hc.1.2]; decide)] at hg
      have h12 : 12 ≤ n - q_gf v n i := by omega
      have hk2 : q_gk v n (i + 1) = q_gk v n i + 12 := by
        simp only [q_gk]
        rw [if_pos hc.1.1, if_pos h12]
      refine ⟨c + 1, by omega, by omega, ?_⟩
      show (if q_lg v (q_gt v w n 8) i 2 i = q_gt v w n 8 1 i then q_lc v (q_gt v w n 8) i else q_lc v (q_gt v w n 8) i + 1) = nI (c + 1)
      rw [if_neg e, h3]
      exact (nI_succ c).symm
theorem p_gpk {Y : Nat → Nat → Int32} {a b c d : Int32} {k : Nat} (hk : ¬ k = 7) : su (su (su (su Y 7 1 a) 7 2 b) 7 3 c) 7 0 d k = Y k := by
  simp only [su, if_neg hk]
theorem p_gp0 {Y : Nat → Nat → Int32} {a b c d : Int32} : su (su (su (su Y 7 1 a) 7 2 b) 7 3 c) 7 0 d 7 0 = d := rfl
theorem p_gp1 {Y : Nat → Nat → Int32} {a b c d : Int32} : su (su (su (su Y 7 1 a) 7 2 b) 7 3 c) 7 0 d 7 1 = a := rfl
theorem p_gp2 {Y : Nat → Nat → Int32} {a b c d : Int32} : su (su (su (su Y 7 1 a) 7 2 b) 7 3 c) 7 0 d 7 2 = b := rfl
theorem p_gp3 {Y : Nat → Nat → Int32} {a b c d : Int32} : su (su (su (su Y 7 1 a) 7 2 b) 7 3 c) 7 0 d 7 3 = c := rfl
theorem p_gap {v w : Nat → Nat → Int32} {n T : Nat} (h : p_ok v n T) : (∃ c, c ≤ 8 ∧ 12 * c ≤ q_gk v n 8 ∧ q_lc v (q_gt v w n 8) 8 = nI c) ∧ (q_gk v n 8 ≤ n ∧ q_gk v n 8 % 12 = 0 ∧ q_gk v n 8 ≤ 96) ∧ q_gp v (q_gt v w n 8) 7 2 - v 7 2 = nI (q_gk v n 8) ∧ q_gp v (q_gt v w n 8) 7 3 = v 7 3 + nI n - nI (q_gk v n 8) ∧ q_gp v (q_gt v w n 8) 7 1 = v 7 1 + 1 ∧ q_gp v (q_gt v w n 8) 7 0 = 0 ∧ q_gp v (q_gt v w n 8) 4 0 = nI n ∧ p_ok (q_gp v (q_gt v w n 8)) 0 (T + q_gk v n 8 / 12) := by
  obtain ⟨a1, a2, a3, a4, a5, a6, a7⟩ := h
  have k1 := p_gk_gf v n 8
  have k2 := q_gf_le v n 8
  have k3 := q_gk_le v n 8
  have hW := (q_gt_inv v w n 8).2.2
  have hA := (q_gt_all v w n 8 (Nat.le_refl 8)).2
  have e7 : q_lg v (q_gt v w n 8) 8 7 = v 7 := q_lg_r ⟨by decide, by decide, by decide⟩ 8
  have e5 : q_lg v (q_gt v w n 8) 8 5 = v 5 := q_lg_r ⟨by decide, by decide, by decide⟩ 8
  have f0 : q_gp v (q_gt v w n 8) 7 0 = 0 := p_gp0 (Y := q_lg v (q_gt v w n 8) 8)
  have f1 : q_gp v (q_gt v w n 8) 7 1 = v 7 1 + 1 := by
    rw [← e7]
    exact p_gp1 (Y := q_lg v (q_gt v w n 8) 8)
  have f2 : q_gp v (q_gt v w n 8) 7 2 = v 7 2 + nI (q_gk v n 8) := by
    rw [← e7, ← hW]
    exact p_gp2 (Y := q_lg v (q_gt v w n 8) 8)
  have f3 : q_gp v (q_gt v w n 8) 7 3 = v 7 3 + (nI n - nI (q_gk v n 8)) := by
    rw [← a2, ← hW, ← e7]
    exact p_gp3 (Y := q_lg v (q_gt v w n 8) 8)
  have r2 : q_gp v (q_gt v w n 8) 2 = q_lg v (q_gt v w n 8) 8 2 := p_gpk (Y := q_lg v (q_gt v w n 8) 8) (by decide)
  have r3 : q_gp v (q_gt v w n 8) 3 = q_lg v (q_gt v w n 8) 8 3 := p_gpk (Y := q_lg v (q_gt v w n 8) 8) (by decide)
  have r4 : q_gp v (q_gt v w n 8) 4 = q_lg v (q_gt v w n 8) 8 4 := p_gpk (Y := q_lg v (q_gt v w n 8) 8) (by decide)
  have r5 : q_gp v (q_gt v w n 8) 5 = q_lg v (q_gt v w n 8) 8 5 := p_gpk (Y := q_lg v (q_gt v w n 8) 8) (by decide)
  have g2 : ∀ i, i < 8 → q_gp v (q_gt v w n 8) 2 i = q_wbp v i n := fun i hi => by
    rw [r2, (q_lg_at 8 i).1, if_pos hi]
    exact (hA i hi).1
  have g3 : ∀ i, i < 8 → q_gp v (q_gt v w n 8) 3 i = if v 0 i = 0 then q_wbp v i n else 0 := fun i hi => by
    rw [r3, (q_lg_at 8 i).2.2, if_pos hi, (hA i hi).1]
  have g4 : ∀ i, i < 8 → q_gp v (q_gt v w n 8) 4 i = nI (n - q_gf v n i) := fun i hi => by
    rw [r4, (q_lg_at 8 i).2.1, if_pos hi, (hA i hi).2, q_came]
  have hgf0 : q_gf v n 0 = 0 := rfl
  have hdv : 12 * (T + q_gk v n 8 / 12) = 12 * T + q_gk v n 8 := by omega
  refine ⟨p_lc v w n 8 (Nat.le_refl 8), ⟨by omega, k1.2, by omega⟩, ?_, ?_, f1, f0, ?_, ?_⟩
  · rw [f2, Int32.add_comm, Int32.add_sub_cancel]
  · rw [f3, Int32.sub_eq_add_neg, Int32.sub_eq_add_neg, Int32.add_assoc]
  · rw [g4 0 (by omega), hgf0, Nat.sub_zero]
  · refine ⟨by omega, f0, fun i hi => ?_, fun i hi => ?_, fun i h0 hi => ?_, ?_, ?_⟩
    · rw [g2 i hi]
      exact p_wbpN (a3 i hi)
    · rw [g3 i hi]
      by_cases c : v 0 i = 0
      · rw [if_pos c]
        exact p_wbpN (a3 i hi)
      · rw [if_neg c]
        exact ⟨0, by omega, rfl⟩
    · obtain ⟨j, rfl⟩ : ∃ j, i = j + 1 := ⟨i - 1, by omega⟩
      rw [g4 _ hi, show j + 1 - 1 = j by omega, g4 j (by omega)]
      have hm := p_gf_mono v n j
      exact fun hlt => by
        have := (nI_ltI (by omega) (by omega)).mp hlt
        omega
    · rw [r5, e5]
      exact a6
    · rw [f2, a7, nI_add, hdv]
/-! what is seen, and the hash -/
def p_see (v : Nat → Nat → Int32) (n : Nat) : Int64 := 31 * (31 * (31 * q_hs (fun k => if k < n then v 6 k else -1) (q_hs (fun k => q_lo v (k / 8) (k % 8)) (q_hs (q_co v 0) 107 10) 64) n + (v 5 0).toInt64) + (v 5 1).toInt64) + (v 5 2).toInt64
theorem p_see_z (v : Nat → Nat → Int32) (z : Nat) : q_hs (q_co v z) 107 10 = q_hs (q_co v 0) 107 10 := q_hs_c rfl 10 (fun i hi => by
  rcases (show i = 0 ∨ i = 1 ∨ i = 2 ∨ i = 3 ∨ i = 4 ∨ i = 5 ∨ i = 6 ∨ i = 7 ∨ i = 8 ∨ i = 9 by omega) with rfl | rfl | rfl | rfl | rfl | rfl | rfl | rfl | rfl | rfl
  all_goals rfl)
def p_dig (v : Nat → Nat → Int32) (n z : Nat) (f : Nat → Option Nat) : Int64 := q_di v (q_gt v q_z0 n 8) n z f q_z0 0 (FP.ddiv (FP.i2d (q_st v)) 4645040803167600640).toInt64
theorem p_wl_cc {v W W' : Nat → Nat → Int32} {n : Nat} {a : Int64} (h : ∀ i, i < 8 → W 1 i = W' 1 i) : ∀ i : Nat, i ≤ 8 → q_wl v W n a i = q_wl v W' n a i
  | 0, _ => rfl
  | i + 1, hi => by
    have ih := p_wl_cc (v := v) (n := n) (a := a) h i (by omega)
    simp only [q_wl]
    unfold q_wl1
    rw [ih, h i (by omega)]
theorem p_wl_c {v w w' : Nat → Nat → Int32} {n : Nat} {a : Int64} : q_wl v (q_gt v w n 8) n a 8 = q_wl v (q_gt v w' n 8) n a 8 := p_wl_cc (fun i hi => (((q_gt_all v w n 8 (Nat.le_refl 8)).2 i hi).1).trans (((q_gt_all v w' n 8 (Nat.le_refl 8)).2 i hi).1).symm) 8 (Nat.le_refl 8)
theorem p_dig_w {v w w' t : Nat → Nat → Int32} {n z k : Nat} {f : Nat → Option Nat} {B : Int64} : q_di v (q_gt v w n 8) n z f t k B = q_di v (q_gt v w' n 8) n z f t k B := by
  unfold q_di
  rw [p_wl_c (w' := w')]
/-! sums of what is wanted and of what is shown -/
theorem p_br {m : Nat} (hm : m < 4096) : q_br (nI m) (nI 0) = nI (m / 256) ∧ q_br (nI m) (nI 1) = nI (m / 16 % 16) ∧ q_br (nI m) (nI 2) = nI (m % 16) := by
  unfold q_br
  refine ⟨?_, ?_, ?_⟩
  · rw [pk_shrN (by omega) _ 8 (by decide), pk_andN (by omega) 4 (by decide)]
    congr 1
    omega
  · rw [pk_shrN (by omega) _ 4 (by decide), pk_andN (by omega) 4 (by decide)]
  · rw [pk_shrN (by omega) _ 0 (by decide), pk_andN (by omega) 4 (by decide)]
    congr 1
    omega
theorem p_want {v : Nat → Nat → Int32} {i m : Nat} (e : v 3 i = nI m) (hm : m < 4096) : q_sum2 (fun j k => q_br (v 3 j) (nI k)) i + nI (m / 256 + m / 16 % 16 + m % 16) = q_sum2 (fun j k => q_br (v 3 j) (nI k)) (i + 1) := by
  obtain ⟨h1, h2, h3⟩ := p_br hm
  show _ = q_sum2 (fun j k => q_br (v 3 j) (nI k)) i + q_br (v 3 i) (nI 0) + q_br (v 3 i) (nI 1) + q_br (v 3 i) (nI 2)
  rw [e, h1, h2, h3, ← nI_add, ← nI_add, Int32.add_assoc, Int32.add_assoc, Int32.add_assoc]
theorem p_cntN {v : Nat → Nat → Int32} {i m : Nat} (e : v 3 i = nI m) (hm : m < 4096) : q_cnt (v 3) i + (if m = 0 then 0 else 1) = q_cnt (v 3) (i + 1) := by
  show _ = if v 3 i = 0 then q_cnt (v 3) i else q_cnt (v 3) i + 1
  rw [e]
  by_cases c : m = 0
  · subst c
    rw [if_pos rfl, if_pos (show nI 0 = 0 from rfl), Int32.add_zero]
  · rw [if_neg c, if_neg (nI_ne0 (by omega) (by omega))]
theorem p_brk {m k : Nat} (hk : k < 3) : (nI m >>> ((8 - nI (4 * k)) &&& 31)) &&& 15 = q_br (nI m) (nI k) := by
  rcases (show k = 0 ∨ k = 1 ∨ k = 2 by omega) with rfl | rfl | rfl
  all_goals rfl
theorem p_shnB {v : Nat → Nat → Int32} {c W : Nat} (h5 : v 5 2 = nI c) (hc : c ≤ 360) (hw : q_cw v = nI W) (hW : W ≤ 360) (x k : Int32) : ∃ b r, b ≤ 15 ∧ r ≤ b ∧ q_br x k = nI b ∧ q_shn v (q_br x k) (q_cw v) = nI r ∧ (c < W → r * W ≤ b * c) := by
  obtain ⟨b, h1, h2⟩ := q_brN x k
  by_cases a : nI W ≤ 0
  · refine ⟨b, b, h1, Nat.le_refl b, h2, ?_, fun h => absurd a (nI_nle (by omega) (by omega))⟩
    rw [h2, hw]
    exact if_pos a
  · by_cases d : v 5 2 < nI W
    · have d2 : c < W := by
        rw [h5] at d
        exact (nI_ltI (by omega) (by omega)).mp d
      have h8 : b * c ≤ 15 * c := Nat.mul_le_mul_right c h1
      have h9 : b * c / W ≤ b * W / W := Nat.div_le_div_right (Nat.mul_le_mul_left b (by omega))
      rw [Nat.mul_div_cancel b (by omega)] at h9
      refine ⟨b, b * c / W, h1, h9, h2, ?_, fun _ => Nat.div_mul_le_self (b * c) W⟩
      rw [h2, hw]
      unfold q_shn
      rw [if_neg a, if_pos d, h5, pk_mul, pk_div (by omega) (by omega) (by omega)]
    · refine ⟨b, b, h1, Nat.le_refl b, h2, ?_, fun h => absurd (show v 5 2 < nI W by rw [h5]; exact (nI_ltI (by omega) (by omega)).mpr h) d⟩
      rw [h2, hw]
      unfold q_shn
      rw [if_neg a, if_neg d]
theorem p_shn {v : Nat → Nat → Int32} {c : Nat} (h5 : v 5 2 = nI c) (hc : c ≤ 360) (x k : Int32) : ¬ q_shn v (q_br x k) (q_cw v) < 0 ∧ ¬ q_br x k < q_shn v (q_br x k) (q_cw v) := by
  obtain ⟨W, hW, hw⟩ := q_cwN v
  obtain ⟨b, r, h1, h2, h3, h4, -⟩ := p_shnB h5 hc hw hW x k
  rw [h4, h3]
  exact ⟨nI_pos (by omega), fun h => by have := (nI_ltI (by omega) (by omega)).mp h; omega⟩
theorem p_in2 {f g : Nat → Int32} {W c A S B : Nat} {s t : Int32} (hf : ∀ k, ∃ b r, b ≤ 15 ∧ r ≤ b ∧ f k = nI b ∧ g k = nI r ∧ r * W ≤ b * c) (hs : s = nI A) (ht : t = nI S) (h : S * W ≤ A * c) (hA : A ≤ B) (hSA : S ≤ A) : ∀ d : Nat, ∃ A' S', A' ≤ B + 15 * d ∧ S' ≤ A' ∧ q_in f d s = nI A' ∧ q_in g d t = nI S' ∧ S' * W ≤ A' * c
  | 0 => ⟨A, S, by omega, hSA, hs, ht, h⟩
  | d + 1 => by
    obtain ⟨A', S', h1, h2, h3, h4, h5⟩ := p_in2 hf hs ht h hA hSA d
    obtain ⟨b, r, k1, k2, k3, k4, k5⟩ := hf d
    refine ⟨A' + b, S' + r, by omega, by omega, ?_, ?_, ?_⟩
    · simp only [q_in]
      rw [h3, k3, nI_add]
    · simp only [q_in]
      rw [h4, k4, nI_add]
    · rw [Nat.add_mul, Nat.add_mul]
      omega
theorem p_sum22 {f g : Nat → Nat → Int32} {W c : Nat} (hf : ∀ j k, ∃ b r, b ≤ 15 ∧ r ≤ b ∧ f j k = nI b ∧ g j k = nI r ∧ r * W ≤ b * c) : ∀ d : Nat, ∃ A S, A ≤ 45 * d ∧ S ≤ A ∧ q_sum2 f d = nI A ∧ q_sum2 g d = nI S ∧ S * W ≤ A * c
  | 0 => ⟨0, 0, by omega, by omega, rfl, rfl, by omega⟩
  | d + 1 => by
    obtain ⟨A, S, h1, h2, h3, h4, h5⟩ := p_sum22 hf d
    obtain ⟨A', S', k1, k2, k3, k4, k5⟩ := p_in2 (hf d) h3 h4 h5 h1 h2 3
    exact ⟨A', S', by omega, k2, k3, k4, k5⟩
theorem p_shown {v : Nat → Nat → Int32} {c : Nat} (h5 : v 5 2 = nI c) (hc : c ≤ 360) : ¬ nI c + (if q_cw v ≤ nI c then 360 else 0) < q_st v := by
  obtain ⟨W, hW, hw⟩ := q_cwN v
  by_cases a : q_cw v ≤ nI c
  · rw [if_pos a]
    obtain ⟨m, h1, h2⟩ := q_stN (v := v) (by rw [h5]; exact nI_pos (by omega))
    rw [h2, show (360 : Int32) = nI 360 from rfl, nI_add]
    exact fun h => by
      have := (nI_ltI (by omega) (by omega)).mp h
      omega
  · have hcW : c < W := by
      rcases Nat.lt_or_ge c W with q | q
      · exact q
      · refine absurd ?_ a
        rw [hw]
        exact (nI_leI (by omega) (by omega)).mpr q
    rw [if_neg a, Int32.add_zero]
    obtain ⟨A, S, h1, h2, h3, h4, k5⟩ := p_sum22 (f := fun j k => q_br (v 3 j) (nI k)) (g := fun j k => q_shn v (q_br (v 3 j) (nI k)) (q_cw v)) (W := W) (c := c) (fun j k => by
      obtain ⟨b, r, q1, q2, q3, q4, q5⟩ := p_shnB h5 hc hw hW (v 3 j) (nI k)
      exact ⟨b, r, q1, q2, q3, q4, q5 hcW⟩) 8
    have e1 : q_cw v = nI A := h3
    have e2 : q_st v = nI S := h4
    have e3 : A = W := (nI_eq (by omega) (by omega)).mp (e1.symm.trans hw)
    subst e3
    rw [Nat.mul_comm A c] at k5
    have k6 := Nat.le_of_mul_le_mul_right k5 (show 0 < A by omega)
    rw [e2]
    exact fun h => by
      have := (nI_ltI (by omega) (by omega)).mp h
      omega
theorem p_wu1 {v : Nat → Nat → Int32} {i : Nat} (hi : i < 8) (h : ¬ q_wu v i = -1) : ¬ q_wu v i ≤ 0 ∧ ¬ nI (i + 1) < q_wu v i := by
  rw [q_wu_nat h]
  have h2 := q_ta_le v i
  exact ⟨nI_nle (by omega) (by omega), fun h => by
    have := (nI_ltI (by omega) (by omega)).mp h
    omega⟩
def p_fpd (n : Nat) : Bool := decide (¬ Op.cmpValue (FP.dcmp (q_fx n) FP.dconst0) .l < 0) && decide (¬ 0 < Op.cmpValue (FP.dcmp (q_fx n) FP.dconst1) .g)
theorem p_fpa : ∀ n : Nat, n < 361 → p_fpd n = true := by decide +kernel
theorem p_bri {v : Nat → Nat → Int32} (hs : ¬ v 5 2 < 0) : ¬ Op.cmpValue (FP.dcmp (FP.ddiv (FP.i2d (q_st v)) 4645040803167600640) FP.dconst0) .l < 0 ∧ ¬ 0 < Op.cmpValue (FP.dcmp (FP.ddiv (FP.i2d (q_st v)) 4645040803167600640) FP.dconst1) .g := by
  obtain ⟨m, h1, h2⟩ := q_stN hs
  rw [h2]
  have h := p_fpa m (by omega)
  simp only [p_fpd, Bool.and_eq_true, decide_eq_true_eq] at h
  exact h
theorem p_add4 (a b c d : Int32) : a + b + c + d = d + a + b + c := by
  rw [Int32.add_comm (a + b + c) d, ← Int32.add_assoc, ← Int32.add_assoc]
/-! what is sent -/
theorem p_aw7 {w : Int32} {n i : Nat} {v : Nat → Nat → Int32} (hi : ¬ i = 0) : ∀ d : Nat, q_aw w n v d 7 i = v 7 i
  | 0 => rfl
  | d + 1 => by
    rw [← p_aw7 (w := w) (n := n) (v := v) hi d]
    show upd (q_aw w n v d 7) 0 (nI (n + d + 1)) i = q_aw w n v d 7 i
    rw [q_upd, if_neg hi]
theorem p_aw_sent {w : Int32} {n : Nat} {v : Nat → Nat → Int32} (h : v 7 0 = nI n) : q_aw w n v 12 7 2 + q_aw w n v 12 7 3 + q_aw w n v 12 7 4 + q_aw w n v 12 7 0 = v 7 2 + v 7 3 + v 7 4 + v 7 0 + 12 := by
  rw [p_aw7 (by decide) 12, p_aw7 (by decide) 12, p_aw7 (by decide) 12, q_aw_cnt h 12, h, ← nI_add, show nI 12 = 12 from rfl, Int32.add_assoc _ (nI n) 12]
theorem p_ap_sent {x : Int32} {n : Nat} {v : Nat → Nat → Int32} (h : v 7 0 = nI n) : su (su v 6 n x) 7 0 (nI (n + 1)) 7 2 + su (su v 6 n x) 7 0 (nI (n + 1)) 7 3 + su (su v 6 n x) 7 0 (nI (n + 1)) 7 4 + su (su v 6 n x) 7 0 (nI (n + 1)) 7 0 = v 7 2 + v 7 3 + v 7 4 + v 7 0 + 1 := by
  show v 7 2 + v 7 3 + v 7 4 + nI (n + 1) = _
  rw [h, nI_succ, Int32.add_assoc _ (nI n) 1]
theorem p_aw_last {m n : Nat} {v : Nat → Nat → Int32} (hm : m < 4096) : (if n + 12 - 1 < n + 12 then q_aw (nI m) n v 12 6 (n + 12 - 1) else -1) = if m % 2 = 1 then 8 else 4 := by
  rw [if_pos (by omega), show n + 12 - 1 = n + 11 by omega]
  have e : q_aw (nI m) n v 12 6 (n + 11) = q_bit (nI m) 11 := by
    show upd (q_aw (nI m) n v 11 6) (n + 11) (q_bit (nI m) 11) (n + 11) = _
    rw [q_upd, if_pos rfl]
  rw [e]
  unfold q_bit
  rw [pk_shrN (by omega) _ 0 (by decide), pk_andN (by omega) 1 (by decide)]
  have e2 : m / 2 ^ 0 % 2 ^ 1 = m % 2 := by omega
  rw [e2, show (1 : Int32) = nI 1 from rfl]
  by_cases c : m % 2 = 1
  · rw [if_pos c, if_pos (by rw [c])]
  · rw [if_neg c, if_neg (fun h => c ((nI_eq (by omega) (by omega)).mp h))]
theorem p_ap_last {n : Nat} {x : Int32} {v : Nat → Nat → Int32} : (if n + 1 - 1 < n + 1 then su (su v 6 n x) 7 0 (nI (n + 1)) 6 (n + 1 - 1) else -1) = x := by
  rw [if_pos (by omega), show n + 1 - 1 = n by omega]
  show upd (v 6) n x n = x
  rw [q_upd, if_pos rfl]
/-! what is saved -/
theorem p_push_z {L L1 : HsL} {z z1 : Nat} {v : Nat → Nat → Int32} (hz : z ≤ L.length) (hL : L.length ≤ 6) (hz1 : z1 ≤ L1.length) (hp : (L1.take z1).map Prod.snd = q_push ((L.take z).map Prod.snd) v) : z1 = if 6 ≤ z then 6 else z + 1 := by
  have e1 : ((L1.take z1).map Prod.snd).length = z1 := by
    simp
    omega
  have e2 : ((L.take z).map Prod.snd).length = z := by
    simp
    omega
  rw [hp] at e1
  unfold q_push at e1
  rw [e2] at e1
  by_cases c : z = 6
  · rw [if_pos c] at e1
    rw [if_pos (by omega)]
    rw [List.length_append, List.length_tail, e2] at e1
    simp at e1
    omega
  · rw [if_neg c] at e1
    rw [if_neg (by omega)]
    rw [List.length_append, e2] at e1
    simp at e1
    omega
theorem p_push_top {L L1 : HsL} {z z1 : Nat} {v : Nat → Nat → Int32} (hp : (L1.take z1).map Prod.snd = q_push ((L.take z).map Prod.snd) v) : ∃ V, (L1.take z1).map Prod.snd = V ++ [v] := ⟨_, hp⟩
/-! arguments out of range -/
theorem p_neg : ∀ k : Nat, k < 99 → (-1 - nI k : Int32) < 0 := by decide +kernel
