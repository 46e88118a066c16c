/-! NUMBERS: brightness as a double, its bits -/
def q_kof (n : Nat) : Nat := if 360 ≤ n then 0 else if 180 ≤ n then 1 else if 90 ≤ n then 2 else if 45 ≤ n then 3 else if 23 ≤ n then 4 else if 12 ≤ n then 5 else if 6 ≤ n then 6 else if 3 ≤ n then 7 else if 2 ≤ n then 8 else 9
def q_fx (n : Nat) : UInt64 := FP.ddiv (FP.i2d (nI n)) 4645040803167600640
def q_n64b (r : UInt64) : Bool := decide (r &&& 0x7fffffffffffffff ≤ 0x7ff0000000000000)
theorem q_n64b_v {r : UInt64} (h : q_n64b r = true) : vf_n64 r := by
  unfold vf_n64
  exact of_decide_eq_true h
def q_okc (x : UInt64) (K : Nat) : Bool := decide (0 < Op.cmpValue (FP.dcmp x FP.dconst0) .g) && decide (K ≤ 20) && (List.range K).all (fun k => decide (Op.cmpValue (FP.dcmp (q_sc x k) FP.dconst1) .g < 0) && q_n64b (FP.dmul (q_sc x k) 4611686018427387904)) && decide (0 ≤ Op.cmpValue (FP.dcmp (q_sc x K) FP.dconst1) .g) && q_n64b (FP.dsub (q_sc x K) FP.dconst1) && q_n64b (FP.dmul (FP.dsub (q_sc x K) FP.dconst1) 4841369599423283200)
theorem q_okc_v {x : UInt64} {K : Nat} (h : q_okc x K = true) : q_okK x K := by
  simp only [q_okc, Bool.and_eq_true, decide_eq_true_eq, List.all_eq_true, List.mem_range] at h
  obtain ⟨⟨⟨⟨⟨h1, h2⟩, h3⟩, h4⟩, h5⟩, h6⟩ := h
  exact ⟨h1, h2, fun k hk => ⟨(h3 k hk).1, q_n64b_v (h3 k hk).2⟩, h4, q_n64b_v h5, q_n64b_v h6⟩
def q_fpc (n : Nat) : Bool := q_n64b (q_fx n) && decide (Op.cmpValue (FP.dcmp (q_fx n) (q_fx n)) .l = 0) && (if n = 0 then decide (¬ 0 < Op.cmpValue (FP.dcmp (q_fx n) FP.dconst0) .g) && decide ((q_fx n).toInt64 = 0) else q_okc (q_fx n) (q_kof n) && decide (q_bv (q_fx n) (q_kof n) = (q_fx n).toInt64))
theorem q_fpa : ∀ n : Nat, n < 361 → q_fpc n = true := by decide +kernel
theorem q_fp {n : Nat} (hn : n ≤ 360) : vf_n64 (q_fx n) ∧ Op.cmpValue (FP.dcmp (q_fx n) (q_fx n)) .l = 0 ∧ q_okb (q_fx n) (q_fx n).toInt64 := by
  have h := q_fpa n (by omega)
  simp only [q_fpc, Bool.and_eq_true, decide_eq_true_eq] at h
  obtain ⟨⟨h1, h2⟩, h3⟩ := h
  refine ⟨q_n64b_v h1, h2, ?_⟩
  by_cases h0 : n = 0
  · rw [if_pos h0] at h3
    simp only [Bool.and_eq_true, decide_eq_true_eq] at h3
    exact Or.inl h3
  · rw [if_neg h0] at h3
    simp only [Bool.and_eq_true, decide_eq_true_eq] at h3
    exact Or.inr ⟨q_kof n, q_okc_v h3.1, h3.2.symm⟩
/-! sums of colours stay small -/
theorem q_br_le (x k : Int32) : 0 ≤ (q_br x k).toInt ∧ (q_br x k).toInt ≤ 15 := by
  unfold q_br
  have h : ∀ y : Int32, 0 ≤ (y &&& 15).toInt ∧ (y &&& 15).toInt ≤ 15 := by
    intro y
    have e : (y &&& 15).toBitVec = y.toBitVec &&& 15#32 := rfl
    have h2 : (y.toBitVec &&& 15#32).toNat ≤ 15 := by
      rw [BitVec.toNat_and]
      exact Nat.and_le_right
    have h3 : (y &&& 15).toInt = ((y.toBitVec &&& 15#32).toNat : Int) := by
      show (y &&& 15).toBitVec.toInt = _
      rw [e, BitVec.toInt_eq_toNat_of_lt (by omega)]
    omega
  exact h _
