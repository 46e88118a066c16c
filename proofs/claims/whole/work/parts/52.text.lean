/-! THE REFERENCE: its reading of texts -/
def tv (u : Nat → Nat → Int32) : Nat → Nat → Int32 := fun _ => u 4
/-- a digit stands at a place -/
abbrev q_gd (u : Nat → Nat → Int32) (k i : Nat) : Prop := i < k ∧ ¬ q_dg (u 4 i) = -1
def q_rc (u : Nat → Nat → Int32) (k w : Nat) : Nat := if q_gd u k (w + 0) then (if q_gd u k (w + 1) then (if q_gd u k (w + 2) then 3 else 2) else 1) else 0
theorem q_rc_bad {u : Nat → Nat → Int32} {k w d : Nat} (hd : d < 3) (hg : ∀ i, i < d → q_gd u k (w + i)) (hb : ¬ q_gd u k (w + d)) : q_rc u k w = d := by
  unfold q_rc
  rcases (show d = 0 ∨ d = 1 ∨ d = 2 by omega) with rfl | rfl | rfl
  · rw [if_neg hb]
  · rw [if_pos (hg 0 (by omega)), if_neg hb]
  · rw [if_pos (hg 0 (by omega)), if_pos (hg 1 (by omega)), if_neg hb]
theorem q_rc_good {u : Nat → Nat → Int32} {k w : Nat} (hg : ∀ i, i < 3 → q_gd u k (w + i)) : q_rc u k w = 3 := by
  unfold q_rc
  rw [if_pos (hg 0 (by omega)), if_pos (hg 1 (by omega)), if_pos (hg 2 (by omega))]
/-- the word at a place -/
def q_rw (u : Nat → Nat → Int32) (w : Nat) : Int32 := q_hex (fun i => q_dg (u 4 (w + i))) 3
def q_rwo (u : Nat → Nat → Int32) (k w j : Nat) : Nat → Nat → Int32 := if q_rc u k w = 3 then su (su (su u 6 6 (nI (w + 3))) 5 j (q_rw u w)) 6 4 (nI (j + 1)) else su u 6 6 (nI (w + q_rc u k w))
theorem q_dg_d (x : Int32) : q_dg x = if (¬ x < 48 ∧ ¬ 57 < x) then x - 48 else if (¬ x < 97 ∧ ¬ 102 < x) then x - 97 + 10 else -1 := by
  unfold q_dg q_dg2
  by_cases g1 : x < 48 <;> by_cases g2 : 57 < x <;> by_cases g3 : x < 97 <;> by_cases g4 : 102 < x <;> simp [g1, g2, g3, g4]
