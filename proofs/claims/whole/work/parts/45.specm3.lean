/-! THE REFERENCE: its calls -/
theorem wl_rng3 {a i b : Nat} {A B : Int32} (ea : A = nI a) (eb : B = nI b) (h1 : a ≤ i) (h2 : i ≤ b) (hb : b < 2 ^ 31) : ¬ nI i < A ∧ ¬ B < nI i := by
  subst ea eb
  exact ⟨fun h => absurd ((nI_ltI (by omega) (by omega)).mp h) (by omega), fun h => absurd ((nI_ltI (by omega) (by omega)).mp h) (by omega)⟩
theorem wl_nm1 {i b : Nat} (h2 : i ≤ b) (hb : b < 2 ^ 31) : ¬ nI i = -1 := by
  intro h
  have h3 := (wl_rng3 (a := 0) (i := i) (b := b) (A := 0) rfl rfl (by omega) h2 hb).1
  rw [h] at h3
  exact h3 (by decide)
theorem su_same {u : Nat → Nat → Int32} {k i : Nat} {y : Int32} (h : u k i = y) : su u k i y = u := by
  rw [← h, su_id]
