/-! CLASS AGAINST REFERENCE, 9: the state as cells of a row; what changes it -/
theorem zv_0 (u : Nat → Nat → Int32) : zv u = zv (fun _ => u 0) := by
  funext k
  match k with
  | 0 => rfl
  | 1 => rfl
  | 2 => rfl
  | 3 => rfl
  | 4 => rfl
  | 5 => rfl
  | 6 => rfl
  | 7 => rfl
  | k + 8 => rfl
def q_ok (n k i : Nat) : Prop := (k < 5 ∧ i < 8) ∨ (k = 5 ∧ i < 3) ∨ (k = 6 ∧ i < n) ∨ (k = 7 ∧ i < 6)
def q_cell (k i : Nat) : Nat := if k < 5 then 8 * k + i else if k = 5 then 40 + i else if k = 6 then 50 + i else if i = 0 then 49 else if i = 1 then 43 else i + 43
theorem q_cell_inj {k i k' i' : Nat} (h : q_ok 120 k i) (h' : q_ok 120 k' i') (e : q_cell k i = q_cell k' i') : k = k' ∧ i = i' := by
  unfold q_ok at h h'
  unfold q_cell at e
  repeat' split at e
  all_goals omega
theorem q_cell_44 {k i : Nat} (h : q_ok 120 k i) : ¬ q_cell k i = 44 ∧ q_cell k i < 170 := by
  unfold q_ok at h
  unfold q_cell
  repeat' split
  all_goals omega
theorem q_ok_le {n m k i : Nat} (h : q_ok n k i) (hm : n ≤ m) : q_ok m k i := by
  unfold q_ok at h ⊢
  omega
theorem zv_cell {n k i : Nat} (r : Nat → Int32) (h : q_ok n k i) : zv (fun _ => r) k i = r (q_cell k i) := by
  unfold q_ok at h
  by_cases h5 : k < 5
  · have e : q_cell k i = 8 * k + i := if_pos h5
    rw [e]
    rcases (show k = 0 ∨ k = 1 ∨ k = 2 ∨ k = 3 ∨ k = 4 by omega) with rfl | rfl | rfl | rfl | rfl
    · rfl
    · rfl
    · rfl
    · rfl
    · rfl
  · rcases (show k = 5 ∨ k = 6 ∨ k = 7 by omega) with rfl | rfl | rfl
    · rfl
    · rfl
    · rcases (show i = 0 ∨ i = 1 ∨ i = 2 ∨ i = 3 ∨ i = 4 ∨ i = 5 by omega) with rfl | rfl | rfl | rfl | rfl | rfl
      · rfl
      · rfl
      · rfl
      · rfl
      · rfl
      · rfl
theorem q_E_iff {n : Nat} {v : Nat → Nat → Int32} {r : Nat → Int32} : q_E n v (zv (fun _ => r)) ↔ ∀ k i, q_ok n k i → v k i = r (q_cell k i) := by
  constructor
  · intro h k i hk
    rw [← zv_cell r hk]
    rcases hk with ⟨a, b⟩ | ⟨rfl, b⟩ | ⟨rfl, b⟩ | ⟨rfl, b⟩
    · exact h.1 k a i b
    · exact h.2.1 i b
    · exact h.2.2.1 i b
    · exact h.2.2.2 i b
  · intro h
    refine ⟨fun k hk i hi => ?_, fun i hi => ?_, fun i hi => ?_, fun i hi => ?_⟩
    · have hq : q_ok n k i := Or.inl ⟨hk, hi⟩
      rw [zv_cell r hq]
      exact h k i hq
    · have hq : q_ok n 5 i := Or.inr (Or.inl ⟨rfl, hi⟩)
      rw [zv_cell r hq]
      exact h 5 i hq
    · have hq : q_ok n 6 i := Or.inr (Or.inr (Or.inl ⟨rfl, hi⟩))
      rw [zv_cell r hq]
      exact h 6 i hq
    · have hq : q_ok n 7 i := Or.inr (Or.inr (Or.inr ⟨rfl, hi⟩))
      rw [zv_cell r hq]
      exact h 7 i hq
/-- the class's State v, and a row r of the reference's -/
def q_R (n : Nat) (v : Nat → Nat → Int32) (r : Nat → Int32) : Prop := n ≤ 120 ∧ v 7 0 = nI n ∧ (∀ k i, q_ok n k i → v k i = r (q_cell k i)) ∧ ¬ v 5 2 < 0 ∧ r 44 = r 45 + r 46 + r 47 + r 49
theorem q_R_E {n : Nat} {v u : Nat → Nat → Int32} (h : q_R n v (u 0)) : q_E n v (zv u) := by
  rw [zv_0]
  exact q_E_iff.mpr h.2.2.1
theorem q_R_49 {n : Nat} {v : Nat → Nat → Int32} {r : Nat → Int32} (h : q_R n v r) : r 49 = nI n := by
  have h2 := h.2.2.1 7 0 (Or.inr (Or.inr (Or.inr ⟨rfl, by omega⟩)))
  rw [h.2.1] at h2
  exact h2.symm
theorem q_R_44 {n : Nat} {v u : Nat → Nat → Int32} (h : q_R n v (u 0)) : u 0 44 = zv u 7 2 + zv u 7 3 + zv u 7 4 + zv u 7 0 := h.2.2.2.2
theorem q_R_s {n : Nat} {v u : Nat → Nat → Int32} (h : q_R n v (u 0)) : ¬ zv u 5 2 < 0 := by
  have h2 := (q_R_E h).2.1 2 (by omega)
  rw [← h2]
  exact h.2.2.2.1
theorem q_R_c {n : Nat} {v : Nat → Nat → Int32} {r r' : Nat → Int32} (h : q_R n v r) (e : ∀ k, k < 170 → r' k = r k) : q_R n v r' := by
  obtain ⟨h1, h2, h3, h4, h5⟩ := h
  refine ⟨h1, h2, fun k i hk => ?_, h4, ?_⟩
  · rw [h3 k i hk, e _ (q_cell_44 (q_ok_le hk h1)).2]
  · rw [e 44 (by omega), e 45 (by omega), e 46 (by omega), e 47 (by omega), e 49 (by omega), h5]
/-- one cell -/
theorem q_su_cell {n k i : Nat} {v : Nat → Nat → Int32} {r : Nat → Int32} {x : Int32} (hn : n ≤ 120) (hk : q_ok 120 k i) (h : ∀ k i, q_ok n k i → v k i = r (q_cell k i)) : ∀ k' i', q_ok n k' i' → su v k i x k' i' = upd r (q_cell k i) x (q_cell k' i') := by
  intro k' i' hk'
  show (if k' = k then upd (v k') i x else v k') i' = upd r (q_cell k i) x (q_cell k' i')
  have e0 : upd r (q_cell k i) x (q_cell k' i') = if q_cell k' i' = q_cell k i then x else r (q_cell k' i') := rfl
  rw [e0]
  by_cases e : k' = k ∧ i' = i
  · obtain ⟨rfl, rfl⟩ := e
    rw [if_pos rfl, if_pos rfl, q_upd, if_pos rfl]
  · rw [if_neg (fun q => e (q_cell_inj (q_ok_le hk' hn) hk q))]
    by_cases e1 : k' = k
    · rw [if_pos e1, q_upd, if_neg (fun q => e ⟨e1, q⟩)]
      exact h k' i' hk'
    · rw [if_neg e1]
      exact h k' i' hk'
theorem q_44_cell {n : Nat} {v : Nat → Nat → Int32} {r : Nat → Int32} {x : Int32} (hn : n ≤ 120) (h : ∀ k i, q_ok n k i → v k i = r (q_cell k i)) : ∀ k i, q_ok n k i → v k i = upd r 44 x (q_cell k i) := by
  intro k i hk
  rw [q_upd, if_neg (q_cell_44 (q_ok_le hk hn)).1]
  exact h k i hk
/-- modes, losses, settings -/
theorem q_R_chg {n k i c : Nat} {v : Nat → Nat → Int32} {r : Nat → Int32} {x : Int32} (hc : (k = 0 ∧ c = 0 + i ∧ i < 8) ∨ (k = 1 ∧ c = 8 + i ∧ i < 8) ∨ (k = 5 ∧ c = 40 + i ∧ i < 3 ∧ ¬ x < 0)) (h : q_R n v r) : q_R n (su v k i x) (upd r c x) := by
  obtain ⟨h1, h2, h3, h4, h5⟩ := h
  have hq : q_ok 120 k i ∧ c = q_cell k i ∧ c < 43 ∧ ¬ k = 7 := by
    rcases hc with ⟨rfl, rfl, hi⟩ | ⟨rfl, rfl, hi⟩ | ⟨rfl, rfl, hi, -⟩
    · exact ⟨Or.inl ⟨by omega, hi⟩, (show 0 + i = 8 * 0 + i by omega).trans rfl, by omega, by omega⟩
    · exact ⟨Or.inl ⟨by omega, hi⟩, rfl, by omega, by omega⟩
    · exact ⟨Or.inr (Or.inl ⟨rfl, hi⟩), rfl, by omega, by omega⟩
  obtain ⟨q1, q2, q3, q4⟩ := hq
  refine ⟨h1, ?_, ?_, ?_, ?_⟩
  · show (if 7 = k then upd (v 7) i x else v 7) 0 = nI n
    rw [if_neg (fun q => q4 q.symm)]
    exact h2
  · rw [q2]
    exact q_su_cell h1 q1 h3
  · show ¬ (if 5 = k then upd (v 5) i x else v 5) 2 < 0
    by_cases e : 5 = k
    · rw [if_pos e, q_upd]
      split
      · rcases hc with ⟨rfl, -⟩ | ⟨rfl, -⟩ | ⟨-, -, -, hx⟩
        · omega
        · omega
        · exact hx
      · exact h4
    · rw [if_neg e]
      exact h4
  · rw [q_upd, q_upd, q_upd, q_upd, q_upd, if_neg (by omega), if_neg (by omega), if_neg (by omega), if_neg (by omega), if_neg (by omega)]
    exact h5
/-- refused -/
theorem q_R_rfu {n : Nat} {v : Nat → Nat → Int32} {u : Nat → Nat → Int32} (h : q_R n v (u 0)) : q_R n (q_rfu v) (su u 0 48 (zv u 7 5 + 1) 0) := by
  obtain ⟨h1, h2, h3, h4, h5⟩ := h
  have h6 : v 7 5 = u 0 48 := h3 7 5 (Or.inr (Or.inr (Or.inr ⟨rfl, by omega⟩)))
  have e : su u 0 48 (zv u 7 5 + 1) 0 = upd (u 0) (q_cell 7 5) (v 7 5 + 1) := by
    rw [h6]
    rfl
  rw [e]
  refine ⟨h1, h2, q_su_cell h1 (Or.inr (Or.inr (Or.inr ⟨rfl, by omega⟩))) h3, h4, ?_⟩
  show upd (u 0) 48 _ 44 = upd (u 0) 48 _ 45 + upd (u 0) 48 _ 46 + upd (u 0) 48 _ 47 + upd (u 0) 48 _ 49
  rw [q_upd, q_upd, q_upd, q_upd, q_upd, if_neg (by omega), if_neg (by omega), if_neg (by omega), if_neg (by omega), if_neg (by omega)]
  exact h5
/-- a pulse more -/
theorem q_R_ap {n : Nat} {v u : Nat → Nat → Int32} {x : Int32} (hn : n < 120) (h : q_R n v (u 0)) : q_R (n + 1) (su (su v 6 n x) 7 0 (nI (n + 1))) (q_ap u n x 0) := by
  have h49 := q_R_49 h
  obtain ⟨h1, h2, h3, h4, h5⟩ := h
  have ok6 : q_ok 120 6 n := Or.inr (Or.inr (Or.inl ⟨rfl, hn⟩))
  have ok7 : q_ok 120 7 0 := Or.inr (Or.inr (Or.inr ⟨rfl, by omega⟩))
  have a1 := q_su_cell (x := x) h1 ok6 h3
  have a2 : ∀ k i, q_ok (n + 1) k i → su v 6 n x k i = upd (u 0) (q_cell 6 n) x (q_cell k i) := by
    intro k i hk
    by_cases e : k = 6 ∧ i = n
    · obtain ⟨rfl, rfl⟩ := e
      show upd (v 6) i x i = upd (u 0) (q_cell 6 i) x (q_cell 6 i)
      rw [q_upd, q_upd, if_pos rfl, if_pos rfl]
    · refine a1 k i ?_
      unfold q_ok at hk ⊢
      omega
  have a3 := q_su_cell (x := nI (n + 1)) (by omega) ok7 a2
  have a4 := q_44_cell (x := u 0 44 + 1) (by omega) a3
  have e : q_ap u n x 0 = upd (upd (upd (u 0) (50 + n) x) 49 (nI (n + 1))) 44 (u 0 44 + 1) := by
    have e2 : su (su u 0 (50 + n) x) 0 49 (nI (n + 1)) 0 44 = u 0 44 := by
      show upd (upd (u 0) (50 + n) x) 49 (nI (n + 1)) 44 = u 0 44
      rw [q_upd, if_neg (by omega), q_upd, if_neg (by omega)]
    unfold q_ap
    rw [e2]
    rfl
  rw [e]
  refine ⟨by omega, rfl, a4, h4, ?_⟩
  have f : ∀ j, ¬ j = 44 → ¬ j = 49 → ¬ j = 50 + n → upd (upd (upd (u 0) (50 + n) x) 49 (nI (n + 1))) 44 (u 0 44 + 1) j = u 0 j := by
    intro j j1 j2 j3
    rw [q_upd, if_neg j1, q_upd, if_neg j2, q_upd, if_neg j3]
  have f49 : upd (upd (upd (u 0) (50 + n) x) 49 (nI (n + 1))) 44 (u 0 44 + 1) 49 = nI (n + 1) := rfl
  have f44 : upd (upd (upd (u 0) (50 + n) x) 49 (nI (n + 1))) 44 (u 0 44 + 1) 44 = u 0 44 + 1 := rfl
  rw [f49, f44, f 45 (by omega) (by omega) (by omega), f 46 (by omega) (by omega) (by omega), f 47 (by omega) (by omega) (by omega), h5, h49, nI_succ, Int32.add_assoc]
theorem q_R_sn {n : Nat} {v u : Nat → Nat → Int32} {x : Int32} (h : q_R n v (u 0)) : ∀ d : Nat, n + d ≤ 120 → q_R (n + d) (q_aw x n v d) (q_sn u n x d 0)
  | 0, _ => h
  | d + 1, hd => q_R_ap (show n + d < 120 by omega) (q_R_sn (x := x) h d (by omega))
/-- pulses dropped -/
theorem q_zf_lo {f : Nat → Int32} {i k : Nat} (hk : k < 50) : q_zf f i k = f k := if_neg (by omega)
theorem q_R_emf {n : Nat} {v u : Nat → Nat → Int32} (h : q_R n v (u 0)) : q_R 0 (su (su v 7 4 (v 7 4 + v 7 0)) 7 0 0) (q_emf (su u 0 47 (zv u 7 4 + nI n)) 0) := by
  have h49 := q_R_49 h
  obtain ⟨h1, h2, h3, h4, h5⟩ := h
  have h6 : v 7 4 = u 0 47 := h3 7 4 (Or.inr (Or.inr (Or.inr ⟨rfl, by omega⟩)))
  have ok4 : q_ok 120 7 4 := Or.inr (Or.inr (Or.inr ⟨rfl, by omega⟩))
  have ok0 : q_ok 120 7 0 := Or.inr (Or.inr (Or.inr ⟨rfl, by omega⟩))
  have h30 : ∀ k i, q_ok 0 k i → v k i = u 0 (q_cell k i) := fun k i hk => h3 k i (q_ok_le hk (by omega))
  have a1 := q_su_cell (x := v 7 4 + v 7 0) (by omega) ok4 h30
  have a2 : ∀ k i, q_ok 0 k i → su v 7 4 (v 7 4 + v 7 0) k i = q_zf (upd (u 0) (q_cell 7 4) (v 7 4 + v 7 0)) 120 (q_cell k i) := by
    intro k i hk
    rw [q_zf_lo]
    · exact a1 k i hk
    · unfold q_ok at hk
      unfold q_cell
      repeat' split
      all_goals omega
  have a3 := q_su_cell (x := 0) (by omega) ok0 a2
  have e : q_emf (su u 0 47 (zv u 7 4 + nI n)) 0 = upd (q_zf (upd (u 0) (q_cell 7 4) (v 7 4 + v 7 0)) 120) (q_cell 7 0) 0 := by
    rw [h6, h2]
    rfl
  rw [e]
  refine ⟨by omega, rfl, a3, h4, ?_⟩
  have f : ∀ j, j < 47 → upd (q_zf (upd (u 0) (q_cell 7 4) (v 7 4 + v 7 0)) 120) (q_cell 7 0) 0 j = u 0 j := by
    intro j hj
    rw [q_upd, if_neg (show ¬ j = q_cell 7 0 from fun q => by have : j = 49 := q; omega), q_zf_lo (by omega), q_upd, if_neg (show ¬ j = q_cell 7 4 from fun q => by have : j = 47 := q; omega)]
  have f49 : upd (q_zf (upd (u 0) (q_cell 7 4) (v 7 4 + v 7 0)) 120) (q_cell 7 0) 0 49 = 0 := rfl
  have f47 : upd (q_zf (upd (u 0) (q_cell 7 4) (v 7 4 + v 7 0)) 120) (q_cell 7 0) 0 47 = u 0 47 + nI n := by
    rw [← h6, ← h2]
    rfl
  rw [f49, f47, f 44 (by omega), f 45 (by omega), f 46 (by omega), h5, h49]
  rw [Int32.add_zero, Int32.add_assoc (u 0 45 + u 0 46)]
theorem q_gz_44 {Y : Nat → Nat → Int32} {t x : Nat} (hx : x = 44) : q_gz Y t 0 x = Y 0 x := by
  rw [show q_gz Y t 0 x = if x = 49 then 0 else if 50 ≤ x ∧ x < 50 + 120 then 0 else if x = 46 then Y 0 46 + (Y 0 49 - nI t) else if x = 45 then Y 0 45 + nI t else if x = 43 then Y 0 43 + 1 else Y 0 x from rfl, if_neg (by omega), if_neg (by omega), if_neg (by omega), if_neg (by omega), if_neg (by omega)]
/-- behind a gap -/
theorem q_R_gap {n : Nat} {u v w : Nat → Nat → Int32} (h : q_R n v (u 0)) (ht : u 6 3 = -1) : q_R 0 (q_gp v (q_gt v w n 8)) (q_gq u n 0) := by
  have hE := q_gp_E (w := w) (q_R_E h) ht h.2.1 (q_R_49 h)
  have h49 := q_R_49 h
  obtain ⟨h1, h2, h3, h4, h5⟩ := h
  rw [zv_0] at hE
  refine ⟨by omega, rfl, q_E_iff.mp hE, ?_, ?_⟩
  · have e : q_gp v (q_gt v w n 8) 5 = v 5 := by
      rw [q_gpY_eq, q_gpY_r (by decide)]
      exact q_lg_r ⟨by decide, by decide, by decide⟩ 8
    rw [e]
    exact h4
  · rw [q_gq_u ht]
    have hS : ∀ x, (x < 16 ∨ 40 ≤ x) → q_gn u n 8 0 x = u 0 x := fun x hx => q_gn_same hx 8 (by omega)
    obtain ⟨b0, b1, b2, b3, b4, b5⟩ := q_gz_7 (Y := q_gn u n 8) (t := 12 * q_tk u n 8)
    have c0 : q_gz (q_gn u n 8) (12 * q_tk u n 8) 0 49 = 0 := b0
    have c2 : q_gz (q_gn u n 8) (12 * q_tk u n 8) 0 45 = q_gn u n 8 0 45 + nI (12 * q_tk u n 8) := b2
    have c3 : q_gz (q_gn u n 8) (12 * q_tk u n 8) 0 46 = q_gn u n 8 0 46 + (q_gn u n 8 0 49 - nI (12 * q_tk u n 8)) := b3
    have c4 : q_gz (q_gn u n 8) (12 * q_tk u n 8) 0 47 = q_gn u n 8 0 47 := b4
    have c44 : q_gz (q_gn u n 8) (12 * q_tk u n 8) 0 44 = q_gn u n 8 0 44 := q_gz_44 rfl
    rw [c0, c2, c3, c4, c44, hS 44 (by omega), hS 45 (by omega), hS 46 (by omega), hS 47 (by omega), hS 49 (by omega), h5]
    generalize nI (12 * q_tk u n 8) = T
    generalize u 0 45 = a
    generalize u 0 46 = b
    generalize u 0 47 = c
    generalize u 0 49 = d
    grind
