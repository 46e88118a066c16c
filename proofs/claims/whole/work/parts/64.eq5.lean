/-! CLASS AGAINST REFERENCE, 5: the states behind a gap -/
def q_gpY (Y w : Nat → Nat → Int32) : Nat → Nat → Int32 := su (su (su (su Y 7 1 (Y 7 1 + 1)) 7 2 (Y 7 2 + w 3 0)) 7 3 (Y 7 3 + (Y 7 0 - w 3 0))) 7 0 0
theorem q_gpY_eq {v w : Nat → Nat → Int32} : q_gp v w = q_gpY (q_lg v w 8) w := rfl
theorem q_gpY_r {Y w : Nat → Nat → Int32} {k : Nat} (hk : ¬ k = 7) : q_gpY Y w k = Y k := by
  unfold q_gpY
  simp only [su, if_neg hk]
theorem q_gpY_7 {Y w : Nat → Nat → Int32} : q_gpY Y w 7 0 = 0 ∧ q_gpY Y w 7 1 = Y 7 1 + 1 ∧ q_gpY Y w 7 2 = Y 7 2 + w 3 0 ∧ q_gpY Y w 7 3 = Y 7 3 + (Y 7 0 - w 3 0) ∧ q_gpY Y w 7 4 = Y 7 4 ∧ q_gpY Y w 7 5 = Y 7 5 := ⟨rfl, rfl, rfl, rfl, rfl, rfl⟩
theorem q_gz_7 {Y : Nat → Nat → Int32} {t : Nat} : zv (q_gz Y t) 7 0 = 0 ∧ zv (q_gz Y t) 7 1 = Y 0 43 + 1 ∧ zv (q_gz Y t) 7 2 = Y 0 45 + nI t ∧ zv (q_gz Y t) 7 3 = Y 0 46 + (Y 0 49 - nI t) ∧ zv (q_gz Y t) 7 4 = Y 0 47 ∧ zv (q_gz Y t) 7 5 = Y 0 48 := ⟨rfl, rfl, rfl, rfl, rfl, rfl⟩
theorem q_gz_lo {Y : Nat → Nat → Int32} {t x : Nat} (hx : x < 43) : q_gz Y t 0 x = Y 0 x := by
  rw [show q_gz Y t 0 x = if x = 49 then 0 else if 50 ≤ x ∧ x < 50 + 120 then 0 else if x = 46 then Y 0 46 + (Y 0 49 - nI t) else if x = 45 then Y 0 45 + nI t else if x = 43 then Y 0 43 + 1 else Y 0 x from rfl, if_neg (by omega), if_neg (by omega), if_neg (by omega), if_neg (by omega), if_neg (by omega)]
theorem q_gq_u {u : Nat → Nat → Int32} {n : Nat} (ht : u 6 3 = -1) : q_gq u n = q_gz (q_gn u n 8) (12 * q_tk u n 8) := by
  unfold q_gq
  rw [su_same ht]
theorem q_gp_E {u v w : Nat → Nat → Int32} {n : Nat} (h : q_E n v (zv u)) (ht : u 6 3 = -1) (hn : v 7 0 = nI n) (hu : u 0 49 = nI n) : q_E 0 (q_gp v (q_gt v w n 8)) (zv (q_gq u n)) := by
  have hall := (q_gt_all v w n 8 (by omega)).2
  have hr : ∀ k, (¬ k = 2 ∧ ¬ k = 3 ∧ ¬ k = 4) → q_lg v (q_gt v w n 8) 8 k = v k := fun k hk => q_lg_r hk 8
  have hW1 : ∀ i, i < 8 → q_gt v w n 8 1 i = q_wb u n i := fun i hi => by
    rw [(hall i hi).1, q_wb_wbp ht, e_wbp h hi]
  have hW0 : ∀ i, i < 8 → q_gt v w n 8 0 i = nI (q_cm u n i) := fun i hi => by
    rw [(hall i hi).2, ← q_cmv_cm]
    unfold q_cmv
    rw [e_cut h i (by omega), e_ta h i (by omega)]
  have hW3 : q_gt v w n 8 3 0 = nI (12 * q_tk u n 8) := by
    rw [(q_gt_inv v w n 8).2.2, e_gk h 8 (by omega), q_gk_tk]
  have hL := fun i => q_lg_at (v := v) (w := q_gt v w n 8) 8 i
  have hG := fun i (hi : i < 8) => q_gn_at (n := n) ht 8 (by omega) i hi
  have hS : ∀ x, (x < 16 ∨ 40 ≤ x) → q_gn u n 8 0 x = u 0 x := fun x hx => q_gn_same hx 8 (by omega)
  rw [q_gq_u ht, q_gpY_eq]
  generalize q_gt v w n 8 = W at *
  generalize q_lg v W 8 = Y at *
  generalize q_gn u n 8 = Z at *
  generalize 12 * q_tk u n 8 = t at *
  refine ⟨fun k hk i hi => ?_, fun i hi => ?_, fun i hi => absurd hi (Nat.not_lt_zero i), fun i hi => ?_⟩
  · rw [q_gpY_r (by omega)]
    rcases (show k = 0 ∨ k = 1 ∨ k = 2 ∨ k = 3 ∨ k = 4 by omega) with rfl | rfl | rfl | rfl | rfl
    · rw [hr 0 (by decide), h.1 0 (by omega) i hi]
      show u 0 (0 + i) = q_gz Z t 0 (0 + i)
      rw [q_gz_lo (by omega), hS _ (by omega)]
    · rw [hr 1 (by decide), h.1 1 (by omega) i hi]
      show u 0 (8 + i) = q_gz Z t 0 (8 + i)
      rw [q_gz_lo (by omega), hS _ (by omega)]
    · rw [(hL i).1, if_pos hi, hW1 i hi]
      show _ = q_gz Z t 0 (16 + i)
      rw [q_gz_lo (by omega), (hG i hi).2.1, if_pos hi]
    · rw [(hL i).2.2, if_pos hi, hW1 i hi, h.1 0 (by omega) i hi]
      show _ = q_gz Z t 0 (24 + i)
      rw [q_gz_lo (by omega), (hG i hi).2.2, if_pos hi]
    · rw [(hL i).2.1, if_pos hi, hW0 i hi]
      show _ = q_gz Z t 0 (32 + i)
      rw [q_gz_lo (by omega), (hG i hi).1, if_pos hi]
  · rw [q_gpY_r (by omega), hr 5 (by decide), h.2.1 i hi]
    show u 0 (40 + i) = q_gz Z t 0 (40 + i)
    rw [q_gz_lo (by omega), hS _ (by omega)]
  · obtain ⟨a0, a1, a2, a3, a4, a5⟩ := q_gpY_7 (Y := Y) (w := W)
    obtain ⟨b0, b1, b2, b3, b4, b5⟩ := q_gz_7 (Y := Z) (t := t)
    have h7 := hr 7 (by decide)
    rcases (show i = 0 ∨ i = 1 ∨ i = 2 ∨ i = 3 ∨ i = 4 ∨ i = 5 by omega) with rfl | rfl | rfl | rfl | rfl | rfl
    · rw [a0, b0]
    · rw [a1, b1, h7, hS 43 (by omega), h.2.2.2 1 (by omega)]
      rfl
    · rw [a2, b2, h7, hW3, hS 45 (by omega), h.2.2.2 2 (by omega)]
      rfl
    · rw [a3, b3, h7, hW3, hS 46 (by omega), hS 49 (by omega), hn, hu, h.2.2.2 3 (by omega)]
      rfl
    · rw [a4, b4, h7, hS 47 (by omega), h.2.2.2 4 (by omega)]
      rfl
    · rw [a5, b5, h7, hS 48 (by omega), h.2.2.2 5 (by omega)]
      rfl
