/-! THE REFERENCE: a text, sent -/
theorem q_ep_full {t : Nat → Nat → Int32} {n : Nat} (h : ¬ q_wt t n = 0) : q_ep t n = n := by
  have h1 := q_ep_le t n
  rcases Nat.lt_or_ge (q_ep t n) n with q | q
  · exact absurd (if_pos q) h
  · omega
theorem q_ap_r {u : Nat → Nat → Int32} {n : Nat} {x : Int32} {r : Nat} (hr : ¬ r = 0) : q_ap u n x r = u r := by
  unfold q_ap su
  simp [hr]
theorem q_sn_r {u : Nat → Nat → Int32} {n : Nat} {x : Int32} {r : Nat} (hr : ¬ r = 0) : ∀ d : Nat, q_sn u n x d r = u r
  | 0 => rfl
  | d + 1 => by
    show q_ap (q_sn u n x d) (n + d) (q_bit x d) r = u r
    rw [q_ap_r hr, q_sn_r hr d]
def q_ldm (t : Nat → Nat → Int32) (k n : Nat) (U : Nat → Nat → Int32) : Nat → Nat → Nat → Int32
  | 0 => U
  | i + 1 => q_sn (q_ldm t k n U i) (n + 12 * i) (q_wat t k i) 12
theorem q_ldm_r {t : Nat → Nat → Int32} {k n : Nat} {U : Nat → Nat → Int32} {r : Nat} (hr : ¬ r = 0) : ∀ i : Nat, q_ldm t k n U i r = U r
  | 0 => rfl
  | i + 1 => by
    show q_sn (q_ldm t k n U i) (n + 12 * i) (q_wat t k i) 12 r = U r
    rw [q_sn_r hr, q_ldm_r hr i]
theorem q_ldm_cnt {t : Nat → Nat → Int32} {k n : Nat} {U : Nat → Nat → Int32} (h : U 0 49 = nI n) : ∀ i : Nat, q_ldm t k n U i 0 49 = nI (n + 12 * i)
  | 0 => h
  | i + 1 => by
    have h2 := q_sn_cnt (x := q_wat t k i) (q_ldm_cnt (t := t) (k := k) h i) 12
    show q_sn (q_ldm t k n U i) (n + 12 * i) (q_wat t k i) 12 0 49 = _
    rw [h2]
    congr 1
theorem q_gn_r {u : Nat → Nat → Int32} {n r : Nat} (hr : ¬ r = 0) : ∀ i : Nat, q_gn u n i r = u r
  | 0 => rfl
  | i + 1 => by
    show q_gn1 (q_gn u n i) n i r = u r
    rw [← q_gn_r (u := u) (n := n) hr i]
    unfold q_gn1
    simp only [su, if_neg hr]
theorem q_gz_r {Y : Nat → Nat → Int32} {t r : Nat} (hr : ¬ r = 0) : q_gz Y t r = Y r := by
  unfold q_gz q_emf
  simp only [su, sf, if_neg hr]
theorem q_gq_r {u : Nat → Nat → Int32} {n r : Nat} (hr : ¬ r = 0) : q_gq u n r = su u 6 3 (-1) r := by
  unfold q_gq
  rw [q_gz_r hr, q_gn_r hr]
