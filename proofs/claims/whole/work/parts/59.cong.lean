/-! TWO STATES ALIKE: what is reckoned of them is the same -/
def q_E (n : Nat) (v v' : Nat → Nat → Int32) : Prop := (∀ k, k < 5 → ∀ i, i < 8 → v k i = v' k i) ∧ (∀ i, i < 3 → v 5 i = v' 5 i) ∧ (∀ i, i < n → v 6 i = v' 6 i) ∧ ∀ i, i < 6 → v 7 i = v' 7 i
section QE
variable {n : Nat} {v v' : Nat → Nat → Int32}
theorem q_E.symm (h : q_E n v v') : q_E n v' v := ⟨fun k hk i hi => (h.1 k hk i hi).symm, fun i hi => (h.2.1 i hi).symm, fun i hi => (h.2.2.1 i hi).symm, fun i hi => (h.2.2.2 i hi).symm⟩
theorem e_cut (h : q_E n v v') : ∀ j, j ≤ 8 → q_cut v j = q_cut v' j
  | 0, _ => rfl
  | j + 1, hj => by
    simp only [q_cut]
    rw [e_cut h j (by omega), h.1 0 (by omega) j (by omega)]
theorem e_ta (h : q_E n v v') : ∀ j, j ≤ 8 → q_ta v j = q_ta v' j
  | 0, _ => rfl
  | j + 1, hj => by
    simp only [q_ta]
    rw [e_ta h j (by omega), h.1 0 (by omega) j (by omega)]
theorem e_ho (h : q_E n v v') (x : Int32) : q_ho v x = q_ho v' x := by
  unfold q_ho
  rw [h.2.1 1 (by omega), h.2.1 0 (by omega)]
theorem e_rd (h : q_E n v v') (x : Int32) : q_rd v x = q_rd v' x := by
  unfold q_rd
  rw [h.2.1 0 (by omega)]
theorem e_tr (h : q_E n v v') (x : Int32) : ∀ j, j ≤ 8 → q_tr v j x = q_tr v' j x
  | 0, _ => rfl
  | j + 1, hj => by
    simp only [q_tr]
    rw [e_tr h x j (by omega), h.1 0 (by omega) j (by omega), h.1 1 (by omega) j (by omega), e_ho h]
theorem e_ar (h : q_E n v v') (x : Int32) {j : Nat} (hj : j < 8) : q_ar v j x = q_ar v' j x := by
  unfold q_ar
  rw [e_tr h x j (by omega), h.1 1 (by omega) j hj]
theorem e_wu (h : q_E n v v') {j : Nat} (hj : j < 8) : q_wu v j = q_wu v' j := by
  unfold q_wu
  rw [e_ta h j (by omega), e_cut h j (by omega), h.1 0 (by omega) j hj]
theorem q_wd_c {f g : Nat → Int32} : ∀ d, (∀ i, i < d → f i = g i) → q_wd f d = q_wd g d
  | 0, _ => rfl
  | d + 1, h => by
    simp only [q_wd]
    rw [q_wd_c d (fun i hi => h i (by omega)), h d (by omega)]
theorem e_wbp (h : q_E n v v') {j : Nat} (hj : j < 8) : q_wbp v j n = q_wbp v' j n := by
  unfold q_wbp
  rw [e_ta h j (by omega), e_cut h j (by omega), h.1 0 (by omega) j hj, h.1 2 (by omega) j hj]
  split
  · rename_i hc
    exact q_wd_c 12 (fun i hi => by rw [e_rd h, e_ar h _ hj, h.2.2.1 _ (by omega)])
  · rfl
theorem q_in_c {f g : Nat → Int32} {x y : Int32} (e : x = y) : ∀ d, (∀ i, i < d → f i = g i) → q_in f d x = q_in g d y
  | 0, _ => e
  | d + 1, h => by
    simp only [q_in]
    rw [q_in_c e d (fun i hi => h i (by omega)), h d (by omega)]
theorem q_sum2_c {f g : Nat → Nat → Int32} : ∀ d, (∀ i, i < d → ∀ k, k < 3 → f i k = g i k) → q_sum2 f d = q_sum2 g d
  | 0, _ => rfl
  | d + 1, h => by
    simp only [q_sum2]
    exact q_in_c (q_sum2_c d (fun i hi => h i (by omega))) 3 (fun k hk => h d (by omega) k hk)
theorem e_cw (h : q_E n v v') : q_cw v = q_cw v' := q_sum2_c 8 (fun i hi k _ => by rw [h.1 3 (by omega) i hi])
theorem e_shn (h : q_E n v v') (b w : Int32) : q_shn v b w = q_shn v' b w := by
  unfold q_shn
  rw [h.2.1 2 (by omega)]
theorem e_st (h : q_E n v v') : q_st v = q_st v' := q_sum2_c 8 (fun i hi k _ => by rw [h.1 3 (by omega) i hi, e_cw h, e_shn h])
theorem q_cnt_c {f g : Nat → Int32} : ∀ d, (∀ i, i < d → f i = g i) → q_cnt f d = q_cnt g d
  | 0, _ => rfl
  | d + 1, h => by
    simp only [q_cnt]
    rw [q_cnt_c d (fun i hi => h i (by omega)), h d (by omega)]
theorem e_cnt (h : q_E n v v') : q_cnt (v 3) 8 = q_cnt (v' 3) 8 := q_cnt_c 8 (fun i hi => h.1 3 (by omega) i hi)
theorem e_lo (h : q_E n v v') {i k : Nat} (hi : i < 8) : q_lo v i k = q_lo v' i k := by
  unfold q_lo
  rw [h.1 0 (by omega) i hi, h.1 1 (by omega) i hi, h.1 2 (by omega) i hi, h.1 3 (by omega) i hi, h.1 4 (by omega) i hi, e_shn h, e_cw h]
theorem e_co (h : q_E n v v') (z k : Nat) : q_co v z k = q_co v' z k := by
  unfold q_co
  rw [h.2.2.2 0 (by omega), h.2.2.2 1 (by omega), h.2.2.2 2 (by omega), h.2.2.2 3 (by omega), h.2.2.2 4 (by omega), h.2.2.2 5 (by omega), e_cw h, e_st h, e_cnt h]
theorem e_wo (h : q_E n v v') {L L' : Nat → Int32} (hL : ∀ i, i < 8 → L i = L' i) (x : Int32) : ∀ j, j ≤ 8 → q_wo v L x j = q_wo v' L' x j
  | 0, _ => rfl
  | j + 1, hj => by
    simp only [q_wo]
    rw [e_wo h hL x j (by omega), e_cut h j (by omega), h.1 0 (by omega) j (by omega), hL j (by omega), e_ho h]
theorem e_kn (h : q_E n v v') {L L' : Nat → Int32} (hL : ∀ i, i < 8 → L i = L' i) (x : Int32) {j : Nat} (hj : j < 8) : q_kn v L x j = q_kn v' L' x j := by
  unfold q_kn
  rw [e_wo h hL 8 j (by omega), e_wo h hL 4 j (by omega), e_cut h j (by omega), h.1 0 (by omega) j hj, h.1 2 (by omega) j hj, hL j hj, h.2.1 0 (by omega)]
theorem e_wm (h : q_E n v v') {L L' : Nat → Int32} (hL : ∀ i, i < 8 → L i = L' i) (x : Int32) : ∀ j, j ≤ 8 → q_wm v L x j = q_wm v' L' x j
  | 0, _ => rfl
  | j + 1, hj => by
    simp only [q_wm]
    rw [e_wm h hL x j (by omega), e_kn h hL x (by omega), h.1 0 (by omega) j (by omega)]
theorem e_el (h : q_E n v v') (wl ol : Int32) : ∀ i, i < 8 → q_el v wl ol i = q_el v' wl ol i := by
  intro i hi
  unfold q_el
  rw [h.1 1 (by omega) i hi]
theorem e_bp (h : q_E n v v') (i d : Nat) : q_bp v i d = q_bp v' i d := by
  unfold q_bp
  rw [e_wm h (e_el h _ _) 1365 8 (by omega), e_wm h (e_el h _ _) 2730 8 (by omega)]
theorem e_be (h : q_E n v v') (i : Nat) : q_be v i = q_be v' i := by
  unfold q_be
  rw [show q_bp v i = q_bp v' i from funext fun d => e_bp h i d]
theorem e_bks (h : q_E n v v') : ∀ (m i : Nat), i + m ≤ 8 → 1 ≤ i → q_bks v m i = q_bks v' m i
  | 0, _, _, _ => rfl
  | m + 1, i, h1, h2 => by
    simp only [q_bks]
    rw [h.1 0 (by omega) (i - 1) (by omega), e_bks h m (i + 1) (by omega) (by omega)]
theorem e_bk (h : q_E n v v') : q_bk v = q_bk v' := e_bks h 7 1 (by omega) (by omega)
end QE
