/-! THE REFERENCE: its state as a State's rows; what its methods reckon -/
def zv (u : Nat → Nat → Int32) : Nat → Nat → Int32
  | 0 => fun i => u 0 (0 + i)
  | 1 => fun i => u 0 (8 + i)
  | 2 => fun i => u 0 (16 + i)
  | 3 => fun i => u 0 (24 + i)
  | 4 => fun i => u 0 (32 + i)
  | 5 => fun i => u 0 (40 + i)
  | 6 => fun i => u 0 (50 + i)
  | 7 => fun i => match i with
    | 0 => u 0 49
    | 1 => u 0 43
    | 2 => u 0 45
    | 3 => u 0 46
    | 4 => u 0 47
    | _ => u 0 48
  | _ => fun _ => 0
def q_tai (v : Nat → Nat → Int32) : Nat → Int32
  | 0 => 0
  | k + 1 => q_tai v k + (if v 0 k = 0 ∨ v 0 k = 1 then 1 else 0)
theorem q_tai_eq (v : Nat → Nat → Int32) : ∀ k : Nat, q_tai v k = nI (q_ta v k)
  | 0 => rfl
  | k + 1 => by
    simp only [q_tai, q_ta, q_tai_eq v k]
    split
    · rw [show (1 : Int32) = nI 1 from rfl, nI_add]
    · exact Int32.add_zero _
/-- how many pulses are on the way: those of the frame, or of eight trial words -/
def q_pl (u : Nat → Nat → Int32) (n : Nat) : Prop := (u 6 3 = -1 ∧ u 0 49 = nI n) ∨ (¬ u 6 3 = -1 ∧ n = 96)
def q_le (u : Nat → Nat → Int32) (i : Nat) : Int32 := if u 6 3 = -1 then zv u 6 i else q_bit (u 6 3) (i % 12)
def q_cm (u : Nat → Nat → Int32) (n j : Nat) : Nat := if q_cut (zv u) j = true then 0 else n - 12 * q_ta (zv u) j
theorem q_cm0 : ∀ a : Nat, a ≤ 120 → ∀ b : Nat, b ≤ 8 → ((0 : Int32) ≤ nI a - nI (12 * b) ↔ 12 * b ≤ a) := by decide +kernel
def q_am (v : Nat → Nat → Int32) (x : Int32) (j k : Nat) : Int32 := if k ≤ j then q_tr v k x else q_ar v j x
theorem q_am_step {v : Nat → Nat → Int32} {x : Int32} {j k : Nat} (hk : k ≤ j) : q_am v x j (k + 1) = if j ≤ k then q_sh (q_am v x j k) (v 1 k) else (if v 0 k = 0 ∨ v 0 k = 1 then (if v 5 1 = 1 then (if q_sh (q_am v x j k) (v 1 k) < v 5 0 then 4 else 8) else q_sh (q_am v x j k) (v 1 k)) else q_sh (q_am v x j k) (v 1 k)) := by
  have e : q_am v x j k = q_tr v k x := if_pos hk
  rw [e]
  by_cases h : j ≤ k
  · obtain rfl : k = j := by omega
    rw [if_pos (by omega)]
    exact if_neg (by omega)
  · rw [if_neg h, show q_am v x j (k + 1) = q_tr v (k + 1) x from if_pos (by omega)]
    simp only [q_tr, q_ho]
    split
    · split
      · split <;> simp_all
      · rfl
    · rfl
def q_rdm (v : Nat → Nat → Int32) (x : Int32) : Int32 := if x < v 5 0 then 0 else 1
theorem q_rdm_eq : q_rdm = q_rd := by
  funext v x
  unfold q_rdm q_rd
  by_cases h : x < v 5 0 <;> simp [h]
abbrev q_tk1 (u : Nat → Nat → Int32) (n j : Nat) : Prop := (zv u 0 j = 0 ∨ zv u 0 j = 1) ∧ 12 ≤ q_cm u n j
def q_wbm (u : Nat → Nat → Int32) (j : Nat) : Int32 := q_wd (fun d => q_rdm (zv u) (q_ar (zv u) j (q_le u (12 * q_ta (zv u) j + d)))) 12
def q_wb (u : Nat → Nat → Int32) (n j : Nat) : Int32 := if q_tk1 u n j then q_wbm u j else zv u 2 j
def q_tki (u : Nat → Nat → Int32) (n : Nat) : Nat → Int32
  | 0 => 0
  | k + 1 => q_tki u n k + (if q_tk1 u n k then 1 else 0)
def q_tk (u : Nat → Nat → Int32) (n : Nat) : Nat → Nat
  | 0 => 0
  | k + 1 => q_tk u n k + (if q_tk1 u n k then 1 else 0)
theorem q_tki_eq (u : Nat → Nat → Int32) (n : Nat) : ∀ k : Nat, q_tki u n k = nI (q_tk u n k)
  | 0 => rfl
  | k + 1 => by
    simp only [q_tki, q_tk, q_tki_eq u n k]
    split
    · rw [show (1 : Int32) = nI 1 from rfl, nI_add]
    · exact Int32.add_zero _
theorem q_tk_le (u : Nat → Nat → Int32) (n : Nat) : ∀ k : Nat, q_tk u n k ≤ k
  | 0 => Nat.le_refl 0
  | k + 1 => by
    have h := q_tk_le u n k
    simp only [q_tk]
    split <;> omega
/-- the frame -/
def q_ap (u : Nat → Nat → Int32) (n : Nat) (x : Int32) : Nat → Nat → Int32 := su (su (su u 0 (50 + n) x) 0 49 (nI (n + 1))) 0 44 (su (su u 0 (50 + n) x) 0 49 (nI (n + 1)) 0 44 + 1)
def q_sn (u : Nat → Nat → Int32) (n : Nat) (x : Int32) : Nat → Nat → Nat → Int32
  | 0 => u
  | d + 1 => q_ap (q_sn u n x d) (n + d) (q_bit x d)
theorem q_sn_cnt {u : Nat → Nat → Int32} {n : Nat} {x : Int32} (h : u 0 49 = nI n) : ∀ d : Nat, q_sn u n x d 0 49 = nI (n + d)
  | 0 => h
  | d + 1 => rfl
theorem q_su49 {u : Nat → Nat → Int32} {n : Nat} {x : Int32} : su u 0 (50 + n) x 0 49 = u 0 49 := by
  show upd (u 0) (50 + n) x 49 = u 0 49
  rw [q_upd, if_neg (by omega)]
def q_zf (f : Nat → Int32) (i : Nat) : Nat → Int32 := fun k => if 50 ≤ k ∧ k < 50 + i then 0 else f k
theorem q_zf0 {u : Nat → Nat → Int32} : u = sf u 0 (q_zf (u 0) 0) := by
  funext k j
  show u k j = (if k = 0 then q_zf (u 0) 0 else u k) j
  by_cases h : k = 0
  · subst h
    rw [if_pos rfl]
    exact (if_neg (by omega)).symm
  · rw [if_neg h]
theorem q_zf1 {u : Nat → Nat → Int32} {i : Nat} : su (sf u 0 (q_zf (u 0) i)) 0 (50 + i) 0 = sf u 0 (q_zf (u 0) (i + 1)) := by
  funext k j
  show (if k = 0 then upd (if k = 0 then q_zf (u 0) i else u k) (50 + i) 0 else (if k = 0 then q_zf (u 0) i else u k)) j = (if k = 0 then q_zf (u 0) (i + 1) else u k) j
  by_cases h : k = 0
  · subst h
    rw [if_pos rfl, if_pos rfl, if_pos rfl, q_upd]
    unfold q_zf
    by_cases hj : j = 50 + i
    · subst hj
      rw [if_pos rfl, if_pos (by omega)]
    · rw [if_neg hj]
      by_cases h1 : 50 ≤ j ∧ j < 50 + i
      · rw [if_pos h1, if_pos (by omega)]
      · rw [if_neg h1, if_neg (by omega)]
  · rw [if_neg h, if_neg h, if_neg h]
def q_emf (u : Nat → Nat → Int32) : Nat → Nat → Int32 := su (sf u 0 (q_zf (u 0) 120)) 0 49 0
/-- at a gap -/
def q_gn1 (Y : Nat → Nat → Int32) (n i : Nat) : Nat → Nat → Int32 := su (su (su Y 0 (32 + i) (nI (q_cm Y n i))) 0 (16 + i) (q_wb Y n i)) 0 (24 + i) (if zv (su (su Y 0 (32 + i) (nI (q_cm Y n i))) 0 (16 + i) (q_wb Y n i)) 0 i = 0 then q_wb Y n i else 0)
def q_gn (u : Nat → Nat → Int32) (n : Nat) : Nat → Nat → Nat → Int32
  | 0 => u
  | i + 1 => q_gn1 (q_gn u n i) n i
def q_gc (u : Nat → Nat → Int32) (n : Nat) : Nat → Int32
  | 0 => 0
  | i + 1 => q_gc u n i + (if q_wb (q_gn u n i) n i = zv (q_gn u n i) 2 i then 0 else 1)
theorem q_gn_inv (u : Nat → Nat → Int32) (n : Nat) : ∀ i : Nat, i ≤ 8 → q_gn u n i 6 3 = u 6 3 ∧ q_gn u n i 0 49 = u 0 49
  | 0, _ => ⟨rfl, rfl⟩
  | i + 1, hi => by
    obtain ⟨h1, h2⟩ := q_gn_inv u n i (by omega)
    refine ⟨h1, ?_⟩
    rw [← h2]
    show upd (upd (upd (q_gn u n i 0) (32 + i) _) (16 + i) _) (24 + i) _ 49 = _
    rw [q_upd, if_neg (by omega), q_upd, if_neg (by omega), q_upd, if_neg (by omega)]
def q_gz (Y : Nat → Nat → Int32) (t : Nat) : Nat → Nat → Int32 := q_emf (su (su (su Y 0 43 (zv Y 7 1 + 1)) 0 45 (zv (su Y 0 43 (zv Y 7 1 + 1)) 7 2 + nI t)) 0 46 (zv (su (su Y 0 43 (zv Y 7 1 + 1)) 0 45 (zv (su Y 0 43 (zv Y 7 1 + 1)) 7 2 + nI t)) 7 3 + (zv (su (su Y 0 43 (zv Y 7 1 + 1)) 0 45 (zv (su Y 0 43 (zv Y 7 1 + 1)) 7 2 + nI t)) 7 0 - nI t)))
def q_gq (u : Nat → Nat → Int32) (n : Nat) : Nat → Nat → Int32 := q_gz (q_gn (su u 6 3 (-1)) n 8) (12 * q_tk (su u 6 3 (-1)) n 8)
/-- rows copied, saved states -/
def q_cp (f g : Nat → Int32) (fa ta i : Nat) : Nat → Int32 := fun k => if ta ≤ k ∧ k < ta + i then f (fa + (k - ta)) else g k
theorem q_cp0 {u : Nat → Nat → Int32} {r : Nat} {f : Nat → Int32} {fa ta : Nat} : u = sf u r (q_cp f (u r) fa ta 0) := by
  funext k j
  show u k j = (if k = r then q_cp f (u r) fa ta 0 else u k) j
  by_cases h : k = r
  · subst h
    rw [if_pos rfl]
    exact (if_neg (by omega)).symm
  · rw [if_neg h]
theorem q_cp1 {u : Nat → Nat → Int32} {r : Nat} {f : Nat → Int32} {fa ta i : Nat} : su (sf u r (q_cp f (u r) fa ta i)) r (ta + i) (f (fa + i)) = sf u r (q_cp f (u r) fa ta (i + 1)) := by
  funext k j
  show (if k = r then upd ((fun k' => if k' = r then q_cp f (u r) fa ta i else u k') k) (ta + i) (f (fa + i)) else (if k = r then q_cp f (u r) fa ta i else u k)) j = (if k = r then q_cp f (u r) fa ta (i + 1) else u k) j
  by_cases h : k = r
  · subst h
    simp only [if_true]
    rw [q_upd]
    unfold q_cp
    by_cases hj : j = ta + i
    · subst hj
      rw [if_pos rfl, if_pos (by omega), show ta + i - ta = i by omega]
    · rw [if_neg hj]
      by_cases h1 : ta ≤ j ∧ j < ta + i
      · rw [if_pos h1, if_pos (by omega)]
      · rw [if_neg h1, if_neg (by omega)]
  · rw [if_neg h, if_neg h, if_neg h]
def q_sl (f : Nat → Int32) (i : Nat) : Nat → Int32 := fun k => if k < i then f (k + 170) else f k
theorem q_sl0 {u : Nat → Nat → Int32} : u = sf u 1 (q_sl (u 1) 0) := by
  funext k j
  show u k j = (if k = 1 then q_sl (u 1) 0 else u k) j
  by_cases h : k = 1
  · subst h
    rw [if_pos rfl]
    exact (if_neg (by omega)).symm
  · rw [if_neg h]
theorem q_sl1 {u : Nat → Nat → Int32} {i : Nat} : su (sf u 1 (q_sl (u 1) i)) 1 i (sf u 1 (q_sl (u 1) i) 1 (i + 170)) = sf u 1 (q_sl (u 1) (i + 1)) := by
  funext k j
  show (if k = 1 then upd (if k = 1 then q_sl (u 1) i else u k) i (q_sl (u 1) i (i + 170)) else (if k = 1 then q_sl (u 1) i else u k)) j = (if k = 1 then q_sl (u 1) (i + 1) else u k) j
  by_cases h : k = 1
  · subst h
    rw [if_pos rfl, if_pos rfl, if_pos rfl, q_upd]
    unfold q_sl
    by_cases hj : j = i
    · subst hj
      rw [if_pos rfl, if_neg (by omega), if_pos (by omega)]
    · rw [if_neg hj]
      by_cases h1 : j < i
      · rw [if_pos h1, if_pos (by omega)]
      · rw [if_neg h1, if_neg (by omega)]
  · rw [if_neg h, if_neg h, if_neg h]
def q_svr (u : Nat → Nat → Int32) (k : Nat) : Nat → Int32 := if k = 6 then q_cp (u 0) (q_sl (u 1) 850) 0 850 170 else q_cp (u 0) (u 1) 0 (170 * k) 170
def q_sv (u : Nat → Nat → Int32) (k : Nat) : Nat → Nat → Int32 := su (sf u 1 (q_svr u k)) 6 0 (nI (if k = 6 then 6 else k + 1))
theorem q_sv_6 {u : Nat → Nat → Int32} : su (sf (su (sf u 1 (q_sl (u 1) 850)) 6 0 (nI 5)) 1 (q_cp (u 0) (q_sl (u 1) 850) 0 850 170)) 6 0 (nI 6) = q_sv u 6 := by
  funext k j
  unfold q_sv q_svr
  by_cases h : k = 6
  · subst h
    show upd (upd (u 6) 0 (nI 5)) 0 (nI 6) j = upd (u 6) 0 (nI 6) j
    rw [q_upd, q_upd, q_upd]
    split <;> rfl
  · by_cases h1 : k = 1
    · subst h1
      rfl
    · simp [su, sf, h, h1]
theorem q_sv_n {u : Nat → Nat → Int32} {k : Nat} (hk : k < 6) : su (sf u 1 (q_cp (u 0) (u 1) 0 (170 * k) 170)) 6 0 (nI (k + 1)) = q_sv u k := by
  unfold q_sv q_svr
  rw [if_neg (by omega), if_neg (by omega)]
