/-! THE REFERENCE: looks -/
theorem su_su {u : Nat → Nat → Int32} {k i : Nat} {x y : Int32} : su (su u k i x) k i y = su u k i y := by
  funext k' j
  show (if k' = k then upd (if k' = k then upd (u k') i x else u k') i y else (if k' = k then upd (u k') i x else u k')) j = (if k' = k then upd (u k') i y else u k') j
  by_cases h : k' = k
  · rw [if_pos h, if_pos h, if_pos h, q_upd, q_upd, q_upd]
    split <;> rfl
  · rw [if_neg h, if_neg h, if_neg h]
theorem su_id {u : Nat → Nat → Int32} {k i : Nat} : su u k i (u k i) = u := by
  funext k' j
  show (if k' = k then upd (u k') i (u k i) else u k') j = u k' j
  by_cases h : k' = k
  · subst h
    rw [if_pos rfl, q_upd]
    split
    · rename_i h1
      rw [h1]
    · rfl
  · rw [if_neg h]
theorem su_bk {u : Nat → Nat → Int32} {k i : Nat} {x y : Int32} (h : u k i = y) : su (su u k i x) k i y = u := by
  rw [su_su, ← h, su_id]
theorem zv_6 {u : Nat → Nat → Int32} {i : Nat} {x : Int32} : zv (su u 6 i x) = zv u := rfl
theorem q_col {x : Int32} {k : Nat} (hk : k < 3) : (x >>> (nI (4 * (2 - k)) &&& 31)) &&& 15 = q_br x (nI k) := by
  unfold q_br
  rcases (show k = 0 ∨ k = 1 ∨ k = 2 by omega) with rfl | rfl | rfl <;> rfl
def q_cni (f : Nat → Int32) : Nat → Int32
  | 0 => 0
  | i + 1 => q_cni f i + (if f i = 0 then 0 else 1)
theorem q_cni_eq (f : Nat → Int32) : ∀ i : Nat, q_cni f i = q_cnt f i
  | 0 => rfl
  | i + 1 => by
    simp only [q_cni, q_cnt, q_cni_eq f i]
    split
    · exact Int32.add_zero _
    · rfl
def q_nm (u : Nat → Nat → Int32) (k : Nat) : Int32 := if k = 2 then u 0 44 else if k = 10 then u 6 0 else q_co (zv u) 0 k
/-- which lamps shine wrong behind trial words -/
def q_wr (Y : Nat → Nat → Int32) (x : Int32) : Nat → Int32
  | 0 => 0
  | i + 1 => q_wr Y x i ||| (if (if zv Y 0 i = 0 then q_wb Y 96 i else 0) = x then 0 else (1 : Int32) <<< (nI i &&& 31))
def q_wv (u : Nat → Nat → Int32) (x : Int32) : Int32 := q_wr (su u 6 3 x) x 8
def q_fl (u : Nat → Nat → Int32) (j : Nat) : Nat → Int32
  | 0 => -1
  | l + 1 => if q_wv (su u 0 (8 + j) (nI l)) (nI 1365) = 0 then (if q_wv (su u 0 (8 + j) (nI l)) (nI 2730) = 0 then nI l else q_fl u j l) else q_fl u j l
def q_bf (u : Nat → Nat → Int32) : Nat → Int32
  | 0 => -1
  | d + 1 => if q_cm u 96 (7 - d) = 0 then nI (7 - d) else q_bf u d
theorem q_dn : ∀ j : Nat, j ≤ 8 → (nI j + -1 : Int32) < 0 → j = 0 := by decide +kernel
theorem q_dn2 (i : Nat) : (nI (i + 1) + -1 : Int32) = nI i := pk_m1 i
theorem q_cm_le (u : Nat → Nat → Int32) (n j : Nat) : q_cm u n j ≤ n := by
  unfold q_cm
  split <;> omega
