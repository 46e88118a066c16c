/-! THE ROW, as the class tells it -/
/-- whether a lamp is cut off by a broken one ahead of it -/
def q_cut (v : Nat → Nat → Int32) : Nat → Bool
  | 0 => false
  | k + 1 => q_cut v k || decide (v 0 k = 2)
/-- how many of the first lamps take words -/
def q_ta (v : Nat → Nat → Int32) : Nat → Nat
  | 0 => 0
  | k + 1 => if v 0 k = 0 ∨ v 0 k = 1 then q_ta v k + 1 else q_ta v k
theorem q_cut_of {v : Nat → Nat → Int32} {i : Nat} (hi : v 0 i = 2) : ∀ {j : Nat}, i < j → q_cut v j = true
  | 0, h => absurd h (Nat.not_lt_zero i)
  | j + 1, h => by
    rcases Nat.lt_or_ge i j with q | q
    · simp [q_cut, q_cut_of hi q]
    · obtain rfl : i = j := by omega
      simp [q_cut, hi]
theorem q_ta_le (v : Nat → Nat → Int32) : ∀ k : Nat, q_ta v k ≤ k
  | 0 => Nat.le_refl 0
  | k + 1 => by
    have h := q_ta_le v k
    simp only [q_ta]
    split <;> omega
def q_wu (v : Nat → Nat → Int32) (j : Nat) : Int32 := if (v 0 j = 0 ∨ v 0 j = 1) ∧ q_cut v j = false then nI (q_ta v j + 1) else -1
theorem q_wu_pos {v : Nat → Nat → Int32} {j : Nat} (h : ¬ q_wu v j = -1) : (v 0 j = 0 ∨ v 0 j = 1) ∧ q_cut v j = false := by
  by_cases h2 : (v 0 j = 0 ∨ v 0 j = 1) ∧ q_cut v j = false
  · exact h2
  · exact absurd (if_neg h2) h
theorem q_wu_nat {v : Nat → Nat → Int32} {j : Nat} (h : ¬ q_wu v j = -1) : q_wu v j = nI (q_ta v j + 1) := if_pos (q_wu_pos h)
theorem q_wu_neg {v : Nat → Nat → Int32} {j : Nat} (hj : j < 2 ^ 30) (h : q_wu v j = -1) : ¬ ((v 0 j = 0 ∨ v 0 j = 1) ∧ q_cut v j = false) := by
  intro h2
  have e : q_wu v j = nI (q_ta v j + 1) := if_pos h2
  rw [e] at h
  have h3 := q_ta_le v j
  have h4 := nI_toInt (n := q_ta v j + 1) (by omega)
  rw [h] at h4
  have h5 : (-1 : Int32).toInt = -1 := by decide
  omega
/-- how long a pulse is behind the first lamps; as it comes to a lamp -/
def q_tr (v : Nat → Nat → Int32) : Nat → Int32 → Int32
  | 0, x => x
  | k + 1, x => if v 0 k = 0 ∨ v 0 k = 1 then q_ho v (q_sh (q_tr v k x) (v 1 k)) else q_sh (q_tr v k x) (v 1 k)
def q_ar (v : Nat → Nat → Int32) (j : Nat) (x : Int32) : Int32 := q_sh (q_tr v j x) (v 1 j)
def q_rd (v : Nat → Nat → Int32) (x : Int32) : Int32 := if ¬ x < v 5 0 then 1 else 0
/-- a word out of its bits, the first one the highest -/
def q_wd (f : Nat → Int32) : Nat → Int32
  | 0 => 0
  | d + 1 => 2 * q_wd f d + f d
def q_wbp (v : Nat → Nat → Int32) (j n : Nat) : Int32 := if ((v 0 j = 0 ∨ v 0 j = 1) ∧ q_cut v j = false) ∧ (q_ta v j + 1) * 12 ≤ n then q_wd (fun d => q_rd v (q_ar v j (v 6 (q_ta v j * 12 + d)))) 12 else v 2 j
def q_cnt (f : Nat → Int32) : Nat → Int32
  | 0 => 0
  | i + 1 => if f i = 0 then q_cnt f i else q_cnt f i + 1
def q_st (v : Nat → Nat → Int32) : Int32 := q_sum2 (fun j k => q_shn v (q_br (v 3 j) (nI k)) (q_cw v)) 8
/-- eight words of one kind: one long and one short pulse -/
def q_el (v : Nat → Nat → Int32) (wl ol : Int32) (i : Nat) : Int32 := if nI i = wl then ol else v 1 i
def q_wo (v : Nat → Nat → Int32) (L : Nat → Int32) (x : Int32) : Nat → Int32
  | 0 => x
  | i + 1 => if v 0 i = 0 ∨ v 0 i = 1 then (if q_cut v i = false then q_ho v (q_sh (q_wo v L x i) (L i)) else q_sh (q_wo v L x i) (L i)) else q_sh (q_wo v L x i) (L i)
def q_kn (v : Nat → Nat → Int32) (L : Nat → Int32) (word : Int32) (i : Nat) : Int32 := if v 0 i = 0 ∨ v 0 i = 1 then (if q_cut v i = false then ((if ¬ q_sh (q_wo v L 8 i) (L i) < v 5 0 then word else 0) ||| (if ¬ q_sh (q_wo v L 4 i) (L i) < v 5 0 then 4095 - word else 0)) else v 2 i) else v 2 i
def q_wm (v : Nat → Nat → Int32) (L : Nat → Int32) (word : Int32) : Nat → Int32
  | 0 => 0
  | i + 1 => if word = (if v 0 i = 0 then q_kn v L word i else 0) then q_wm v L word i else q_wm v L word i ||| ((1 : Int32) <<< (nI i &&& 31))
/-- the pulses of a word, sent one by one -/
def q_bit (w : Int32) (d : Nat) : Int32 := if ((w >>> ((11 - nI d) &&& 31)) &&& 1) = 1 then 8 else 4
def q_aw (w : Int32) (n : Nat) (v : Nat → Nat → Int32) : Nat → Nat → Nat → Int32
  | 0 => v
  | d + 1 => su (su (q_aw w n v d) 6 (n + d) (q_bit w d)) 7 0 (nI (n + d + 1))
theorem q_aw_cnt {w : Int32} {n : Nat} {v : Nat → Nat → Int32} (h : v 7 0 = nI n) : ∀ d : Nat, q_aw w n v d 7 0 = nI (n + d)
  | 0 => h
  | d + 1 => by simp [q_aw, su, upd, Nat.add_assoc]
theorem q_11 : ∀ d : Nat, d ≤ 12 → (11 - nI d : Int32) < 0 → d = 12 := by decide +kernel
theorem q_11s (d : Nat) : (11 - nI d : Int32) + Int32.ofInt (-1) = 11 - nI (d + 1) := by
  rw [show Int32.ofInt (-1) = -1 from rfl, nI_succ]
  first | (simp only [Int32.sub_eq_add_neg, Int32.neg_add, Int32.add_assoc]; done) | grind
