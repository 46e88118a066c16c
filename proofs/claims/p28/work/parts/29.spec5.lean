/-! THE CLASS'S OWN METHODS: what they reckon -/
theorem wl_rng {i n : Nat} {N : Int32} (e : N = nI n) (hi : i < n) (hn : n < 2 ^ 31) : ¬ nI i < 0 ∧ ¬ N ≤ nI i := by
  subst e
  exact ⟨nI_pos (by omega), fun h => absurd ((nI_leI hn (by omega)).mp h) (by omega)⟩
theorem wl_rngW {i n : Nat} {N : Int32} (e : N = nI n) (hi : i ≤ n) (hn : n < 2 ^ 31) : ¬ nI i < 0 ∧ ¬ N < nI i := by
  subst e
  exact ⟨nI_pos (by omega), fun h => absurd ((nI_ltI hn (by omega)).mp h) (by omega)⟩
section WR
variable {p : Program} {l : Launch} {e : Env} {R : Room} {s : State} {m : MethodId} {args : Array Value} {below : List Frame} {meth : Method} {c : Code} {H : Heap} {locs : List Loc} {cells slots : Nat} {Q : State → Prop}
variable {cc : ByteArray} {pc : Nat} {ls : Array Slot} {rest : List Value}
theorem wl_ifnonnull {f : Option Nat} (hx : p.tables.exec = Jvm.exec) (hb : c.code = cc) {off : Int} {tgt : Nat} (hdg : decode cc pc = .ok (.ifnonnull off, 3)) (ht : (pc : Int) + off = (tgt : Int))
    (kn : f = none → W p l e R s m args below meth c H locs cells slots Q (F0 m (pc + 3) ls rest)) (ks : ∀ a : Nat, ¬ f = none → W p l e R s m args below meth c H locs cells slots Q (F0 m tgt ls rest)) : W p l e R s m args below meth c H locs cells slots Q (F0 m pc ls (va_rf f :: rest)) := by
  cases f with
  | none => exact lv_ifnonnullN hx hb hdg (kn rfl)
  | some a => exact lv_ifnonnull hx hb hdg ht (ks a (fun h => nomatch h))
end WR
def q_lo (v : Nat → Nat → Int32) (i k : Nat) : Int32 := if k = 0 then v 0 i else if k = 1 then v 1 i else if k = 2 then v 2 i else if k = 3 then v 3 i else if k = 7 then v 4 i else q_shn v (q_br (v 3 i) (nI (k - 4))) (q_cw v)
def q_co (v : Nat → Nat → Int32) (z k : Nat) : Int32 := if k = 0 then v 7 0 else if k = 1 then v 7 1 else if k = 2 then v 7 2 + v 7 3 + v 7 4 + v 7 0 else if k = 3 then v 7 2 else if k = 4 then v 7 3 else if k = 5 then v 7 4 else if k = 6 then q_cw v else if k = 7 then q_st v else if k = 8 then q_cnt (v 3) 8 else if k = 9 then v 7 5 else nI z
def q_bp (v : Nat → Nat → Int32) (i d : Nat) : Bool := decide (q_wm v (q_el v (nI i) (6 - nI d)) 1365 8 = 0) && decide (q_wm v (q_el v (nI i) (6 - nI d)) 2730 8 = 0)
def q_bs (p : Nat → Bool) : Nat → Nat → Int32
  | 0, _ => -1
  | m + 1, d => if p d then 6 - nI d else q_bs p m (d + 1)
def q_be (v : Nat → Nat → Int32) (i : Nat) : Int32 := q_bs (q_bp v i) 7 0
theorem q_6 : ∀ d : Nat, d ≤ 7 → (6 - nI d : Int32) < 0 → d = 7 := by decide +kernel
theorem q_6s (d : Nat) : (6 - nI d : Int32) + Int32.ofInt (-1) = 6 - nI (d + 1) := by
  rw [show Int32.ofInt (-1) = -1 from rfl, nI_succ]
  first | (simp only [Int32.sub_eq_add_neg, Int32.neg_add, Int32.add_assoc]; done) | grind
theorem q_bs_in {p : Nat → Bool} {d : Nat} (hd : d < 7) (hp : ¬ p d = true) (h : q_bs p 7 0 = q_bs p (7 - d) d) : q_bs p 7 0 = q_bs p (7 - (d + 1)) (d + 1) := by
  rw [h, show 7 - d = (7 - (d + 1)) + 1 by omega]
  simp [q_bs, hp]
theorem q_bs_out {p : Nat → Bool} {d : Nat} (hd : d < 7) (hp : p d = true) (h : q_bs p 7 0 = q_bs p (7 - d) d) : q_bs p 7 0 = 6 - nI d := by
  rw [h, show 7 - d = (7 - (d + 1)) + 1 by omega]
  simp [q_bs, hp]
def q_bks (v : Nat → Nat → Int32) : Nat → Nat → Int32
  | 0, _ => -1
  | m + 1, i => if v 0 (i - 1) = 2 then nI i else q_bks v m (i + 1)
def q_bk (v : Nat → Nat → Int32) : Int32 := q_bks v 7 1
theorem q_bk_in {v : Nat → Nat → Int32} {d : Nat} (hd : d < 8) (hp : ¬ v 0 (d - 1) = 2) (h : q_bk v = q_bks v (8 - d) d) : q_bk v = q_bks v (8 - (d + 1)) (d + 1) := by
  rw [h, show 8 - d = (8 - (d + 1)) + 1 by omega]
  simp [q_bks, hp]
theorem q_bk_out {v : Nat → Nat → Int32} {d : Nat} (hd : d < 8) (hp : v 0 (d - 1) = 2) (h : q_bk v = q_bks v (8 - d) d) : q_bk v = nI d := by
  rw [h, show 8 - d = (8 - (d + 1)) + 1 by omega]
  simp [q_bks, hp]
/-- at a gap, lamp by lamp; w: the journey behind -/
def q_lg (v w : Nat → Nat → Int32) : Nat → Nat → Nat → Int32
  | 0 => v
  | i + 1 => su (su (su (q_lg v w i) 2 i (w 1 i)) 4 i (w 0 i)) 3 i (if q_lg v w i 0 i = 0 then w 1 i else 0)
def q_lc (v w : Nat → Nat → Int32) : Nat → Int32
  | 0 => 0
  | i + 1 => if q_lg v w i 2 i = w 1 i then q_lc v w i else q_lc v w i + 1
def q_gp (v w : Nat → Nat → Int32) : Nat → Nat → Int32 := su (su (su (su (q_lg v w 8) 7 1 (q_lg v w 8 7 1 + 1)) 7 2 (q_lg v w 8 7 2 + w 3 0)) 7 3 (q_lg v w 8 7 3 + (q_lg v w 8 7 0 - w 3 0))) 7 0 0
def q_rfu (v : Nat → Nat → Int32) : Nat → Nat → Int32 := su v 7 5 (v 7 5 + 1)
/-- the words of a text, sent -/
def q_ld (t : Nat → Nat → Int32) (k n : Nat) (v : Nat → Nat → Int32) : Nat → Nat → Nat → Int32
  | 0 => v
  | i + 1 => q_aw (q_wat t k i) (n + 12 * i) (q_ld t k n v i) 12
theorem q_ld_cnt {t : Nat → Nat → Int32} {k n : Nat} {v : Nat → Nat → Int32} (h : v 7 0 = nI n) : ∀ i : Nat, q_ld t k n v i 7 0 = nI (n + 12 * i)
  | 0 => h
  | i + 1 => by
    have h2 := q_aw_cnt (w := q_wat t k i) (q_ld_cnt (t := t) (k := k) h i) 12
    show q_aw (q_wat t k i) (n + 12 * i) (q_ld t k n v i) 12 7 0 = _
    rw [h2]
    congr 1
theorem q_wt_le {t : Nat → Nat → Int32} {n : Nat} (hn : n ≤ 60) : q_wt t n ≤ 16 := by
  unfold q_wt q_wm0
  repeat' split
  all_goals omega
/-- hashes -/
def q_hs (f : Nat → Int32) (h : Int64) : Nat → Int64
  | 0 => h
  | i + 1 => 31 * q_hs f h i + (f i).toInt64
def q_wl1 (v w : Nat → Nat → Int32) (n i : Nat) (h : Int64) : Int64 := 31 * (31 * (31 * (31 * q_hs (q_lo v i) h 8 + (w 1 i).toInt64) + (q_wbp v i n).toInt64) + (q_be v i).toInt64) + (q_wu v i).toInt64
def q_wl (v w : Nat → Nat → Int32) (n : Nat) (h : Int64) : Nat → Int64
  | 0 => h
  | i + 1 => q_wl1 v w n i (q_wl v w n h i)
theorem q_chr : ∀ i : Nat, i ≤ 126 → ((nI i).toUInt32 % 65536).toInt32 = nI i := by decide +kernel
theorem q_chr2 : ∀ i : Nat, i ≤ 126 → vp_nar .char (nI i) = nI i := by decide +kernel
def q_lo3 (i : Nat) : Nat := if i = 0 then 2 else 0
def q_hi3 (i : Nat) : Nat := if i = 0 then 12 else if i = 1 then 1 else 360
theorem q_lo3_le (i : Nat) : q_lo3 i ≤ 2 := by unfold q_lo3; split <;> omega
theorem q_hi3_le (i : Nat) : q_hi3 i ≤ 360 := by unfold q_hi3; split <;> (try split) <;> omega
theorem q_out {n : Int} {y N : Int32} (h : ¬ (¬ y < 0 ∧ ¬ N < y)) (hN : N.toInt = n := by decide) : y.toInt < 0 ∨ n < y.toInt := by
  subst hN
  by_cases h1 : y < 0
  · exact Or.inl (by simpa [Int32.lt_iff_toInt_lt] using h1)
  · by_cases h2 : N < y
    · exact Or.inr (Int32.lt_iff_toInt_lt.mp h2)
    · exact absurd ⟨h1, h2⟩ h
/-! doubles -/
def q_two : UInt64 := 4611686018427387904
def q_p52 : UInt64 := 4841369599423283200
def q_sc (x : UInt64) : Nat → UInt64
  | 0 => x
  | k + 1 => FP.dmul (q_sc x k) 4611686018427387904
def q_bv (x : UInt64) (K : Nat) : Int64 := ((Int32.toInt64 ((1023 : Int32) + (0 - nI K))) <<< (Int32.toInt64 (52 : Int32) &&& 63)) + FP.d2l (FP.dmul (FP.dsub (q_sc x K) FP.dconst1) 4841369599423283200)
def q_okK (x : UInt64) (K : Nat) : Prop := 0 < Op.cmpValue (FP.dcmp x FP.dconst0) .g ∧ K ≤ 20 ∧ (∀ k, k < K → Op.cmpValue (FP.dcmp (q_sc x k) FP.dconst1) .g < 0 ∧ vf_n64 (FP.dmul (q_sc x k) 4611686018427387904)) ∧ 0 ≤ Op.cmpValue (FP.dcmp (q_sc x K) FP.dconst1) .g ∧ vf_n64 (FP.dsub (q_sc x K) FP.dconst1) ∧ vf_n64 (FP.dmul (FP.dsub (q_sc x K) FP.dconst1) 4841369599423283200)
theorem q_ex : ∀ k : Nat, k ≤ 20 → ¬ (0 - nI k : Int32) ≤ -1023 := by decide +kernel
theorem q_exs (d : Nat) : (0 - nI d : Int32) + Int32.ofInt (-1) = 0 - nI (d + 1) := by
  rw [show Int32.ofInt (-1) = -1 from rfl, nI_succ]
  first | (simp only [Int32.sub_eq_add_neg, Int32.neg_add, Int32.add_assoc]; done) | grind
def q_di (v w : Nat → Nat → Int32) (n z : Nat) (f : Nat → Option Nat) (t : Nat → Nat → Int32) (k : Nat) (B : Int64) : Int64 := q_hs (t 0) (31 * q_hs (fun j => if f j = none then 0 else 1) (31 * (31 * (31 * (31 * q_hs (v 6) (q_wl v w n (q_hs (v 5) (q_hs (q_co v z) 3517 11) 3) 8) n + (q_wm v (q_el v (-1) 0) (nI 1365) 8).toInt64) + (q_wm v (q_el v (-1) 0) (nI 4095) 8).toInt64) + (q_bk v).toInt64) + B) 2 + (nI k).toInt64) k
def q_okb (x : UInt64) (B : Int64) : Prop := (¬ 0 < Op.cmpValue (FP.dcmp x FP.dconst0) .g ∧ B = 0) ∨ ∃ K : Nat, q_okK x K ∧ B = q_bv x K
