/-! THE STATES: a row of numbers a place; what a method reckons, as functions of them -/
/-- one place of one row -/
def su (v : Nat → Nat → Int32) (k i : Nat) (x : Int32) : Nat → Nat → Int32 := fun k' => if k' = k then upd (v k') i x else v k'
/-- a whole row -/
def sf (v : Nat → Nat → Int32) (k : Nat) (f : Nat → Int32) : Nat → Nat → Int32 := fun k' => if k' = k then f else v k'
/-- a State: 0 modes, 1 losses, 2 known, 3 shining, 4 came, 5 settings, 6 pulses; 7: pulseCount, gaps, taken, lost, dropped, refused -/
def stW (cy : Nat → ClassId) (a : Nat → Nat) (v : Nat → Nat → Int32) : va_W := [(a 0, .inr (2, [.ref (a 1), .ref (a 2), .ref (a 3), .ref (a 4), .ref (a 5), .ref (a 6), .ref (a 7), .int (v 7 0), .int (v 7 1), .int (v 7 2), .int (v 7 3), .int (v 7 4), .int (v 7 5)])), (a 1, .inl (cy 0, 8, .inl (v 0))), (a 2, .inl (cy 0, 8, .inl (v 1))), (a 3, .inl (cy 0, 8, .inl (v 2))), (a 4, .inl (cy 0, 8, .inl (v 3))), (a 5, .inl (cy 0, 8, .inl (v 4))), (a 6, .inl (cy 0, 3, .inl (v 5))), (a 7, .inl (cy 0, 120, .inl (v 6)))]
/-- a Journey: 0 came, 1 words, 2 pulses; 3: taken, first, end -/
def joW (cy : Nat → ClassId) (a : Nat → Nat) (w : Nat → Nat → Int32) : va_W := [(a 0, .inr (1, [.ref (a 1), .ref (a 2), .int (w 3 0), .ref (a 3), .int (w 3 1), .int (w 3 2)])), (a 1, .inl (cy 0, 8, .inl (w 0))), (a 2, .inl (cy 0, 8, .inl (w 1))), (a 3, .inl (cy 0, 120, .inl (w 2)))]
/-- a Text: 0 signs; 1: length -/
def txW (cy : Nat → ClassId) (a : Nat → Nat) (t : Nat → Nat → Int32) : va_W := [(a 0, .inr (3, [.ref (a 1), .int (t 1 0)])), (a 1, .inl (cy 1, 60, .inl (t 0)))]
/-- the reference: 0 z, 1 saved, 2 slots, 3 isKept, 4 text, 5 told; 6: savedMany, length, thrown, trial, toldMany, hasGap, spot -/
def moW (cy : Nat → ClassId) (a : Nat → Nat) (u : Nat → Nat → Int32) : va_W := [(a 0, .inr (5, [.ref (a 1), .ref (a 2), .int (u 6 0), .ref (a 3), .ref (a 4), .ref (a 5), .int (u 6 1), .int (u 6 2), .int (u 6 3), .ref (a 6), .int (u 6 4), .int (u 6 5), .int (u 6 6)])), (a 1, .inl (cy 0, 170, .inl (u 0))), (a 2, .inl (cy 0, 1020, .inl (u 1))), (a 3, .inl (cy 0, 340, .inl (u 2))), (a 4, .inl (cy 2, 2, .inl (u 3))), (a 5, .inl (cy 0, 60, .inl (u 4))), (a 6, .inl (cy 0, 10, .inl (u 5)))]
/-! sums and words -/
def q_in (f : Nat → Int32) : Nat → Int32 → Int32
  | 0, s => s
  | k + 1, s => q_in f k s + f k
def q_sum2 (g : Nat → Nat → Int32) : Nat → Int32
  | 0 => 0
  | j + 1 => q_in (g j) 3 (q_sum2 g j)
def q_sh (x l : Int32) : Int32 := if 1 ≤ x - l then x - l else 1
def q_ho (v : Nat → Nat → Int32) (x : Int32) : Int32 := if v 5 1 = 1 then (if ¬ x < v 5 0 then 8 else 4) else x
def q_br (w k : Int32) : Int32 := (w >>> ((8 - 4 * k) &&& 31)) &&& 15
def q_shn (v : Nat → Nat → Int32) (b w : Int32) : Int32 := if w ≤ 0 then b else if v 5 2 < w then b * v 5 2 / w else b
def q_cw (v : Nat → Nat → Int32) : Int32 := q_sum2 (fun j k => q_br (v 3 j) (nI k)) 8
