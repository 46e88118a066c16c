/-! THE REFERENCE: its hash, its start -/
def q_m0 : Nat → Nat → Int32 := su (su (su (su q_z0 6 3 (-1)) 0 40 6) 0 41 1) 0 42 360
def q_wl1m (u : Nat → Nat → Int32) (n i : Nat) (h : Int64) : Int64 := 31 * (31 * (31 * (31 * q_hs (q_lo (zv u) i) h 8 + (q_wb u n i).toInt64) + (q_wb u n i).toInt64) + (q_fl u i 7).toInt64) + (q_wu (zv u) i).toInt64
def q_wlm (u : Nat → Nat → Int32) (n : Nat) (h : Int64) : Nat → Int64
  | 0 => h
  | i + 1 => q_wl1m u n i (q_wlm u n h i)
def q_hk (u : Nat → Nat → Int32) (h : Int64) : Nat → Int64
  | 0 => h
  | i + 1 => 31 * q_hk u h i + (if u 3 i = 0 then 0 else 1)
def q_dim (u : Nat → Nat → Int32) (n k : Nat) : Int64 := q_hs (u 4) (31 * q_hk u (31 * (31 * (31 * (31 * q_hs (zv u 6) (q_wlm u n (q_hs (zv u 5) (q_hs (q_nm u) 3517 11) 3) 8) n + (q_wv u 1365).toInt64) + (q_wv u 4095).toInt64) + (q_bf (su u 6 3 0) 8).toInt64) + (FP.ddiv (FP.i2d (q_st (zv u))) 4645040803167600640).toInt64) 2 + (nI k).toInt64) k
