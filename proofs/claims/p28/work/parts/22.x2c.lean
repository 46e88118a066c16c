/-! State: copies; constructors -/
set_option maxHeartbeats 4000000 in
set_option maxRecDepth 100000 in
theorem m_X2_copyFrom (l : Launch) (D : va_G) (cy : Nat → ClassId) (a : Nat → Nat) (v : Nat → Nat → Int32) (b : Nat → Nat) (w : Nat → Nat → Int32) (sz : Nat)  : Met l yX2_copyFrom wsX2_copyFrom ({ frames := 1, cells := 0, slots := 0, locals := 24 } : Room) (wl_ic D cy (fun _ => True) [stW cy a v, stW cy b w] sz [.ref (a 0), .ref (b 0)]) (va_Qv (fun (bs : List va_W) => bs = [stW cy a w, stW cy b w]) (wl_ib D [stW cy a v, stW cy b w] sz) (va_A ([stW cy a v, stW cy b w] : List va_W).flatten sz)) 0 0 (va_A ([stW cy a v, stW cy b w] : List va_W).flatten sz) := by
  refine wl_ofI (cc := cX2_copyFrom) (maxL := 2) (ret := none) (by decide) rfl (Nat.le_of_ble_eq_true rfl) ?_
  intro p e s m below meth c ls A hx hb hr hts hown hlocks hml hnm hsz hAe hP hK hD hX hA hS hl
  have hl : lv_has ls 2 [(0, .ref (a 0)), (1, .ref (b 0))] := hl
  have lkf15 := hts (.fieldLink RX2 15 "WireLamps$State" "losses" "[I") (by decide +kernel)
  have lkf18 := hts (.fieldLink RX2 18 "WireLamps$State" "known" "[I") (by decide +kernel)
  have lkf21 := hts (.fieldLink RX2 21 "WireLamps$State" "shining" "[I") (by decide +kernel)
  have lkf24 := hts (.fieldLink RX2 24 "WireLamps$State" "came" "[I") (by decide +kernel)
  have lkf27 := hts (.fieldLink RX2 27 "WireLamps$State" "settings" "[I") (by decide +kernel)
  have lkf30 := hts (.fieldLink RX2 30 "WireLamps$State" "pulses" "[I") (by decide +kernel)
  have lkf39 := hts (.fieldLink RX2 39 "WireLamps$State" "pulseCount" "I") (by decide +kernel)
  have lkf43 := hts (.fieldLink RX2 43 "WireLamps$State" "gaps" "I") (by decide +kernel)
  have lkf46 := hts (.fieldLink RX2 46 "WireLamps$State" "taken" "I") (by decide +kernel)
  have lkf49 := hts (.fieldLink RX2 49 "WireLamps$State" "lost" "I") (by decide +kernel)
  have lkf52 := hts (.fieldLink RX2 52 "WireLamps$State" "dropped" "I") (by decide +kernel)
  have lkf55 := hts (.fieldLink RX2 55 "WireLamps$State" "refused" "I") (by decide +kernel)
  have lkf9 := hts (.fieldLink RX2 9 "WireLamps$State" "modes" "[I") (by decide +kernel)
  have lkm33 := hts (.methodLink RX2 33 arraycopyName) (by decide +kernel)
  have lkan := hts (.native arraycopyName) (by decide +kernel)
  have lkas := hts (.static arraycopyName) (by decide +kernel)
  have lkai := hts (.initialized "java/lang/System") (by decide +kernel)
  have in_X2 : ∀ w ∈ u_ws RX2 TX2 13, w ∈ wsX2_copyFrom := by decide +kernel
  refine lv_aload_n hx hb dX2_copyFrom_0 rfl (lv_at hl 1 rfl) ?_
  refine wl_getf (C := RX2) (T := TX2) (N := 13) (ci := 2) (v := .ref (b 1)) hx hb hts in_X2 hown hK hP 1 0 rfl rfl rfl 0 (by decide) lkf9 rfl rfl dX2_copyFrom_1 ?_
  refine lv_iconst (v := 0) hx hb dX2_copyFrom_4 (by decide) ?_
  refine lv_aload_n hx hb dX2_copyFrom_5 rfl (lv_at hl 0 rfl) ?_
  refine wl_getf (C := RX2) (T := TX2) (N := 13) (ci := 2) (v := .ref (a 1)) hx hb hts in_X2 hown hK hP 0 0 rfl rfl rfl 0 (by decide) lkf9 rfl rfl dX2_copyFrom_6 ?_
  refine lv_iconst (v := 0) hx hb dX2_copyFrom_9 (by decide) ?_
  refine lv_bipush (v := 8) hx hb dX2_copyFrom_10 (by decide) ?_
  refine wl_copyi (n := 8) hx hb (hml.trans hl.1.symm) hown lkm33 lkan lkas lkai hK hP hD hS 1 1 0 1 rfl rfl rfl rfl (Nat.le_of_ble_eq_true rfl) (Nat.le_of_ble_eq_true rfl) (Nat.le_of_ble_eq_true rfl) dX2_copyFrom_12 (fun H locs hP hD hS => ?_)
  have hP : va_P D vwCl ([stW cy a (sf v 0 (w 0)), stW cy b w] : List va_W).flatten H := hP
  have hD : va_D A ([stW cy a (sf v 0 (w 0)), stW cy b w] : List va_W).flatten := hD
  refine lv_aload_n hx hb dX2_copyFrom_15 rfl (lv_at hl 1 rfl) ?_
  refine wl_getf (C := RX2) (T := TX2) (N := 13) (ci := 2) (v := .ref (b 2)) hx hb hts in_X2 hown hK hP 1 0 rfl rfl rfl 1 (by decide) lkf15 rfl rfl dX2_copyFrom_16 ?_
  refine lv_iconst (v := 0) hx hb dX2_copyFrom_19 (by decide) ?_
  refine lv_aload_n hx hb dX2_copyFrom_20 rfl (lv_at hl 0 rfl) ?_
  refine wl_getf (C := RX2) (T := TX2) (N := 13) (ci := 2) (v := .ref (a 2)) hx hb hts in_X2 hown hK hP 0 0 rfl rfl rfl 1 (by decide) lkf15 rfl rfl dX2_copyFrom_21 ?_
  refine lv_iconst (v := 0) hx hb dX2_copyFrom_24 (by decide) ?_
  refine lv_bipush (v := 8) hx hb dX2_copyFrom_25 (by decide) ?_
  refine wl_copyi (n := 8) hx hb (hml.trans hl.1.symm) hown lkm33 lkan lkas lkai hK hP hD hS 1 2 0 2 rfl rfl rfl rfl (Nat.le_of_ble_eq_true rfl) (Nat.le_of_ble_eq_true rfl) (Nat.le_of_ble_eq_true rfl) dX2_copyFrom_27 (fun H locs hP hD hS => ?_)
  have hP : va_P D vwCl ([stW cy a (sf (sf v 0 (w 0)) 1 (w 1)), stW cy b w] : List va_W).flatten H := hP
  have hD : va_D A ([stW cy a (sf (sf v 0 (w 0)) 1 (w 1)), stW cy b w] : List va_W).flatten := hD
  refine lv_aload_n hx hb dX2_copyFrom_30 rfl (lv_at hl 1 rfl) ?_
  refine wl_getf (C := RX2) (T := TX2) (N := 13) (ci := 2) (v := .ref (b 3)) hx hb hts in_X2 hown hK hP 1 0 rfl rfl rfl 2 (by decide) lkf18 rfl rfl dX2_copyFrom_31 ?_
  refine lv_iconst (v := 0) hx hb dX2_copyFrom_34 (by decide) ?_
  refine lv_aload_n hx hb dX2_copyFrom_35 rfl (lv_at hl 0 rfl) ?_
  refine wl_getf (C := RX2) (T := TX2) (N := 13) (ci := 2) (v := .ref (a 3)) hx hb hts in_X2 hown hK hP 0 0 rfl rfl rfl 2 (by decide) lkf18 rfl rfl dX2_copyFrom_36 ?_
  refine lv_iconst (v := 0) hx hb dX2_copyFrom_39 (by decide) ?_
  refine lv_bipush (v := 8) hx hb dX2_copyFrom_40 (by decide) ?_
  refine wl_copyi (n := 8) hx hb (hml.trans hl.1.symm) hown lkm33 lkan lkas lkai hK hP hD hS 1 3 0 3 rfl rfl rfl rfl (Nat.le_of_ble_eq_true rfl) (Nat.le_of_ble_eq_true rfl) (Nat.le_of_ble_eq_true rfl) dX2_copyFrom_42 (fun H locs hP hD hS => ?_)
  have hP : va_P D vwCl ([stW cy a (sf (sf (sf v 0 (w 0)) 1 (w 1)) 2 (w 2)), stW cy b w] : List va_W).flatten H := hP
  have hD : va_D A ([stW cy a (sf (sf (sf v 0 (w 0)) 1 (w 1)) 2 (w 2)), stW cy b w] : List va_W).flatten := hD
  refine lv_aload_n hx hb dX2_copyFrom_45 rfl (lv_at hl 1 rfl) ?_
  refine wl_getf (C := RX2) (T := TX2) (N := 13) (ci := 2) (v := .ref (b 4)) hx hb hts in_X2 hown hK hP 1 0 rfl rfl rfl 3 (by decide) lkf21 rfl rfl dX2_copyFrom_46 ?_
  refine lv_iconst (v := 0) hx hb dX2_copyFrom_49 (by decide) ?_
  refine lv_aload_n hx hb dX2_copyFrom_50 rfl (lv_at hl 0 rfl) ?_
  refine wl_getf (C := RX2) (T := TX2) (N := 13) (ci := 2) (v := .ref (a 4)) hx hb hts in_X2 hown hK hP 0 0 rfl rfl rfl 3 (by decide) lkf21 rfl rfl dX2_copyFrom_51 ?_
  refine lv_iconst (v := 0) hx hb dX2_copyFrom_54 (by decide) ?_
  refine lv_bipush (v := 8) hx hb dX2_copyFrom_55 (by decide) ?_
  refine wl_copyi (n := 8) hx hb (hml.trans hl.1.symm) hown lkm33 lkan lkas lkai hK hP hD hS 1 4 0 4 rfl rfl rfl rfl (Nat.le_of_ble_eq_true rfl) (Nat.le_of_ble_eq_true rfl) (Nat.le_of_ble_eq_true rfl) dX2_copyFrom_57 (fun H locs hP hD hS => ?_)
  have hP : va_P D vwCl ([stW cy a (sf (sf (sf (sf v 0 (w 0)) 1 (w 1)) 2 (w 2)) 3 (w 3)), stW cy b w] : List va_W).flatten H := hP
  have hD : va_D A ([stW cy a (sf (sf (sf (sf v 0 (w 0)) 1 (w 1)) 2 (w 2)) 3 (w 3)), stW cy b w] : List va_W).flatten := hD
  refine lv_aload_n hx hb dX2_copyFrom_60 rfl (lv_at hl 1 rfl) ?_
  refine wl_getf (C := RX2) (T := TX2) (N := 13) (ci := 2) (v := .ref (b 5)) hx hb hts in_X2 hown hK hP 1 0 rfl rfl rfl 4 (by decide) lkf24 rfl rfl dX2_copyFrom_61 ?_
  refine lv_iconst (v := 0) hx hb dX2_copyFrom_64 (by decide) ?_
  refine lv_aload_n hx hb dX2_copyFrom_65 rfl (lv_at hl 0 rfl) ?_
  refine wl_getf (C := RX2) (T := TX2) (N := 13) (ci := 2) (v := .ref (a 5)) hx hb hts in_X2 hown hK hP 0 0 rfl rfl rfl 4 (by decide) lkf24 rfl rfl dX2_copyFrom_66 ?_
  refine lv_iconst (v := 0) hx hb dX2_copyFrom_69 (by decide) ?_
  refine lv_bipush (v := 8) hx hb dX2_copyFrom_70 (by decide) ?_
  refine wl_copyi (n := 8) hx hb (hml.trans hl.1.symm) hown lkm33 lkan lkas lkai hK hP hD hS 1 5 0 5 rfl rfl rfl rfl (Nat.le_of_ble_eq_true rfl) (Nat.le_of_ble_eq_true rfl) (Nat.le_of_ble_eq_true rfl) dX2_copyFrom_72 (fun H locs hP hD hS => ?_)
  have hP : va_P D vwCl ([stW cy a (sf (sf (sf (sf (sf v 0 (w 0)) 1 (w 1)) 2 (w 2)) 3 (w 3)) 4 (w 4)), stW cy b w] : List va_W).flatten H := hP
  have hD : va_D A ([stW cy a (sf (sf (sf (sf (sf v 0 (w 0)) 1 (w 1)) 2 (w 2)) 3 (w 3)) 4 (w 4)), stW cy b w] : List va_W).flatten := hD
  refine lv_aload_n hx hb dX2_copyFrom_75 rfl (lv_at hl 1 rfl) ?_
  refine wl_getf (C := RX2) (T := TX2) (N := 13) (ci := 2) (v := .ref (b 6)) hx hb hts in_X2 hown hK hP 1 0 rfl rfl rfl 5 (by decide) lkf27 rfl rfl dX2_copyFrom_76 ?_
  refine lv_iconst (v := 0) hx hb dX2_copyFrom_79 (by decide) ?_
  refine lv_aload_n hx hb dX2_copyFrom_80 rfl (lv_at hl 0 rfl) ?_
  refine wl_getf (C := RX2) (T := TX2) (N := 13) (ci := 2) (v := .ref (a 6)) hx hb hts in_X2 hown hK hP 0 0 rfl rfl rfl 5 (by decide) lkf27 rfl rfl dX2_copyFrom_81 ?_
  refine lv_iconst (v := 0) hx hb dX2_copyFrom_84 (by decide) ?_
  refine lv_iconst (v := 3) hx hb dX2_copyFrom_85 (by decide) ?_
  refine wl_copyi (n := 3) hx hb (hml.trans hl.1.symm) hown lkm33 lkan lkas lkai hK hP hD hS 1 6 0 6 rfl rfl rfl rfl (Nat.le_of_ble_eq_true rfl) (Nat.le_of_ble_eq_true rfl) (Nat.le_of_ble_eq_true rfl) dX2_copyFrom_86 (fun H locs hP hD hS => ?_)
  have hP : va_P D vwCl ([stW cy a (sf (sf (sf (sf (sf (sf v 0 (w 0)) 1 (w 1)) 2 (w 2)) 3 (w 3)) 4 (w 4)) 5 (w 5)), stW cy b w] : List va_W).flatten H := hP
  have hD : va_D A ([stW cy a (sf (sf (sf (sf (sf (sf v 0 (w 0)) 1 (w 1)) 2 (w 2)) 3 (w 3)) 4 (w 4)) 5 (w 5)), stW cy b w] : List va_W).flatten := hD
  refine lv_aload_n hx hb dX2_copyFrom_89 rfl (lv_at hl 1 rfl) ?_
  refine wl_getf (C := RX2) (T := TX2) (N := 13) (ci := 2) (v := .ref (b 7)) hx hb hts in_X2 hown hK hP 1 0 rfl rfl rfl 6 (by decide) lkf30 rfl rfl dX2_copyFrom_90 ?_
  refine lv_iconst (v := 0) hx hb dX2_copyFrom_93 (by decide) ?_
  refine lv_aload_n hx hb dX2_copyFrom_94 rfl (lv_at hl 0 rfl) ?_
  refine wl_getf (C := RX2) (T := TX2) (N := 13) (ci := 2) (v := .ref (a 7)) hx hb hts in_X2 hown hK hP 0 0 rfl rfl rfl 6 (by decide) lkf30 rfl rfl dX2_copyFrom_95 ?_
  refine lv_iconst (v := 0) hx hb dX2_copyFrom_98 (by decide) ?_
  refine lv_bipush (v := 120) hx hb dX2_copyFrom_99 (by decide) ?_
  refine wl_copyi (n := 120) hx hb (hml.trans hl.1.symm) hown lkm33 lkan lkas lkai hK hP hD hS 1 7 0 7 rfl rfl rfl rfl (Nat.le_of_ble_eq_true rfl) (Nat.le_of_ble_eq_true rfl) (Nat.le_of_ble_eq_true rfl) dX2_copyFrom_101 (fun H locs hP hD hS => ?_)
  have hP : va_P D vwCl ([stW cy a (sf (sf (sf (sf (sf (sf (sf v 0 (w 0)) 1 (w 1)) 2 (w 2)) 3 (w 3)) 4 (w 4)) 5 (w 5)) 6 (w 6)), stW cy b w] : List va_W).flatten H := hP
  have hD : va_D A ([stW cy a (sf (sf (sf (sf (sf (sf (sf v 0 (w 0)) 1 (w 1)) 2 (w 2)) 3 (w 3)) 4 (w 4)) 5 (w 5)) 6 (w 6)), stW cy b w] : List va_W).flatten := hD
  refine lv_aload_n hx hb dX2_copyFrom_104 rfl (lv_at hl 0 rfl) ?_
  refine lv_aload_n hx hb dX2_copyFrom_105 rfl (lv_at hl 1 rfl) ?_
  refine wl_getf (C := RX2) (T := TX2) (N := 13) (ci := 2) (v := .int (w 7 0)) hx hb hts in_X2 hown hK hP 1 0 rfl rfl rfl 7 (by decide) lkf39 rfl rfl dX2_copyFrom_106 ?_
  refine wl_putf (C := RX2) (T := TX2) (N := 13) (ci := 2) (v := .int (w 7 0)) hx hb hts in_X2 tyX2 tyX2_ok nmX2 hown hK hP hD hS 0 0 rfl rfl rfl 7 (by decide) lkf39 rfl rfl rfl rfl (Nat.le_of_ble_eq_true rfl) dX2_copyFrom_109 (fun H locs hP hD hS => ?_)
  have hP : va_P D vwCl ([stW cy a (su (sf (sf (sf (sf (sf (sf (sf v 0 (w 0)) 1 (w 1)) 2 (w 2)) 3 (w 3)) 4 (w 4)) 5 (w 5)) 6 (w 6)) 7 0 (w 7 0)), stW cy b w] : List va_W).flatten H := hP
  have hD : va_D A ([stW cy a (su (sf (sf (sf (sf (sf (sf (sf v 0 (w 0)) 1 (w 1)) 2 (w 2)) 3 (w 3)) 4 (w 4)) 5 (w 5)) 6 (w 6)) 7 0 (w 7 0)), stW cy b w] : List va_W).flatten := hD
  refine lv_aload_n hx hb dX2_copyFrom_112 rfl (lv_at hl 0 rfl) ?_
  refine lv_aload_n hx hb dX2_copyFrom_113 rfl (lv_at hl 1 rfl) ?_
  refine wl_getf (C := RX2) (T := TX2) (N := 13) (ci := 2) (v := .int (w 7 1)) hx hb hts in_X2 hown hK hP 1 0 rfl rfl rfl 8 (by decide) lkf43 rfl rfl dX2_copyFrom_114 ?_
  refine wl_putf (C := RX2) (T := TX2) (N := 13) (ci := 2) (v := .int (w 7 1)) hx hb hts in_X2 tyX2 tyX2_ok nmX2 hown hK hP hD hS 0 0 rfl rfl rfl 8 (by decide) lkf43 rfl rfl rfl rfl (Nat.le_of_ble_eq_true rfl) dX2_copyFrom_117 (fun H locs hP hD hS => ?_)
  have hP : va_P D vwCl ([stW cy a (su (su (sf (sf (sf (sf (sf (sf (sf v 0 (w 0)) 1 (w 1)) 2 (w 2)) 3 (w 3)) 4 (w 4)) 5 (w 5)) 6 (w 6)) 7 0 (w 7 0)) 7 1 (w 7 1)), stW cy b w] : List va_W).flatten H := hP
  have hD : va_D A ([stW cy a (su (su (sf (sf (sf (sf (sf (sf (sf v 0 (w 0)) 1 (w 1)) 2 (w 2)) 3 (w 3)) 4 (w 4)) 5 (w 5)) 6 (w 6)) 7 0 (w 7 0)) 7 1 (w 7 1)), stW cy b w] : List va_W).flatten := hD
  refine lv_aload_n hx hb dX2_copyFrom_120 rfl (lv_at hl 0 rfl) ?_
  refine lv_aload_n hx hb dX2_copyFrom_121 rfl (lv_at hl 1 rfl) ?_
  refine wl_getf (C := RX2) (T := TX2) (N := 13) (ci := 2) (v := .int (w 7 2)) hx hb hts in_X2 hown hK hP 1 0 rfl rfl rfl 9 (by decide) lkf46 rfl rfl dX2_copyFrom_122 ?_
  refine wl_putf (C := RX2) (T := TX2) (N := 13) (ci := 2) (v := .int (w 7 2)) hx hb hts in_X2 tyX2 tyX2_ok nmX2 hown hK hP hD hS 0 0 rfl rfl rfl 9 (by decide) lkf46 rfl rfl rfl rfl (Nat.le_of_ble_eq_true rfl) dX2_copyFrom_125 (fun H locs hP hD hS => ?_)
  have hP : va_P D vwCl ([stW cy a (su (su (su (sf (sf (sf (sf (sf (sf (sf v 0 (w 0)) 1 (w 1)) 2 (w 2)) 3 (w 3)) 4 (w 4)) 5 (w 5)) 6 (w 6)) 7 0 (w 7 0)) 7 1 (w 7 1)) 7 2 (w 7 2)), stW cy b w] : List va_W).flatten H := hP
  have hD : va_D A ([stW cy a (su (su (su (sf (sf (sf (sf (sf (sf (sf v 0 (w 0)) 1 (w 1)) 2 (w 2)) 3 (w 3)) 4 (w 4)) 5 (w 5)) 6 (w 6)) 7 0 (w 7 0)) 7 1 (w 7 1)) 7 2 (w 7 2)), stW cy b w] : List va_W).flatten := hD
  refine lv_aload_n hx hb dX2_copyFrom_128 rfl (lv_at hl 0 rfl) ?_
  refine lv_aload_n hx hb dX2_copyFrom_129 rfl (lv_at hl 1 rfl) ?_
  refine wl_getf (C := RX2) (T := TX2) (N := 13) (ci := 2) (v := .int (w 7 3)) hx hb hts in_X2 hown hK hP 1 0 rfl rfl rfl 10 (by decide) lkf49 rfl rfl dX2_copyFrom_130 ?_
  refine wl_putf (C := RX2) (T := TX2) (N := 13) (ci := 2) (v := .int (w 7 3)) hx hb hts in_X2 tyX2 tyX2_ok nmX2 hown hK hP hD hS 0 0 rfl rfl rfl 10 (by decide) lkf49 rfl rfl rfl rfl (Nat.le_of_ble_eq_true rfl) dX2_copyFrom_133 (fun H locs hP hD hS => ?_)
  have hP : va_P D vwCl ([stW cy a (su (su (su (su (sf (sf (sf (sf (sf (sf (sf v 0 (w 0)) 1 (w 1)) 2 (w 2)) 3 (w 3)) 4 (w 4)) 5 (w 5)) 6 (w 6)) 7 0 (w 7 0)) 7 1 (w 7 1)) 7 2 (w 7 2)) 7 3 (w 7 3)), stW cy b w] : List va_W).flatten H := hP
  have hD : va_D A ([stW cy a (su (su (su (su (sf (sf (sf (sf (sf (sf (sf v 0 (w 0)) 1 (w 1)) 2 (w 2)) 3 (w 3)) 4 (w 4)) 5 (w 5)) 6 (w 6)) 7 0 (w 7 0)) 7 1 (w 7 1)) 7 2 (w 7 2)) 7 3 (w 7 3)), stW cy b w] : List va_W).flatten := hD
  refine lv_aload_n hx hb dX2_copyFrom_136 rfl (lv_at hl 0 rfl) ?_
  refine lv_aload_n hx hb dX2_copyFrom_137 rfl (lv_at hl 1 rfl) ?_
  refine wl_getf (C := RX2) (T := TX2) (N := 13) (ci := 2) (v := .int (w 7 4)) hx hb hts in_X2 hown hK hP 1 0 rfl rfl rfl 11 (by decide) lkf52 rfl rfl dX2_copyFrom_138 ?_
  refine wl_putf (C := RX2) (T := TX2) (N := 13) (ci := 2) (v := .int (w 7 4)) hx hb hts in_X2 tyX2 tyX2_ok nmX2 hown hK hP hD hS 0 0 rfl rfl rfl 11 (by decide) lkf52 rfl rfl rfl rfl (Nat.le_of_ble_eq_true rfl) dX2_copyFrom_141 (fun H locs hP hD hS => ?_)
  have hP : va_P D vwCl ([stW cy a (su (su (su (su (su (sf (sf (sf (sf (sf (sf (sf v 0 (w 0)) 1 (w 1)) 2 (w 2)) 3 (w 3)) 4 (w 4)) 5 (w 5)) 6 (w 6)) 7 0 (w 7 0)) 7 1 (w 7 1)) 7 2 (w 7 2)) 7 3 (w 7 3)) 7 4 (w 7 4)), stW cy b w] : List va_W).flatten H := hP
  have hD : va_D A ([stW cy a (su (su (su (su (su (sf (sf (sf (sf (sf (sf (sf v 0 (w 0)) 1 (w 1)) 2 (w 2)) 3 (w 3)) 4 (w 4)) 5 (w 5)) 6 (w 6)) 7 0 (w 7 0)) 7 1 (w 7 1)) 7 2 (w 7 2)) 7 3 (w 7 3)) 7 4 (w 7 4)), stW cy b w] : List va_W).flatten := hD
  refine lv_aload_n hx hb dX2_copyFrom_144 rfl (lv_at hl 0 rfl) ?_
  refine lv_aload_n hx hb dX2_copyFrom_145 rfl (lv_at hl 1 rfl) ?_
  refine wl_getf (C := RX2) (T := TX2) (N := 13) (ci := 2) (v := .int (w 7 5)) hx hb hts in_X2 hown hK hP 1 0 rfl rfl rfl 12 (by decide) lkf55 rfl rfl dX2_copyFrom_146 ?_
  refine wl_putf (C := RX2) (T := TX2) (N := 13) (ci := 2) (v := .int (w 7 5)) hx hb hts in_X2 tyX2 tyX2_ok nmX2 hown hK hP hD hS 0 0 rfl rfl rfl 12 (by decide) lkf55 rfl rfl rfl rfl (Nat.le_of_ble_eq_true rfl) dX2_copyFrom_149 (fun H locs hP hD hS => ?_)
  have hP : va_P D vwCl ([stW cy a (su (su (su (su (su (su (sf (sf (sf (sf (sf (sf (sf v 0 (w 0)) 1 (w 1)) 2 (w 2)) 3 (w 3)) 4 (w 4)) 5 (w 5)) 6 (w 6)) 7 0 (w 7 0)) 7 1 (w 7 1)) 7 2 (w 7 2)) 7 3 (w 7 3)) 7 4 (w 7 4)) 7 5 (w 7 5)), stW cy b w] : List va_W).flatten H := hP
  have hD : va_D A ([stW cy a (su (su (su (su (su (su (sf (sf (sf (sf (sf (sf (sf v 0 (w 0)) 1 (w 1)) 2 (w 2)) 3 (w 3)) 4 (w 4)) 5 (w 5)) 6 (w 6)) 7 0 (w 7 0)) 7 1 (w 7 1)) 7 2 (w 7 2)) 7 3 (w 7 3)) 7 4 (w 7 4)) 7 5 (w 7 5)), stW cy b w] : List va_W).flatten := hD
  have hP : va_P D vwCl ([stW cy a w, stW cy b w] : List va_W).flatten H := hP
  have hD : va_D A ([stW cy a w, stW cy b w] : List va_W).flatten := hD
  exact wl_Rv (bs := [stW cy a w, stW cy b w]) hx hb hr hlocks hAe hP hD hS (by rfl) dX2_copyFrom_152
set_option maxHeartbeats 4000000 in
set_option maxRecDepth 100000 in
theorem m_X2_init (l : Launch) (D : va_G) (cy : Nat → ClassId) (h : Nat) (sz : Nat)  : Met l yX2_init wsX2_init ({ frames := 1, cells := 7, slots := 163, locals := 12 } : Room) (wl_ic D cy (fun _ => True) [([(h, .inr (2, [.null, .null, .null, .null, .null, .null, .null, .int 0, .int 0, .int 0, .int 0, .int 0, .int 0]))] : va_W)] sz [.ref h]) (va_Qv (fun (bs : List va_W) => ∃ a : Nat → Nat, a 0 = h ∧ bs = [stW cy a q_s0]) (wl_ib D [([(h, .inr (2, [.null, .null, .null, .null, .null, .null, .null, .int 0, .int 0, .int 0, .int 0, .int 0, .int 0]))] : va_W)] sz) (va_A ([([(h, .inr (2, [.null, .null, .null, .null, .null, .null, .null, .int 0, .int 0, .int 0, .int 0, .int 0, .int 0]))] : va_W)] : List va_W).flatten sz)) 7 163 (va_A ([([(h, .inr (2, [.null, .null, .null, .null, .null, .null, .null, .int 0, .int 0, .int 0, .int 0, .int 0, .int 0]))] : va_W)] : List va_W).flatten sz) := by
  refine wl_ofI (cc := cX2_init) (maxL := 1) (ret := none) (by decide) rfl (Nat.le_of_ble_eq_true rfl) ?_
  intro p e s m below meth c ls A hx hb hr hts hown hlocks hml hnm hsz hAe hP hK hD hX hA hS hl
  have hl : lv_has ls 1 [(0, .ref h)] := hl
  have lka_int := hts (.arrayClass .int) (by decide +kernel)
  have lkf15 := hts (.fieldLink RX2 15 "WireLamps$State" "losses" "[I") (by decide +kernel)
  have lkf18 := hts (.fieldLink RX2 18 "WireLamps$State" "known" "[I") (by decide +kernel)
  have lkf21 := hts (.fieldLink RX2 21 "WireLamps$State" "shining" "[I") (by decide +kernel)
  have lkf24 := hts (.fieldLink RX2 24 "WireLamps$State" "came" "[I") (by decide +kernel)
  have lkf27 := hts (.fieldLink RX2 27 "WireLamps$State" "settings" "[I") (by decide +kernel)
  have lkf30 := hts (.fieldLink RX2 30 "WireLamps$State" "pulses" "[I") (by decide +kernel)
  have lkf9 := hts (.fieldLink RX2 9 "WireLamps$State" "modes" "[I") (by decide +kernel)
  have in_X2 : ∀ w ∈ u_ws RX2 TX2 13, w ∈ wsX2_init := by decide +kernel
  refine lv_aload_n hx hb dX2_init_0 rfl (lv_at hl 0 rfl) ?_
  refine W.objInit hx hb hown (hts (.methodLink RX2 3 objectInit) (by decide +kernel)) (hts (.instanceMethod objectInit) (by decide +kernel)) (hts (.code objectInit ⟨#[0xb1]⟩ 1 none) (by decide +kernel)) rfl (by rw [hml]; exact hl.1) rfl dX2_init_1 (Nat.le_of_ble_eq_true rfl) (Nat.le_of_ble_eq_true rfl) ?_
  refine W.eq (g2 := F0 m 4 ls []) rfl ?_
  refine lv_aload_n hx hb dX2_init_4 rfl (lv_at hl 0 rfl) ?_
  refine lv_bipush (v := 8) hx hb dX2_init_5 (by decide) ?_
  refine wl_newai hx hb lka_int hK hP hD hS hA 8 (Nat.le_of_ble_eq_true rfl) (Nat.le_of_ble_eq_true rfl) (Nat.le_of_ble_eq_true rfl) dX2_init_7 (fun q1 H hP hD hS => ?_)
  refine W.widen (k := 1) (n := 8) (Nat.le_refl _) (Nat.le_refl _) ?_
  have hP : va_P D vwCl ([([(h, .inr (2, [.null, .null, .null, .null, .null, .null, .null, .int 0, .int 0, .int 0, .int 0, .int 0, .int 0]))] : va_W), ([(q1, .inl (cy 0, 8, (.inl (fun _ => 0))))] : va_W)] : List va_W).flatten H := hP
  have hD : va_D A ([([(h, .inr (2, [.null, .null, .null, .null, .null, .null, .null, .int 0, .int 0, .int 0, .int 0, .int 0, .int 0]))] : va_W), ([(q1, .inl (cy 0, 8, (.inl (fun _ => 0))))] : va_W)] : List va_W).flatten := hD
  refine wl_putF (C := RX2) (T := TX2) (N := 13) (ci := 2) (v := .ref q1) hx hb hts in_X2 tyX2 tyX2_ok nmX2 hown hK hP hD hS 0 0 rfl rfl rfl 0 (by decide) lkf9 rfl rfl hnm rfl rfl rfl (Nat.le_of_ble_eq_true rfl) dX2_init_9 (fun H locs hP hD hS => ?_)
  have hP : va_P D vwCl ([([(h, .inr (2, [.ref q1, .null, .null, .null, .null, .null, .null, .int 0, .int 0, .int 0, .int 0, .int 0, .int 0]))] : va_W), ([(q1, .inl (cy 0, 8, (.inl (fun _ => 0))))] : va_W)] : List va_W).flatten H := hP
  have hD : va_D A ([([(h, .inr (2, [.ref q1, .null, .null, .null, .null, .null, .null, .int 0, .int 0, .int 0, .int 0, .int 0, .int 0]))] : va_W), ([(q1, .inl (cy 0, 8, (.inl (fun _ => 0))))] : va_W)] : List va_W).flatten := hD
  refine lv_aload_n hx hb dX2_init_12 rfl (lv_at hl 0 rfl) ?_
  refine lv_bipush (v := 8) hx hb dX2_init_13 (by decide) ?_
  refine wl_newai hx hb lka_int hK hP hD hS hA 8 (Nat.le_of_ble_eq_true rfl) (Nat.le_of_ble_eq_true rfl) (Nat.le_of_ble_eq_true rfl) dX2_init_15 (fun q2 H hP hD hS => ?_)
  refine W.widen (k := 2) (n := 16) (Nat.le_refl _) (Nat.le_refl _) ?_
  have hP : va_P D vwCl ([([(h, .inr (2, [.ref q1, .null, .null, .null, .null, .null, .null, .int 0, .int 0, .int 0, .int 0, .int 0, .int 0]))] : va_W), ([(q1, .inl (cy 0, 8, (.inl (fun _ => 0))))] : va_W), ([(q2, .inl (cy 0, 8, (.inl (fun _ => 0))))] : va_W)] : List va_W).flatten H := hP
  have hD : va_D A ([([(h, .inr (2, [.ref q1, .null, .null, .null, .null, .null, .null, .int 0, .int 0, .int 0, .int 0, .int 0, .int 0]))] : va_W), ([(q1, .inl (cy 0, 8, (.inl (fun _ => 0))))] : va_W), ([(q2, .inl (cy 0, 8, (.inl (fun _ => 0))))] : va_W)] : List va_W).flatten := hD
  refine wl_putF (C := RX2) (T := TX2) (N := 13) (ci := 2) (v := .ref q2) hx hb hts in_X2 tyX2 tyX2_ok nmX2 hown hK hP hD hS 0 0 rfl rfl rfl 1 (by decide) lkf15 rfl rfl hnm rfl rfl rfl (Nat.le_of_ble_eq_true rfl) dX2_init_17 (fun H locs hP hD hS => ?_)
  have hP : va_P D vwCl ([([(h, .inr (2, [.ref q1, .ref q2, .null, .null, .null, .null, .null, .int 0, .int 0, .int 0, .int 0, .int 0, .int 0]))] : va_W), ([(q1, .inl (cy 0, 8, (.inl (fun _ => 0))))] : va_W), ([(q2, .inl (cy 0, 8, (.inl (fun _ => 0))))] : va_W)] : List va_W).flatten H := hP
  have hD : va_D A ([([(h, .inr (2, [.ref q1, .ref q2, .null, .null, .null, .null, .null, .int 0, .int 0, .int 0, .int 0, .int 0, .int 0]))] : va_W), ([(q1, .inl (cy 0, 8, (.inl (fun _ => 0))))] : va_W), ([(q2, .inl (cy 0, 8, (.inl (fun _ => 0))))] : va_W)] : List va_W).flatten := hD
  refine lv_aload_n hx hb dX2_init_20 rfl (lv_at hl 0 rfl) ?_
  refine lv_bipush (v := 8) hx hb dX2_init_21 (by decide) ?_
  refine wl_newai hx hb lka_int hK hP hD hS hA 8 (Nat.le_of_ble_eq_true rfl) (Nat.le_of_ble_eq_true rfl) (Nat.le_of_ble_eq_true rfl) dX2_init_23 (fun q3 H hP hD hS => ?_)
  refine W.widen (k := 3) (n := 24) (Nat.le_refl _) (Nat.le_refl _) ?_
  have hP : va_P D vwCl ([([(h, .inr (2, [.ref q1, .ref q2, .null, .null, .null, .null, .null, .int 0, .int 0, .int 0, .int 0, .int 0, .int 0]))] : va_W), ([(q1, .inl (cy 0, 8, (.inl (fun _ => 0))))] : va_W), ([(q2, .inl (cy 0, 8, (.inl (fun _ => 0))))] : va_W), ([(q3, .inl (cy 0, 8, (.inl (fun _ => 0))))] : va_W)] : List va_W).flatten H := hP
  have hD : va_D A ([([(h, .inr (2, [.ref q1, .ref q2, .null, .null, .null, .null, .null, .int 0, .int 0, .int 0, .int 0, .int 0, .int 0]))] : va_W), ([(q1, .inl (cy 0, 8, (.inl (fun _ => 0))))] : va_W), ([(q2, .inl (cy 0, 8, (.inl (fun _ => 0))))] : va_W), ([(q3, .inl (cy 0, 8, (.inl (fun _ => 0))))] : va_W)] : List va_W).flatten := hD
  refine wl_putF (C := RX2) (T := TX2) (N := 13) (ci := 2) (v := .ref q3) hx hb hts in_X2 tyX2 tyX2_ok nmX2 hown hK hP hD hS 0 0 rfl rfl rfl 2 (by decide) lkf18 rfl rfl hnm rfl rfl rfl (Nat.le_of_ble_eq_true rfl) dX2_init_25 (fun H locs hP hD hS => ?_)
  have hP : va_P D vwCl ([([(h, .inr (2, [.ref q1, .ref q2, .ref q3, .null, .null, .null, .null, .int 0, .int 0, .int 0, .int 0, .int 0, .int 0]))] : va_W), ([(q1, .inl (cy 0, 8, (.inl (fun _ => 0))))] : va_W), ([(q2, .inl (cy 0, 8, (.inl (fun _ => 0))))] : va_W), ([(q3, .inl (cy 0, 8, (.inl (fun _ => 0))))] : va_W)] : List va_W).flatten H := hP
  have hD : va_D A ([([(h, .inr (2, [.ref q1, .ref q2, .ref q3, .null, .null, .null, .null, .int 0, .int 0, .int 0, .int 0, .int 0, .int 0]))] : va_W), ([(q1, .inl (cy 0, 8, (.inl (fun _ => 0))))] : va_W), ([(q2, .inl (cy 0, 8, (.inl (fun _ => 0))))] : va_W), ([(q3, .inl (cy 0, 8, (.inl (fun _ => 0))))] : va_W)] : List va_W).flatten := hD
  refine lv_aload_n hx hb dX2_init_28 rfl (lv_at hl 0 rfl) ?_
  refine lv_bipush (v := 8) hx hb dX2_init_29 (by decide) ?_
  refine wl_newai hx hb lka_int hK hP hD hS hA 8 (Nat.le_of_ble_eq_true rfl) (Nat.le_of_ble_eq_true rfl) (Nat.le_of_ble_eq_true rfl) dX2_init_31 (fun q4 H hP hD hS => ?_)
  refine W.widen (k := 4) (n := 32) (Nat.le_refl _) (Nat.le_refl _) ?_
  have hP : va_P D vwCl ([([(h, .inr (2, [.ref q1, .ref q2, .ref q3, .null, .null, .null, .null, .int 0, .int 0, .int 0, .int 0, .int 0, .int 0]))] : va_W), ([(q1, .inl (cy 0, 8, (.inl (fun _ => 0))))] : va_W), ([(q2, .inl (cy 0, 8, (.inl (fun _ => 0))))] : va_W), ([(q3, .inl (cy 0, 8, (.inl (fun _ => 0))))] : va_W), ([(q4, .inl (cy 0, 8, (.inl (fun _ => 0))))] : va_W)] : List va_W).flatten H := hP
  have hD : va_D A ([([(h, .inr (2, [.ref q1, .ref q2, .ref q3, .null, .null, .null, .null, .int 0, .int 0, .int 0, .int 0, .int 0, .int 0]))] : va_W), ([(q1, .inl (cy 0, 8, (.inl (fun _ => 0))))] : va_W), ([(q2, .inl (cy 0, 8, (.inl (fun _ => 0))))] : va_W), ([(q3, .inl (cy 0, 8, (.inl (fun _ => 0))))] : va_W), ([(q4, .inl (cy 0, 8, (.inl (fun _ => 0))))] : va_W)] : List va_W).flatten := hD
  refine wl_putF (C := RX2) (T := TX2) (N := 13) (ci := 2) (v := .ref q4) hx hb hts in_X2 tyX2 tyX2_ok nmX2 hown hK hP hD hS 0 0 rfl rfl rfl 3 (by decide) lkf21 rfl rfl hnm rfl rfl rfl (Nat.le_of_ble_eq_true rfl) dX2_init_33 (fun H locs hP hD hS => ?_)
  have hP : va_P D vwCl ([([(h, .inr (2, [.ref q1, .ref q2, .ref q3, .ref q4, .null, .null, .null, .int 0, .int 0, .int 0, .int 0, .int 0, .int 0]))] : va_W), ([(q1, .inl (cy 0, 8, (.inl (fun _ => 0))))] : va_W), ([(q2, .inl (cy 0, 8, (.inl (fun _ => 0))))] : va_W), ([(q3, .inl (cy 0, 8, (.inl (fun _ => 0))))] : va_W), ([(q4, .inl (cy 0, 8, (.inl (fun _ => 0))))] : va_W)] : List va_W).flatten H := hP
  have hD : va_D A ([([(h, .inr (2, [.ref q1, .ref q2, .ref q3, .ref q4, .null, .null, .null, .int 0, .int 0, .int 0, .int 0, .int 0, .int 0]))] : va_W), ([(q1, .inl (cy 0, 8, (.inl (fun _ => 0))))] : va_W), ([(q2, .inl (cy 0, 8, (.inl (fun _ => 0))))] : va_W), ([(q3, .inl (cy 0, 8, (.inl (fun _ => 0))))] : va_W), ([(q4, .inl (cy 0, 8, (.inl (fun _ => 0))))] : va_W)] : List va_W).flatten := hD
  refine lv_aload_n hx hb dX2_init_36 rfl (lv_at hl 0 rfl) ?_
  refine lv_bipush (v := 8) hx hb dX2_init_37 (by decide) ?_
  refine wl_newai hx hb lka_int hK hP hD hS hA 8 (Nat.le_of_ble_eq_true rfl) (Nat.le_of_ble_eq_true rfl) (Nat.le_of_ble_eq_true rfl) dX2_init_39 (fun q5 H hP hD hS => ?_)
  refine W.widen (k := 5) (n := 40) (Nat.le_refl _) (Nat.le_refl _) ?_
  have hP : va_P D vwCl ([([(h, .inr (2, [.ref q1, .ref q2, .ref q3, .ref q4, .null, .null, .null, .int 0, .int 0, .int 0, .int 0, .int 0, .int 0]))] : va_W), ([(q1, .inl (cy 0, 8, (.inl (fun _ => 0))))] : va_W), ([(q2, .inl (cy 0, 8, (.inl (fun _ => 0))))] : va_W), ([(q3, .inl (cy 0, 8, (.inl (fun _ => 0))))] : va_W), ([(q4, .inl (cy 0, 8, (.inl (fun _ => 0))))] : va_W), ([(q5, .inl (cy 0, 8, (.inl (fun _ => 0))))] : va_W)] : List va_W).flatten H := hP
  have hD : va_D A ([([(h, .inr (2, [.ref q1, .ref q2, .ref q3, .ref q4, .null, .null, .null, .int 0, .int 0, .int 0, .int 0, .int 0, .int 0]))] : va_W), ([(q1, .inl (cy 0, 8, (.inl (fun _ => 0))))] : va_W), ([(q2, .inl (cy 0, 8, (.inl (fun _ => 0))))] : va_W), ([(q3, .inl (cy 0, 8, (.inl (fun _ => 0))))] : va_W), ([(q4, .inl (cy 0, 8, (.inl (fun _ => 0))))] : va_W), ([(q5, .inl (cy 0, 8, (.inl (fun _ => 0))))] : va_W)] : List va_W).flatten := hD
  refine wl_putF (C := RX2) (T := TX2) (N := 13) (ci := 2) (v := .ref q5) hx hb hts in_X2 tyX2 tyX2_ok nmX2 hown hK hP hD hS 0 0 rfl rfl rfl 4 (by decide) lkf24 rfl rfl hnm rfl rfl rfl (Nat.le_of_ble_eq_true rfl) dX2_init_41 (fun H locs hP hD hS => ?_)
  have hP : va_P D vwCl ([([(h, .inr (2, [.ref q1, .ref q2, .ref q3, .ref q4, .ref q5, .null, .null, .int 0, .int 0, .int 0, .int 0, .int 0, .int 0]))] : va_W), ([(q1, .inl (cy 0, 8, (.inl (fun _ => 0))))] : va_W), ([(q2, .inl (cy 0, 8, (.inl (fun _ => 0))))] : va_W), ([(q3, .inl (cy 0, 8, (.inl (fun _ => 0))))] : va_W), ([(q4, .inl (cy 0, 8, (.inl (fun _ => 0))))] : va_W), ([(q5, .inl (cy 0, 8, (.inl (fun _ => 0))))] : va_W)] : List va_W).flatten H := hP
  have hD : va_D A ([([(h, .inr (2, [.ref q1, .ref q2, .ref q3, .ref q4, .ref q5, .null, .null, .int 0, .int 0, .int 0, .int 0, .int 0, .int 0]))] : va_W), ([(q1, .inl (cy 0, 8, (.inl (fun _ => 0))))] : va_W), ([(q2, .inl (cy 0, 8, (.inl (fun _ => 0))))] : va_W), ([(q3, .inl (cy 0, 8, (.inl (fun _ => 0))))] : va_W), ([(q4, .inl (cy 0, 8, (.inl (fun _ => 0))))] : va_W), ([(q5, .inl (cy 0, 8, (.inl (fun _ => 0))))] : va_W)] : List va_W).flatten := hD
  refine lv_aload_n hx hb dX2_init_44 rfl (lv_at hl 0 rfl) ?_
  refine lv_iconst (v := 3) hx hb dX2_init_45 (by decide) ?_
  refine wl_newai hx hb lka_int hK hP hD hS hA 3 (Nat.le_of_ble_eq_true rfl) (Nat.le_of_ble_eq_true rfl) (Nat.le_of_ble_eq_true rfl) dX2_init_46 (fun q6 H hP hD hS => ?_)
  refine W.widen (k := 6) (n := 43) (Nat.le_refl _) (Nat.le_refl _) ?_
  have hP : va_P D vwCl ([([(h, .inr (2, [.ref q1, .ref q2, .ref q3, .ref q4, .ref q5, .null, .null, .int 0, .int 0, .int 0, .int 0, .int 0, .int 0]))] : va_W), ([(q1, .inl (cy 0, 8, (.inl (fun _ => 0))))] : va_W), ([(q2, .inl (cy 0, 8, (.inl (fun _ => 0))))] : va_W), ([(q3, .inl (cy 0, 8, (.inl (fun _ => 0))))] : va_W), ([(q4, .inl (cy 0, 8, (.inl (fun _ => 0))))] : va_W), ([(q5, .inl (cy 0, 8, (.inl (fun _ => 0))))] : va_W), ([(q6, .inl (cy 0, 3, (.inl (fun _ => 0))))] : va_W)] : List va_W).flatten H := hP
  have hD : va_D A ([([(h, .inr (2, [.ref q1, .ref q2, .ref q3, .ref q4, .ref q5, .null, .null, .int 0, .int 0, .int 0, .int 0, .int 0, .int 0]))] : va_W), ([(q1, .inl (cy 0, 8, (.inl (fun _ => 0))))] : va_W), ([(q2, .inl (cy 0, 8, (.inl (fun _ => 0))))] : va_W), ([(q3, .inl (cy 0, 8, (.inl (fun _ => 0))))] : va_W), ([(q4, .inl (cy 0, 8, (.inl (fun _ => 0))))] : va_W), ([(q5, .inl (cy 0, 8, (.inl (fun _ => 0))))] : va_W), ([(q6, .inl (cy 0, 3, (.inl (fun _ => 0))))] : va_W)] : List va_W).flatten := hD
  refine lv_dup hx hb dX2_init_48 rfl ?_
  refine lv_iconst (v := 0) hx hb dX2_init_49 (by decide) ?_
  refine lv_bipush (v := 6) hx hb dX2_init_50 (by decide) ?_
  refine wl_iast hx hb hK hP hD hS 6 0 rfl rfl 0 (by omega) (Nat.le_of_ble_eq_true rfl) dX2_init_52 (fun H locs hP hD hS => ?_)
  have hP : va_P D vwCl ([([(h, .inr (2, [.ref q1, .ref q2, .ref q3, .ref q4, .ref q5, .null, .null, .int 0, .int 0, .int 0, .int 0, .int 0, .int 0]))] : va_W), ([(q1, .inl (cy 0, 8, (.inl (fun _ => 0))))] : va_W), ([(q2, .inl (cy 0, 8, (.inl (fun _ => 0))))] : va_W), ([(q3, .inl (cy 0, 8, (.inl (fun _ => 0))))] : va_W), ([(q4, .inl (cy 0, 8, (.inl (fun _ => 0))))] : va_W), ([(q5, .inl (cy 0, 8, (.inl (fun _ => 0))))] : va_W), ([(q6, .inl (cy 0, 3, (.inl (upd (fun _ => 0) 0 6))))] : va_W)] : List va_W).flatten H := hP
  have hD : va_D A ([([(h, .inr (2, [.ref q1, .ref q2, .ref q3, .ref q4, .ref q5, .null, .null, .int 0, .int 0, .int 0, .int 0, .int 0, .int 0]))] : va_W), ([(q1, .inl (cy 0, 8, (.inl (fun _ => 0))))] : va_W), ([(q2, .inl (cy 0, 8, (.inl (fun _ => 0))))] : va_W), ([(q3, .inl (cy 0, 8, (.inl (fun _ => 0))))] : va_W), ([(q4, .inl (cy 0, 8, (.inl (fun _ => 0))))] : va_W), ([(q5, .inl (cy 0, 8, (.inl (fun _ => 0))))] : va_W), ([(q6, .inl (cy 0, 3, (.inl (upd (fun _ => 0) 0 6))))] : va_W)] : List va_W).flatten := hD
  refine lv_dup hx hb dX2_init_53 rfl ?_
  refine lv_iconst (v := 1) hx hb dX2_init_54 (by decide) ?_
  refine lv_iconst (v := 1) hx hb dX2_init_55 (by decide) ?_
  refine wl_iast hx hb hK hP hD hS 6 0 rfl rfl 1 (by omega) (Nat.le_of_ble_eq_true rfl) dX2_init_56 (fun H locs hP hD hS => ?_)
  have hP : va_P D vwCl ([([(h, .inr (2, [.ref q1, .ref q2, .ref q3, .ref q4, .ref q5, .null, .null, .int 0, .int 0, .int 0, .int 0, .int 0, .int 0]))] : va_W), ([(q1, .inl (cy 0, 8, (.inl (fun _ => 0))))] : va_W), ([(q2, .inl (cy 0, 8, (.inl (fun _ => 0))))] : va_W), ([(q3, .inl (cy 0, 8, (.inl (fun _ => 0))))] : va_W), ([(q4, .inl (cy 0, 8, (.inl (fun _ => 0))))] : va_W), ([(q5, .inl (cy 0, 8, (.inl (fun _ => 0))))] : va_W), ([(q6, .inl (cy 0, 3, (.inl (upd (upd (fun _ => 0) 0 6) 1 1))))] : va_W)] : List va_W).flatten H := hP
  have hD : va_D A ([([(h, .inr (2, [.ref q1, .ref q2, .ref q3, .ref q4, .ref q5, .null, .null, .int 0, .int 0, .int 0, .int 0, .int 0, .int 0]))] : va_W), ([(q1, .inl (cy 0, 8, (.inl (fun _ => 0))))] : va_W), ([(q2, .inl (cy 0, 8, (.inl (fun _ => 0))))] : va_W), ([(q3, .inl (cy 0, 8, (.inl (fun _ => 0))))] : va_W), ([(q4, .inl (cy 0, 8, (.inl (fun _ => 0))))] : va_W), ([(q5, .inl (cy 0, 8, (.inl (fun _ => 0))))] : va_W), ([(q6, .inl (cy 0, 3, (.inl (upd (upd (fun _ => 0) 0 6) 1 1))))] : va_W)] : List va_W).flatten := hD
  refine lv_dup hx hb dX2_init_57 rfl ?_
  refine lv_iconst (v := 2) hx hb dX2_init_58 (by decide) ?_
  refine lv_sipush (v := 360) hx hb dX2_init_59 (by decide) ?_
  refine wl_iast hx hb hK hP hD hS 6 0 rfl rfl 2 (by omega) (Nat.le_of_ble_eq_true rfl) dX2_init_62 (fun H locs hP hD hS => ?_)
  have hP : va_P D vwCl ([([(h, .inr (2, [.ref q1, .ref q2, .ref q3, .ref q4, .ref q5, .null, .null, .int 0, .int 0, .int 0, .int 0, .int 0, .int 0]))] : va_W), ([(q1, .inl (cy 0, 8, (.inl (fun _ => 0))))] : va_W), ([(q2, .inl (cy 0, 8, (.inl (fun _ => 0))))] : va_W), ([(q3, .inl (cy 0, 8, (.inl (fun _ => 0))))] : va_W), ([(q4, .inl (cy 0, 8, (.inl (fun _ => 0))))] : va_W), ([(q5, .inl (cy 0, 8, (.inl (fun _ => 0))))] : va_W), ([(q6, .inl (cy 0, 3, (.inl (upd (upd (upd (fun _ => 0) 0 6) 1 1) 2 360))))] : va_W)] : List va_W).flatten H := hP
  have hD : va_D A ([([(h, .inr (2, [.ref q1, .ref q2, .ref q3, .ref q4, .ref q5, .null, .null, .int 0, .int 0, .int 0, .int 0, .int 0, .int 0]))] : va_W), ([(q1, .inl (cy 0, 8, (.inl (fun _ => 0))))] : va_W), ([(q2, .inl (cy 0, 8, (.inl (fun _ => 0))))] : va_W), ([(q3, .inl (cy 0, 8, (.inl (fun _ => 0))))] : va_W), ([(q4, .inl (cy 0, 8, (.inl (fun _ => 0))))] : va_W), ([(q5, .inl (cy 0, 8, (.inl (fun _ => 0))))] : va_W), ([(q6, .inl (cy 0, 3, (.inl (upd (upd (upd (fun _ => 0) 0 6) 1 1) 2 360))))] : va_W)] : List va_W).flatten := hD
  refine wl_putF (C := RX2) (T := TX2) (N := 13) (ci := 2) (v := .ref q6) hx hb hts in_X2 tyX2 tyX2_ok nmX2 hown hK hP hD hS 0 0 rfl rfl rfl 5 (by decide) lkf27 rfl rfl hnm rfl rfl rfl (Nat.le_of_ble_eq_true rfl) dX2_init_63 (fun H locs hP hD hS => ?_)
  have hP : va_P D vwCl ([([(h, .inr (2, [.ref q1, .ref q2, .ref q3, .ref q4, .ref q5, .ref q6, .null, .int 0, .int 0, .int 0, .int 0, .int 0, .int 0]))] : va_W), ([(q1, .inl (cy 0, 8, (.inl (fun _ => 0))))] : va_W), ([(q2, .inl (cy 0, 8, (.inl (fun _ => 0))))] : va_W), ([(q3, .inl (cy 0, 8, (.inl (fun _ => 0))))] : va_W), ([(q4, .inl (cy 0, 8, (.inl (fun _ => 0))))] : va_W), ([(q5, .inl (cy 0, 8, (.inl (fun _ => 0))))] : va_W), ([(q6, .inl (cy 0, 3, (.inl (upd (upd (upd (fun _ => 0) 0 6) 1 1) 2 360))))] : va_W)] : List va_W).flatten H := hP
  have hD : va_D A ([([(h, .inr (2, [.ref q1, .ref q2, .ref q3, .ref q4, .ref q5, .ref q6, .null, .int 0, .int 0, .int 0, .int 0, .int 0, .int 0]))] : va_W), ([(q1, .inl (cy 0, 8, (.inl (fun _ => 0))))] : va_W), ([(q2, .inl (cy 0, 8, (.inl (fun _ => 0))))] : va_W), ([(q3, .inl (cy 0, 8, (.inl (fun _ => 0))))] : va_W), ([(q4, .inl (cy 0, 8, (.inl (fun _ => 0))))] : va_W), ([(q5, .inl (cy 0, 8, (.inl (fun _ => 0))))] : va_W), ([(q6, .inl (cy 0, 3, (.inl (upd (upd (upd (fun _ => 0) 0 6) 1 1) 2 360))))] : va_W)] : List va_W).flatten := hD
  refine lv_aload_n hx hb dX2_init_66 rfl (lv_at hl 0 rfl) ?_
  refine lv_bipush (v := 120) hx hb dX2_init_67 (by decide) ?_
  refine wl_newai hx hb lka_int hK hP hD hS hA 120 (Nat.le_of_ble_eq_true rfl) (Nat.le_of_ble_eq_true rfl) (Nat.le_of_ble_eq_true rfl) dX2_init_69 (fun q7 H hP hD hS => ?_)
  refine W.widen (k := 7) (n := 163) (Nat.le_refl _) (Nat.le_refl _) ?_
  have hP : va_P D vwCl ([([(h, .inr (2, [.ref q1, .ref q2, .ref q3, .ref q4, .ref q5, .ref q6, .null, .int 0, .int 0, .int 0, .int 0, .int 0, .int 0]))] : va_W), ([(q1, .inl (cy 0, 8, (.inl (fun _ => 0))))] : va_W), ([(q2, .inl (cy 0, 8, (.inl (fun _ => 0))))] : va_W), ([(q3, .inl (cy 0, 8, (.inl (fun _ => 0))))] : va_W), ([(q4, .inl (cy 0, 8, (.inl (fun _ => 0))))] : va_W), ([(q5, .inl (cy 0, 8, (.inl (fun _ => 0))))] : va_W), ([(q6, .inl (cy 0, 3, (.inl (upd (upd (upd (fun _ => 0) 0 6) 1 1) 2 360))))] : va_W), ([(q7, .inl (cy 0, 120, (.inl (fun _ => 0))))] : va_W)] : List va_W).flatten H := hP
  have hD : va_D A ([([(h, .inr (2, [.ref q1, .ref q2, .ref q3, .ref q4, .ref q5, .ref q6, .null, .int 0, .int 0, .int 0, .int 0, .int 0, .int 0]))] : va_W), ([(q1, .inl (cy 0, 8, (.inl (fun _ => 0))))] : va_W), ([(q2, .inl (cy 0, 8, (.inl (fun _ => 0))))] : va_W), ([(q3, .inl (cy 0, 8, (.inl (fun _ => 0))))] : va_W), ([(q4, .inl (cy 0, 8, (.inl (fun _ => 0))))] : va_W), ([(q5, .inl (cy 0, 8, (.inl (fun _ => 0))))] : va_W), ([(q6, .inl (cy 0, 3, (.inl (upd (upd (upd (fun _ => 0) 0 6) 1 1) 2 360))))] : va_W), ([(q7, .inl (cy 0, 120, (.inl (fun _ => 0))))] : va_W)] : List va_W).flatten := hD
  refine wl_putF (C := RX2) (T := TX2) (N := 13) (ci := 2) (v := .ref q7) hx hb hts in_X2 tyX2 tyX2_ok nmX2 hown hK hP hD hS 0 0 rfl rfl rfl 6 (by decide) lkf30 rfl rfl hnm rfl rfl rfl (Nat.le_of_ble_eq_true rfl) dX2_init_71 (fun H locs hP hD hS => ?_)
  have hP : va_P D vwCl ([([(h, .inr (2, [.ref q1, .ref q2, .ref q3, .ref q4, .ref q5, .ref q6, .ref q7, .int 0, .int 0, .int 0, .int 0, .int 0, .int 0]))] : va_W), ([(q1, .inl (cy 0, 8, (.inl (fun _ => 0))))] : va_W), ([(q2, .inl (cy 0, 8, (.inl (fun _ => 0))))] : va_W), ([(q3, .inl (cy 0, 8, (.inl (fun _ => 0))))] : va_W), ([(q4, .inl (cy 0, 8, (.inl (fun _ => 0))))] : va_W), ([(q5, .inl (cy 0, 8, (.inl (fun _ => 0))))] : va_W), ([(q6, .inl (cy 0, 3, (.inl (upd (upd (upd (fun _ => 0) 0 6) 1 1) 2 360))))] : va_W), ([(q7, .inl (cy 0, 120, (.inl (fun _ => 0))))] : va_W)] : List va_W).flatten H := hP
  have hD : va_D A ([([(h, .inr (2, [.ref q1, .ref q2, .ref q3, .ref q4, .ref q5, .ref q6, .ref q7, .int 0, .int 0, .int 0, .int 0, .int 0, .int 0]))] : va_W), ([(q1, .inl (cy 0, 8, (.inl (fun _ => 0))))] : va_W), ([(q2, .inl (cy 0, 8, (.inl (fun _ => 0))))] : va_W), ([(q3, .inl (cy 0, 8, (.inl (fun _ => 0))))] : va_W), ([(q4, .inl (cy 0, 8, (.inl (fun _ => 0))))] : va_W), ([(q5, .inl (cy 0, 8, (.inl (fun _ => 0))))] : va_W), ([(q6, .inl (cy 0, 3, (.inl (upd (upd (upd (fun _ => 0) 0 6) 1 1) 2 360))))] : va_W), ([(q7, .inl (cy 0, 120, (.inl (fun _ => 0))))] : va_W)] : List va_W).flatten := hD
  have hP : va_P D vwCl ([stW cy (q_a8 h q1 q2 q3 q4 q5 q6 q7) q_s0] : List va_W).flatten H := hP
  have hD : va_D A ([stW cy (q_a8 h q1 q2 q3 q4 q5 q6 q7) q_s0] : List va_W).flatten := hD
  exact wl_Rv (bs := [stW cy (q_a8 h q1 q2 q3 q4 q5 q6 q7) q_s0]) hx hb hr hlocks hAe hP hD hS (by exact ⟨q_a8 h q1 q2 q3 q4 q5 q6 q7, rfl, rfl⟩) dX2_init_74
set_option maxHeartbeats 4000000 in
set_option maxRecDepth 100000 in
theorem m_X1_init (l : Launch) (D : va_G) (cy : Nat → ClassId) (h : Nat) (sz : Nat)  : Met l yX1_init wsX1_init ({ frames := 1, cells := 3, slots := 136, locals := 12 } : Room) (wl_ic D cy (fun _ => True) [([(h, .inr (1, [.null, .null, .int 0, .null, .int 0, .int 0]))] : va_W)] sz [.ref h]) (va_Qv (fun (bs : List va_W) => ∃ a : Nat → Nat, a 0 = h ∧ bs = [joW cy a q_z0]) (wl_ib D [([(h, .inr (1, [.null, .null, .int 0, .null, .int 0, .int 0]))] : va_W)] sz) (va_A ([([(h, .inr (1, [.null, .null, .int 0, .null, .int 0, .int 0]))] : va_W)] : List va_W).flatten sz)) 3 136 (va_A ([([(h, .inr (1, [.null, .null, .int 0, .null, .int 0, .int 0]))] : va_W)] : List va_W).flatten sz) := by
  refine wl_ofI (cc := cX1_init) (maxL := 1) (ret := none) (by decide) rfl (Nat.le_of_ble_eq_true rfl) ?_
  intro p e s m below meth c ls A hx hb hr hts hown hlocks hml hnm hsz hAe hP hK hD hX hA hS hl
  have hl : lv_has ls 1 [(0, .ref h)] := hl
  have lka_int := hts (.arrayClass .int) (by decide +kernel)
  have lkf15 := hts (.fieldLink RX1 15 "WireLamps$Journey" "words" "[I") (by decide +kernel)
  have lkf18 := hts (.fieldLink RX1 18 "WireLamps$Journey" "pulses" "[I") (by decide +kernel)
  have lkf9 := hts (.fieldLink RX1 9 "WireLamps$Journey" "came" "[I") (by decide +kernel)
  have in_X1 : ∀ w ∈ u_ws RX1 TX1 6, w ∈ wsX1_init := by decide +kernel
  refine lv_aload_n hx hb dX1_init_0 rfl (lv_at hl 0 rfl) ?_
  refine W.objInit hx hb hown (hts (.methodLink RX1 3 objectInit) (by decide +kernel)) (hts (.instanceMethod objectInit) (by decide +kernel)) (hts (.code objectInit ⟨#[0xb1]⟩ 1 none) (by decide +kernel)) rfl (by rw [hml]; exact hl.1) rfl dX1_init_1 (Nat.le_of_ble_eq_true rfl) (Nat.le_of_ble_eq_true rfl) ?_
  refine W.eq (g2 := F0 m 4 ls []) rfl ?_
  refine lv_aload_n hx hb dX1_init_4 rfl (lv_at hl 0 rfl) ?_
  refine lv_bipush (v := 8) hx hb dX1_init_5 (by decide) ?_
  refine wl_newai hx hb lka_int hK hP hD hS hA 8 (Nat.le_of_ble_eq_true rfl) (Nat.le_of_ble_eq_true rfl) (Nat.le_of_ble_eq_true rfl) dX1_init_7 (fun q1 H hP hD hS => ?_)
  refine W.widen (k := 1) (n := 8) (Nat.le_refl _) (Nat.le_refl _) ?_
  have hP : va_P D vwCl ([([(h, .inr (1, [.null, .null, .int 0, .null, .int 0, .int 0]))] : va_W), ([(q1, .inl (cy 0, 8, (.inl (fun _ => 0))))] : va_W)] : List va_W).flatten H := hP
  have hD : va_D A ([([(h, .inr (1, [.null, .null, .int 0, .null, .int 0, .int 0]))] : va_W), ([(q1, .inl (cy 0, 8, (.inl (fun _ => 0))))] : va_W)] : List va_W).flatten := hD
  refine wl_putF (C := RX1) (T := TX1) (N := 6) (ci := 1) (v := .ref q1) hx hb hts in_X1 tyX1 tyX1_ok nmX1 hown hK hP hD hS 0 0 rfl rfl rfl 0 (by decide) lkf9 rfl rfl hnm rfl rfl rfl (Nat.le_of_ble_eq_true rfl) dX1_init_9 (fun H locs hP hD hS => ?_)
  have hP : va_P D vwCl ([([(h, .inr (1, [.ref q1, .null, .int 0, .null, .int 0, .int 0]))] : va_W), ([(q1, .inl (cy 0, 8, (.inl (fun _ => 0))))] : va_W)] : List va_W).flatten H := hP
  have hD : va_D A ([([(h, .inr (1, [.ref q1, .null, .int 0, .null, .int 0, .int 0]))] : va_W), ([(q1, .inl (cy 0, 8, (.inl (fun _ => 0))))] : va_W)] : List va_W).flatten := hD
  refine lv_aload_n hx hb dX1_init_12 rfl (lv_at hl 0 rfl) ?_
  refine lv_bipush (v := 8) hx hb dX1_init_13 (by decide) ?_
  refine wl_newai hx hb lka_int hK hP hD hS hA 8 (Nat.le_of_ble_eq_true rfl) (Nat.le_of_ble_eq_true rfl) (Nat.le_of_ble_eq_true rfl) dX1_init_15 (fun q2 H hP hD hS => ?_)
  refine W.widen (k := 2) (n := 16) (Nat.le_refl _) (Nat.le_refl _) ?_
  have hP : va_P D vwCl ([([(h, .inr (1, [.ref q1, .null, .int 0, .null, .int 0, .int 0]))] : va_W), ([(q1, .inl (cy 0, 8, (.inl (fun _ => 0))))] : va_W), ([(q2, .inl (cy 0, 8, (.inl (fun _ => 0))))] : va_W)] : List va_W).flatten H := hP
  have hD : va_D A ([([(h, .inr (1, [.ref q1, .null, .int 0, .null, .int 0, .int 0]))] : va_W), ([(q1, .inl (cy 0, 8, (.inl (fun _ => 0))))] : va_W), ([(q2, .inl (cy 0, 8, (.inl (fun _ => 0))))] : va_W)] : List va_W).flatten := hD
  refine wl_putF (C := RX1) (T := TX1) (N := 6) (ci := 1) (v := .ref q2) hx hb hts in_X1 tyX1 tyX1_ok nmX1 hown hK hP hD hS 0 0 rfl rfl rfl 1 (by decide) lkf15 rfl rfl hnm rfl rfl rfl (Nat.le_of_ble_eq_true rfl) dX1_init_17 (fun H locs hP hD hS => ?_)
  have hP : va_P D vwCl ([([(h, .inr (1, [.ref q1, .ref q2, .int 0, .null, .int 0, .int 0]))] : va_W), ([(q1, .inl (cy 0, 8, (.inl (fun _ => 0))))] : va_W), ([(q2, .inl (cy 0, 8, (.inl (fun _ => 0))))] : va_W)] : List va_W).flatten H := hP
  have hD : va_D A ([([(h, .inr (1, [.ref q1, .ref q2, .int 0, .null, .int 0, .int 0]))] : va_W), ([(q1, .inl (cy 0, 8, (.inl (fun _ => 0))))] : va_W), ([(q2, .inl (cy 0, 8, (.inl (fun _ => 0))))] : va_W)] : List va_W).flatten := hD
  refine lv_aload_n hx hb dX1_init_20 rfl (lv_at hl 0 rfl) ?_
  refine lv_bipush (v := 120) hx hb dX1_init_21 (by decide) ?_
  refine wl_newai hx hb lka_int hK hP hD hS hA 120 (Nat.le_of_ble_eq_true rfl) (Nat.le_of_ble_eq_true rfl) (Nat.le_of_ble_eq_true rfl) dX1_init_23 (fun q3 H hP hD hS => ?_)
  refine W.widen (k := 3) (n := 136) (Nat.le_refl _) (Nat.le_refl _) ?_
  have hP : va_P D vwCl ([([(h, .inr (1, [.ref q1, .ref q2, .int 0, .null, .int 0, .int 0]))] : va_W), ([(q1, .inl (cy 0, 8, (.inl (fun _ => 0))))] : va_W), ([(q2, .inl (cy 0, 8, (.inl (fun _ => 0))))] : va_W), ([(q3, .inl (cy 0, 120, (.inl (fun _ => 0))))] : va_W)] : List va_W).flatten H := hP
  have hD : va_D A ([([(h, .inr (1, [.ref q1, .ref q2, .int 0, .null, .int 0, .int 0]))] : va_W), ([(q1, .inl (cy 0, 8, (.inl (fun _ => 0))))] : va_W), ([(q2, .inl (cy 0, 8, (.inl (fun _ => 0))))] : va_W), ([(q3, .inl (cy 0, 120, (.inl (fun _ => 0))))] : va_W)] : List va_W).flatten := hD
  refine wl_putF (C := RX1) (T := TX1) (N := 6) (ci := 1) (v := .ref q3) hx hb hts in_X1 tyX1 tyX1_ok nmX1 hown hK hP hD hS 0 0 rfl rfl rfl 3 (by decide) lkf18 rfl rfl hnm rfl rfl rfl (Nat.le_of_ble_eq_true rfl) dX1_init_25 (fun H locs hP hD hS => ?_)
  have hP : va_P D vwCl ([([(h, .inr (1, [.ref q1, .ref q2, .int 0, .ref q3, .int 0, .int 0]))] : va_W), ([(q1, .inl (cy 0, 8, (.inl (fun _ => 0))))] : va_W), ([(q2, .inl (cy 0, 8, (.inl (fun _ => 0))))] : va_W), ([(q3, .inl (cy 0, 120, (.inl (fun _ => 0))))] : va_W)] : List va_W).flatten H := hP
  have hD : va_D A ([([(h, .inr (1, [.ref q1, .ref q2, .int 0, .ref q3, .int 0, .int 0]))] : va_W), ([(q1, .inl (cy 0, 8, (.inl (fun _ => 0))))] : va_W), ([(q2, .inl (cy 0, 8, (.inl (fun _ => 0))))] : va_W), ([(q3, .inl (cy 0, 120, (.inl (fun _ => 0))))] : va_W)] : List va_W).flatten := hD
  have hP : va_P D vwCl ([joW cy (q_a4 h q1 q2 q3) q_z0] : List va_W).flatten H := hP
  have hD : va_D A ([joW cy (q_a4 h q1 q2 q3) q_z0] : List va_W).flatten := hD
  exact wl_Rv (bs := [joW cy (q_a4 h q1 q2 q3) q_z0]) hx hb hr hlocks hAe hP hD hS (by exact ⟨q_a4 h q1 q2 q3, rfl, rfl⟩) dX1_init_28
set_option maxHeartbeats 4000000 in
set_option maxRecDepth 100000 in
theorem m_X3_init (l : Launch) (D : va_G) (cy : Nat → ClassId) (h : Nat) (sz : Nat)  : Met l yX3_init wsX3_init ({ frames := 1, cells := 1, slots := 60, locals := 12 } : Room) (wl_ic D cy (fun _ => True) [([(h, .inr (3, [.null, .int 0]))] : va_W)] sz [.ref h]) (va_Qv (fun (bs : List va_W) => ∃ a : Nat → Nat, a 0 = h ∧ bs = [txW cy a q_z0]) (wl_ib D [([(h, .inr (3, [.null, .int 0]))] : va_W)] sz) (va_A ([([(h, .inr (3, [.null, .int 0]))] : va_W)] : List va_W).flatten sz)) 1 60 (va_A ([([(h, .inr (3, [.null, .int 0]))] : va_W)] : List va_W).flatten sz) := by
  refine wl_ofI (cc := cX3_init) (maxL := 1) (ret := none) (by decide) rfl (Nat.le_of_ble_eq_true rfl) ?_
  intro p e s m below meth c ls A hx hb hr hts hown hlocks hml hnm hsz hAe hP hK hD hX hA hS hl
  have hl : lv_has ls 1 [(0, .ref h)] := hl
  have lka_char := hts (.arrayClass .char) (by decide +kernel)
  have lkf9 := hts (.fieldLink RX3 9 "WireLamps$Text" "signs" "[C") (by decide +kernel)
  have in_X3 : ∀ w ∈ u_ws RX3 TX3 2, w ∈ wsX3_init := by decide +kernel
  refine lv_aload_n hx hb dX3_init_0 rfl (lv_at hl 0 rfl) ?_
  refine W.objInit hx hb hown (hts (.methodLink RX3 3 objectInit) (by decide +kernel)) (hts (.instanceMethod objectInit) (by decide +kernel)) (hts (.code objectInit ⟨#[0xb1]⟩ 1 none) (by decide +kernel)) rfl (by rw [hml]; exact hl.1) rfl dX3_init_1 (Nat.le_of_ble_eq_true rfl) (Nat.le_of_ble_eq_true rfl) ?_
  refine W.eq (g2 := F0 m 4 ls []) rfl ?_
  refine lv_aload_n hx hb dX3_init_4 rfl (lv_at hl 0 rfl) ?_
  refine lv_bipush (v := 60) hx hb dX3_init_5 (by decide) ?_
  refine wl_newac hx hb lka_char hK hP hD hS hA 60 (Nat.le_of_ble_eq_true rfl) (Nat.le_of_ble_eq_true rfl) (Nat.le_of_ble_eq_true rfl) dX3_init_7 (fun q1 H hP hD hS => ?_)
  refine W.widen (k := 1) (n := 60) (Nat.le_refl _) (Nat.le_refl _) ?_
  have hP : va_P D vwCl ([([(h, .inr (3, [.null, .int 0]))] : va_W), ([(q1, .inl (cy 1, 60, (.inl (fun _ => 0))))] : va_W)] : List va_W).flatten H := hP
  have hD : va_D A ([([(h, .inr (3, [.null, .int 0]))] : va_W), ([(q1, .inl (cy 1, 60, (.inl (fun _ => 0))))] : va_W)] : List va_W).flatten := hD
  refine wl_putF (C := RX3) (T := TX3) (N := 2) (ci := 3) (v := .ref q1) hx hb hts in_X3 tyX3 tyX3_ok nmX3 hown hK hP hD hS 0 0 rfl rfl rfl 0 (by decide) lkf9 rfl rfl hnm rfl rfl rfl (Nat.le_of_ble_eq_true rfl) dX3_init_9 (fun H locs hP hD hS => ?_)
  have hP : va_P D vwCl ([([(h, .inr (3, [.ref q1, .int 0]))] : va_W), ([(q1, .inl (cy 1, 60, (.inl (fun _ => 0))))] : va_W)] : List va_W).flatten H := hP
  have hD : va_D A ([([(h, .inr (3, [.ref q1, .int 0]))] : va_W), ([(q1, .inl (cy 1, 60, (.inl (fun _ => 0))))] : va_W)] : List va_W).flatten := hD
  have hP : va_P D vwCl ([txW cy (q_a2 h q1) q_z0] : List va_W).flatten H := hP
  have hD : va_D A ([txW cy (q_a2 h q1) q_z0] : List va_W).flatten := hD
  exact wl_Rv (bs := [txW cy (q_a2 h q1) q_z0]) hx hb hr hlocks hAe hP hD hS (by exact ⟨q_a2 h q1, rfl, rfl⟩) dX3_init_12
