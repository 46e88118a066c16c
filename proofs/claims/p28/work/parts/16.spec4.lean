/-! THE HISTORY -/
theorem wl_conv {l : Launch} {y : MethodName} {ws : List Cond} {rm : Room} {Pc Pc2 : Array Value → State → Prop} {Qc Qc2 : Array Value → State → Outcome → State → Prop} {mc ms : Nat} {free : Addr → Prop} (h : Met l y ws rm Pc Qc mc ms free) (hp : ∀ a s, Pc2 a s → Pc a s) (hq : ∀ a s o t, Pc2 a s → Qc a s o t → Qc2 a s o t) : Met l y ws rm Pc2 Qc2 mc ms free := by
  intro p e ha hc hk s m args below hf happ hP hK
  obtain ⟨n, o, h1, h2, h3, h4, h5⟩ := h p e ha hc hk s m args below hf happ (hp _ _ hP) hK
  exact ⟨n, o, h1, h2, h3, hq _ _ _ _ hP h4, h5⟩
abbrev HsL : Type := List ((Nat → Nat) × (Nat → Nat → Int32))
def plW (cy : Nat → ClassId) (L : HsL) : va_W := (L.map (fun x => stW cy x.1 x.2)).flatten
def q_rf (L : HsL) : Nat → Option Nat := fun k => (L[k]?).map (fun x => x.1 0)
theorem plW_cons (cy : Nat → ClassId) (x : (Nat → Nat) × (Nat → Nat → Int32)) (L : HsL) : plW cy (x :: L) = stW cy x.1 x.2 ++ plW cy L := rfl
theorem plW_app (cy : Nat → ClassId) (L1 L2 : HsL) : plW cy (L1 ++ L2) = plW cy L1 ++ plW cy L2 := by
  simp [plW]
/-- what the machine's words alone say: constructors of nest mates, arrays of States, texts -/
def wl_strs : List (Nat × String) := [(47, "there is no such lamp"), (54, "the mode is out of range"), (65, "the loss is out of range"), (73, "there is no such setting"), (81, "the value is out of range"), (86, "the length is out of range"), (106, "the word is out of range"), (117, "the code is not 33 to 126"), (124, "the buffer is full"), (140, "the buffer does not tell a frame"), (153, "the slot is out of range"), (158, "there is no snapshot in the slot"), (164, "there is no saved state"), (191, "what is not 0 to 7"), (193, "the place is below 0"), (216, "what is not 0 to 10"), (218, "what is not 0 or 1")]
def wl_E (U : State) : Prop := va_Nw (.methodLinkNest RX0 24 yX2_init "WireLamps") U ∧ va_Nw (.methodLinkNest RX4 9 yX2_init "WireLamps") U ∧ va_Nw (.methodLinkNest RX4 18 yX1_init "WireLamps") U ∧ va_Nw (.methodLinkNest RX4 25 yX3_init "WireLamps") U ∧ va_Nw (.methodLinkNest RX4 32 yX0_init "WireLamps") U ∧ va_AO "WireLamps$State" U ∧ ∀ q ∈ wl_strs, ∃ a, vk_R RX4 q.1 q.2 a U
theorem wl_E_w {s U : State} (hW : s.WarmedH U.vm) (h : wl_E s) : wl_E U :=
  ⟨va_Nw.warmM hW h.1, va_Nw.warmM hW h.2.1, va_Nw.warmM hW h.2.2.1, va_Nw.warmM hW h.2.2.2.1, va_Nw.warmM hW h.2.2.2.2.1, va_AO.moved hW.alike h.2.2.2.2.2.1, fun q hq => (h.2.2.2.2.2.2 q hq).imp fun _ ha => vk_R.warm hW ha⟩
theorem wl_E_b : FrameBlind (fun _ U => wl_E U) := fun a U g mk h =>
  ⟨va_Nw.same rfl (rfl : U.vm = (U.calling g mk a).vm) h.1, va_Nw.same rfl (rfl : U.vm = (U.calling g mk a).vm) h.2.1, va_Nw.same rfl (rfl : U.vm = (U.calling g mk a).vm) h.2.2.1, va_Nw.same rfl (rfl : U.vm = (U.calling g mk a).vm) h.2.2.2.1, va_Nw.same rfl (rfl : U.vm = (U.calling g mk a).vm) h.2.2.2.2.1, va_AO.moved (u := U) (U := U.calling g mk a) (Vm.Alike.refl U.vm) h.2.2.2.2.2.1, fun q hq => (h.2.2.2.2.2.2 q hq).imp fun _ ha => vk_R.same (u := U) (U := U.calling g mk a) rfl ha⟩
theorem q_rot6 (x0 x1 x2 x3 x4 x5 : (Nat → Nat) × (Nat → Nat → Int32)) : va_up (va_up (va_up (va_up (va_up (va_up (q_rf [x0, x1, x2, x3, x4, x5]) 0 (some (x1.1 0))) 1 (some (x2.1 0))) 2 (some (x3.1 0))) 3 (some (x4.1 0))) 4 (some (x5.1 0))) 5 (some (x0.1 0)) = q_rf [x1, x2, x3, x4, x5, x0] := by
  funext k
  match k with
  | 0 => rfl
  | 1 => rfl
  | 2 => rfl
  | 3 => rfl
  | 4 => rfl
  | 5 => rfl
  | k + 6 => simp [va_up, q_rf]
section WA
variable {p : Program} {l : Launch} {e : Env} {R : Room} {s : State} {m : MethodId} {args : Array Value} {below : List Frame} {meth : Method} {c : Code} {H : Heap} {locs : List Loc} {cells slots : Nat} {Q : State → Prop}
variable {cc : ByteArray} {pc : Nat} {ls : Array Slot} {rest : List Value} {D : va_G} {cy : Nat → ClassId} {A : Nat → Prop} {a : Nat} {bs : List va_W} {H0 : Heap}
theorem wl_aast (hx : p.tables.exec = Jvm.exec) (hb : c.code = cc) (hK : va_K D vwCl (tyE cy) s) (hP : va_P D vwCl bs.flatten H) (hD : va_D A bs.flatten) (hS : va_S A H0 H locs) (j i jk ik : Nat) {b bk : va_W} (hj : bs[j]? = some b) {n v : Nat} {vs : List Value} {f : Nat → Option Nat} (hi : b[i]? = some (a, .inl (cy 3, n, .inr (.inr (.inr (.inr f)))))) (hjk : bs[jk]? = some bk) (hik : bk[ik]? = some (v, .inr (2, vs))) (k : Nat) (hk : k < n) (hn : n < 2 ^ 31) (hdg : decode cc pc = .ok (.aastore, 1))
    (kk : ∀ (H1 : Heap) (locs1 : List Loc), va_P D vwCl (bs.set j (b.set i (a, .inl (cy 3, n, .inr (.inr (.inr (.inr (va_up f k (some v))))))))).flatten H1 → va_D A (bs.set j (b.set i (a, .inl (cy 3, n, .inr (.inr (.inr (.inr (va_up f k (some v))))))))).flatten → va_S A H0 H1 locs1 → W p l e R s m args below meth c H1 locs1 cells slots Q (F0 m (pc + 1) ls rest)) : W p l e R s m args below meth c H locs cells slots Q (F0 m pc ls (.ref v :: .int (nI k) :: .ref a :: rest)) :=
  va_astq (r := (RX2, TX2, 13)) hx hb hK hP hD hS (wl_off bs j + i) 3 (wl_off bs jk + ik) 2 (wl_get hj hi) rfl (wl_get hjk hik) rfl (vp_in_nI hk hn) hdg (fun H1 locs1 h1 h2 h3 => by
    rw [nI_clamp (Nat.lt_trans hk hn), wl_set hj hi] at h1 h2
    exact kk H1 locs1 h1 h2 h3)
end WA
