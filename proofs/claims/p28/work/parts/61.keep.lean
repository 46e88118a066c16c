/-! the law: keep(0), whether there is a snapshot or not -/
theorem wl_rmx {l : Launch} {y : MethodName} {ws : List Cond} {rm rm2 : Room} {Pc : Array Value → State → Prop} {Qc : Array Value → State → Outcome → State → Prop} {mc ms : Nat} {free : Addr → Prop} (h : Met l y ws rm Pc Qc mc ms free) (e : rm = rm2) : Met l y ws rm2 Pc Qc mc ms free := e ▸ h
set_option maxHeartbeats 4000000 in
theorem m_c_keep0 (l : Launch) (D : va_G) (cy : Nat → ClassId) (x : Nat) (sa ja ta : Nat → Nat) (h q : Nat) (f : Nat → Option Nat) (v : Nat → Nat → Int32) (o0 : Option ((Nat → Nat) × (Nat → Nat → Int32))) (n9 : Nat) (yb0 : Int32) (sz : Nat) (hf0 : f 0 = o0.map (fun y9 => y9.1 0)) (hn9 : v 7 0 = nI n9) : Met l yL_call wsL_call ({ frames := 3, cells := 8, slots := 176, locals := 67 } : Room) (wl_ic D cy (wl_T9 (va_A ([([(x, .inr (4, [.ref (sa 0), .ref (ja 0), .ref (ta 0), .ref h, .ref q]))] : va_W), ([(q, .inl (cy 3, 2, (.inr (.inr (.inr (.inr f))))))] : va_W), slW cy o0, stW cy sa v] : List va_W).flatten sz)) [([(x, .inr (4, [.ref (sa 0), .ref (ja 0), .ref (ta 0), .ref h, .ref q]))] : va_W), ([(q, .inl (cy 3, 2, (.inr (.inr (.inr (.inr f))))))] : va_W), slW cy o0, stW cy sa v] sz [.ref x, .int (nI 7), .int (nI 0), .int yb0]) (va_Qi (fun (r : Int32) (bs : List va_W) => ∃ (b : Nat → Nat) (f1 : Nat → Option Nat), r = nI n9 ∧ bs = [([(x, .inr (4, [.ref (sa 0), .ref (ja 0), .ref (ta 0), .ref h, .ref q]))] : va_W), ([(q, .inl (cy 3, 2, (.inr (.inr (.inr (.inr f1))))))] : va_W), stW cy b v, stW cy sa v] ∧ f1 0 = some (b 0) ∧ f1 1 = f 1) (wl_ib D [([(x, .inr (4, [.ref (sa 0), .ref (ja 0), .ref (ta 0), .ref h, .ref q]))] : va_W), ([(q, .inl (cy 3, 2, (.inr (.inr (.inr (.inr f))))))] : va_W), slW cy o0, stW cy sa v] sz) (va_A ([([(x, .inr (4, [.ref (sa 0), .ref (ja 0), .ref (ta 0), .ref h, .ref q]))] : va_W), ([(q, .inl (cy 3, 2, (.inr (.inr (.inr (.inr f))))))] : va_W), slW cy o0, stW cy sa v] : List va_W).flatten sz)) 8 176 (va_A ([([(x, .inr (4, [.ref (sa 0), .ref (ja 0), .ref (ta 0), .ref h, .ref q]))] : va_W), ([(q, .inl (cy 3, 2, (.inr (.inr (.inr (.inr f))))))] : va_W), slW cy o0, stW cy sa v] : List va_W).flatten sz) := by
  cases o0 with
  | none =>
    have hf : f 0 = none := hf0
    have e1 : ([([(x, .inr (4, [.ref (sa 0), .ref (ja 0), .ref (ta 0), .ref h, .ref q]))] : va_W), ([(q, .inl (cy 3, 2, (.inr (.inr (.inr (.inr f))))))] : va_W), stW cy sa v] : List va_W).flatten = ([([(x, .inr (4, [.ref (sa 0), .ref (ja 0), .ref (ta 0), .ref h, .ref q]))] : va_W), ([(q, .inl (cy 3, 2, (.inr (.inr (.inr (.inr f))))))] : va_W), slW cy none, stW cy sa v] : List va_W).flatten := by simp [slW]
    refine wl_fr (bsR := []) (wl_rmx (m_c_keepN l D cy x sa ja ta h q f v 0 n9 yb0 sz (by omega) hf hn9) rfl) (by simp [slW]) (fun U hU => by rw [e1]; exact hU) (fun r bs hb => ?_)
    obtain ⟨b, e2, e3⟩ := hb
    subst e3
    exact ⟨_, ⟨b, va_up f 0 (some (b 0)), e2, rfl, by simp [va_up], by simp [va_up]⟩, by simp⟩
  | some y =>
    obtain ⟨b, u⟩ := y
    have hf : f 0 = some (b 0) := hf0
    refine wl_fr (bsR := []) (wl_rmx (m_c_keepE l D cy x sa ja ta h q f v b u 0 n9 yb0 sz (by omega) hf hn9) rfl) (by simp [slW]) (fun U hU => hU) (fun r bs hb => ?_)
    obtain ⟨e2, e3⟩ := hb
    subst e3
    exact ⟨_, ⟨b, f, e2, rfl, hf, rfl⟩, by simp⟩
