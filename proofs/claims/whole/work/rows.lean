section
-- ===== PART A: goes FIRST, ahead of the names: the tables' words, and 'selects' of the private methods out of them =====
/-- a private method of a class that the tables say can be made, by its rows of tables_1 -/
def lw_okq (q : MethodName × Nat) : Prop := (q.1.cls ≠ "java/lang/invoke/MethodHandle" ∧ q.1.cls ≠ "java/lang/invoke/VarHandle") ∧ Cond.instantiable q.1.cls q.2 ∈ tables_1 ∧ Cond.privateMethod q.1 ∈ tables_1 ∧ Cond.instanceMethod q.1 ∈ tables_1
theorem lw_p0 : lw_okq (⟨"WireLamps$History", "dropOldest", "()V"⟩, 2) := ⟨⟨by decide +kernel, by decide +kernel⟩, List.mem_of_getElem? (i := 133) (by decide +kernel), List.mem_of_getElem? (i := 173) (by decide +kernel), List.mem_of_getElem? (i := 174) (by decide +kernel)⟩
theorem lw_p1 : lw_okq (⟨"WireLamps", "letGapBe", "()I"⟩, 5) := ⟨⟨by decide +kernel, by decide +kernel⟩, List.mem_of_getElem? (i := 16) (by decide +kernel), List.mem_of_getElem? (i := 185) (by decide +kernel), List.mem_of_getElem? (i := 186) (by decide +kernel)⟩
theorem lw_p2 : lw_okq (⟨"WireLamps$Journey", "passWire", "(I)V"⟩, 6) := ⟨⟨by decide +kernel, by decide +kernel⟩, List.mem_of_getElem? (i := 89) (by decide +kernel), List.mem_of_getElem? (i := 194) (by decide +kernel), List.mem_of_getElem? (i := 195) (by decide +kernel)⟩
theorem lw_p3 : lw_okq (⟨"WireLamps$Journey", "passTaker", "(LWireLamps$State;I)V"⟩, 6) := ⟨⟨by decide +kernel, by decide +kernel⟩, List.mem_of_getElem? (i := 89) (by decide +kernel), List.mem_of_getElem? (i := 205) (by decide +kernel), List.mem_of_getElem? (i := 206) (by decide +kernel)⟩
theorem lw_p4 : lw_okq (⟨"WireLamps$Journey", "takeWord", "(LWireLamps$State;)I"⟩, 6) := ⟨⟨by decide +kernel, by decide +kernel⟩, List.mem_of_getElem? (i := 89) (by decide +kernel), List.mem_of_getElem? (i := 209) (by decide +kernel), List.mem_of_getElem? (i := 210) (by decide +kernel)⟩
theorem lw_p5 : lw_okq (⟨"WireLamps$Text", "fits", "(I)Z"⟩, 2) := ⟨⟨by decide +kernel, by decide +kernel⟩, List.mem_of_getElem? (i := 117) (by decide +kernel), List.mem_of_getElem? (i := 245) (by decide +kernel), List.mem_of_getElem? (i := 246) (by decide +kernel)⟩
theorem lw_p6 : lw_okq (⟨"WireLamps$Text", "signAt", "(I)C"⟩, 2) := ⟨⟨by decide +kernel, by decide +kernel⟩, List.mem_of_getElem? (i := 117) (by decide +kernel), List.mem_of_getElem? (i := 249) (by decide +kernel), List.mem_of_getElem? (i := 250) (by decide +kernel)⟩
theorem lw_p7 : lw_okq (⟨"java/lang/Throwable", "fillInStackTrace", "(I)Ljava/lang/Throwable;"⟩, 6) := ⟨⟨by decide +kernel, by decide +kernel⟩, List.mem_of_getElem? (i := 333) (by decide +kernel), List.mem_of_getElem? (i := 331) (by decide +kernel), List.mem_of_getElem? (i := 332) (by decide +kernel)⟩
theorem lw_p8 : lw_okq (⟨"WireLamps", "withLamps", "(J)J"⟩, 5) := ⟨⟨by decide +kernel, by decide +kernel⟩, List.mem_of_getElem? (i := 16) (by decide +kernel), List.mem_of_getElem? (i := 363) (by decide +kernel), List.mem_of_getElem? (i := 364) (by decide +kernel)⟩
theorem lw_p9 : lw_okq (⟨"WireLamps", "refuse", "()I"⟩, 5) := ⟨⟨by decide +kernel, by decide +kernel⟩, List.mem_of_getElem? (i := 16) (by decide +kernel), List.mem_of_getElem? (i := 478) (by decide +kernel), List.mem_of_getElem? (i := 479) (by decide +kernel)⟩
theorem lw_p10 : lw_okq (⟨"WireLampsModel", "refused", "(I)Z"⟩, 13) := ⟨⟨by decide +kernel, by decide +kernel⟩, List.mem_of_getElem? (i := 631) (by decide +kernel), List.mem_of_getElem? (i := 692) (by decide +kernel), List.mem_of_getElem? (i := 693) (by decide +kernel)⟩
theorem lw_p11 : lw_okq (⟨"WireLampsModel", "change", "(II)I"⟩, 13) := ⟨⟨by decide +kernel, by decide +kernel⟩, List.mem_of_getElem? (i := 631) (by decide +kernel), List.mem_of_getElem? (i := 696) (by decide +kernel), List.mem_of_getElem? (i := 697) (by decide +kernel)⟩
theorem lw_p12 : lw_okq (⟨"WireLampsModel", "saveState", "()V"⟩, 13) := ⟨⟨by decide +kernel, by decide +kernel⟩, List.mem_of_getElem? (i := 631) (by decide +kernel), List.mem_of_getElem? (i := 700) (by decide +kernel), List.mem_of_getElem? (i := 701) (by decide +kernel)⟩
theorem lw_p13 : lw_okq (⟨"WireLampsModel", "addPulse", "(I)V"⟩, 13) := ⟨⟨by decide +kernel, by decide +kernel⟩, List.mem_of_getElem? (i := 631) (by decide +kernel), List.mem_of_getElem? (i := 722) (by decide +kernel), List.mem_of_getElem? (i := 723) (by decide +kernel)⟩
theorem lw_p14 : lw_okq (⟨"WireLampsModel", "sendNow", "(I)V"⟩, 13) := ⟨⟨by decide +kernel, by decide +kernel⟩, List.mem_of_getElem? (i := 631) (by decide +kernel), List.mem_of_getElem? (i := 730) (by decide +kernel), List.mem_of_getElem? (i := 731) (by decide +kernel)⟩
theorem lw_p15 : lw_okq (⟨"WireLampsModel", "gapNow", "()I"⟩, 13) := ⟨⟨by decide +kernel, by decide +kernel⟩, List.mem_of_getElem? (i := 631) (by decide +kernel), List.mem_of_getElem? (i := 741) (by decide +kernel), List.mem_of_getElem? (i := 742) (by decide +kernel)⟩
def lw_privs_1 : List (MethodName × Nat) := [(⟨"WireLamps$History", "dropOldest", "()V"⟩, 2), (⟨"WireLamps", "letGapBe", "()I"⟩, 5), (⟨"WireLamps$Journey", "passWire", "(I)V"⟩, 6), (⟨"WireLamps$Journey", "passTaker", "(LWireLamps$State;I)V"⟩, 6), (⟨"WireLamps$Journey", "takeWord", "(LWireLamps$State;)I"⟩, 6), (⟨"WireLamps$Text", "fits", "(I)Z"⟩, 2), (⟨"WireLamps$Text", "signAt", "(I)C"⟩, 2), (⟨"java/lang/Throwable", "fillInStackTrace", "(I)Ljava/lang/Throwable;"⟩, 6), (⟨"WireLamps", "withLamps", "(J)J"⟩, 5), (⟨"WireLamps", "refuse", "()I"⟩, 5), (⟨"WireLampsModel", "refused", "(I)Z"⟩, 13), (⟨"WireLampsModel", "change", "(II)I"⟩, 13), (⟨"WireLampsModel", "saveState", "()V"⟩, 13), (⟨"WireLampsModel", "addPulse", "(I)V"⟩, 13), (⟨"WireLampsModel", "sendNow", "(I)V"⟩, 13), (⟨"WireLampsModel", "gapNow", "()I"⟩, 13)]
theorem lw_r1 : ∀ q ∈ lw_privs_1, lw_okq q := List.forall_mem_cons.mpr ⟨lw_p0, List.forall_mem_cons.mpr ⟨lw_p1, List.forall_mem_cons.mpr ⟨lw_p2, List.forall_mem_cons.mpr ⟨lw_p3, List.forall_mem_cons.mpr ⟨lw_p4, List.forall_mem_cons.mpr ⟨lw_p5, List.forall_mem_cons.mpr ⟨lw_p6, List.forall_mem_cons.mpr ⟨lw_p7, List.forall_mem_cons.mpr ⟨lw_p8, List.forall_mem_cons.mpr ⟨lw_p9, List.forall_mem_cons.mpr ⟨lw_p10, List.forall_mem_cons.mpr ⟨lw_p11, List.forall_mem_cons.mpr ⟨lw_p12, List.forall_mem_cons.mpr ⟨lw_p13, List.forall_mem_cons.mpr ⟨lw_p14, List.forall_mem_cons.mpr ⟨lw_p15, fun _ h => absurd h List.not_mem_nil⟩⟩⟩⟩⟩⟩⟩⟩⟩⟩⟩⟩⟩⟩⟩⟩
theorem lw_p16 : lw_okq (⟨"WireLampsModel", "takers", "()I"⟩, 13) := ⟨⟨by decide +kernel, by decide +kernel⟩, List.mem_of_getElem? (i := 631) (by decide +kernel), List.mem_of_getElem? (i := 745) (by decide +kernel), List.mem_of_getElem? (i := 746) (by decide +kernel)⟩
theorem lw_p17 : lw_okq (⟨"WireLampsModel", "takes", "(I)Z"⟩, 13) := ⟨⟨by decide +kernel, by decide +kernel⟩, List.mem_of_getElem? (i := 631) (by decide +kernel), List.mem_of_getElem? (i := 749) (by decide +kernel), List.mem_of_getElem? (i := 750) (by decide +kernel)⟩
theorem lw_p18 : lw_okq (⟨"WireLampsModel", "isTaker", "(I)Z"⟩, 13) := ⟨⟨by decide +kernel, by decide +kernel⟩, List.mem_of_getElem? (i := 631) (by decide +kernel), List.mem_of_getElem? (i := 753) (by decide +kernel), List.mem_of_getElem? (i := 754) (by decide +kernel)⟩
theorem lw_p19 : lw_okq (⟨"WireLampsModel", "comes", "(I)I"⟩, 13) := ⟨⟨by decide +kernel, by decide +kernel⟩, List.mem_of_getElem? (i := 631) (by decide +kernel), List.mem_of_getElem? (i := 757) (by decide +kernel), List.mem_of_getElem? (i := 758) (by decide +kernel)⟩
theorem lw_p20 : lw_okq (⟨"WireLampsModel", "pulses", "()I"⟩, 13) := ⟨⟨by decide +kernel, by decide +kernel⟩, List.mem_of_getElem? (i := 631) (by decide +kernel), List.mem_of_getElem? (i := 761) (by decide +kernel), List.mem_of_getElem? (i := 762) (by decide +kernel)⟩
theorem lw_p21 : lw_okq (⟨"WireLampsModel", "takersAhead", "(I)I"⟩, 13) := ⟨⟨by decide +kernel, by decide +kernel⟩, List.mem_of_getElem? (i := 631) (by decide +kernel), List.mem_of_getElem? (i := 765) (by decide +kernel), List.mem_of_getElem? (i := 766) (by decide +kernel)⟩
theorem lw_p22 : lw_okq (⟨"WireLampsModel", "isCut", "(I)Z"⟩, 13) := ⟨⟨by decide +kernel, by decide +kernel⟩, List.mem_of_getElem? (i := 631) (by decide +kernel), List.mem_of_getElem? (i := 769) (by decide +kernel), List.mem_of_getElem? (i := 770) (by decide +kernel)⟩
theorem lw_p23 : lw_okq (⟨"WireLampsModel", "wordBehind", "(I)I"⟩, 13) := ⟨⟨by decide +kernel, by decide +kernel⟩, List.mem_of_getElem? (i := 631) (by decide +kernel), List.mem_of_getElem? (i := 773) (by decide +kernel), List.mem_of_getElem? (i := 774) (by decide +kernel)⟩
theorem lw_p24 : lw_okq (⟨"WireLampsModel", "arrives", "(II)I"⟩, 13) := ⟨⟨by decide +kernel, by decide +kernel⟩, List.mem_of_getElem? (i := 631) (by decide +kernel), List.mem_of_getElem? (i := 777) (by decide +kernel), List.mem_of_getElem? (i := 778) (by decide +kernel)⟩
theorem lw_p25 : lw_okq (⟨"WireLampsModel", "lengthOf", "(I)I"⟩, 13) := ⟨⟨by decide +kernel, by decide +kernel⟩, List.mem_of_getElem? (i := 631) (by decide +kernel), List.mem_of_getElem? (i := 781) (by decide +kernel), List.mem_of_getElem? (i := 782) (by decide +kernel)⟩
theorem lw_p26 : lw_okq (⟨"WireLampsModel", "emptyFrame", "()V"⟩, 13) := ⟨⟨by decide +kernel, by decide +kernel⟩, List.mem_of_getElem? (i := 631) (by decide +kernel), List.mem_of_getElem? (i := 785) (by decide +kernel), List.mem_of_getElem? (i := 786) (by decide +kernel)⟩
theorem lw_p27 : lw_okq (⟨"WireLampsModel", "readText", "()Z"⟩, 13) := ⟨⟨by decide +kernel, by decide +kernel⟩, List.mem_of_getElem? (i := 631) (by decide +kernel), List.mem_of_getElem? (i := 805) (by decide +kernel), List.mem_of_getElem? (i := 806) (by decide +kernel)⟩
theorem lw_p28 : lw_okq (⟨"WireLampsModel", "readWord", "()Z"⟩, 13) := ⟨⟨by decide +kernel, by decide +kernel⟩, List.mem_of_getElem? (i := 631) (by decide +kernel), List.mem_of_getElem? (i := 809) (by decide +kernel), List.mem_of_getElem? (i := 810) (by decide +kernel)⟩
theorem lw_p29 : lw_okq (⟨"WireLampsModel", "takesSign", "(I)Z"⟩, 13) := ⟨⟨by decide +kernel, by decide +kernel⟩, List.mem_of_getElem? (i := 631) (by decide +kernel), List.mem_of_getElem? (i := 816) (by decide +kernel), List.mem_of_getElem? (i := 817) (by decide +kernel)⟩
theorem lw_p30 : lw_okq (⟨"WireLampsModel", "aboutLamp", "(II)I"⟩, 13) := ⟨⟨by decide +kernel, by decide +kernel⟩, List.mem_of_getElem? (i := 631) (by decide +kernel), List.mem_of_getElem? (i := 840) (by decide +kernel), List.mem_of_getElem? (i := 841) (by decide +kernel)⟩
theorem lw_p31 : lw_okq (⟨"WireLampsModel", "shown", "(II)I"⟩, 13) := ⟨⟨by decide +kernel, by decide +kernel⟩, List.mem_of_getElem? (i := 631) (by decide +kernel), List.mem_of_getElem? (i := 844) (by decide +kernel), List.mem_of_getElem? (i := 845) (by decide +kernel)⟩
def lw_privs_2 : List (MethodName × Nat) := [(⟨"WireLampsModel", "takers", "()I"⟩, 13), (⟨"WireLampsModel", "takes", "(I)Z"⟩, 13), (⟨"WireLampsModel", "isTaker", "(I)Z"⟩, 13), (⟨"WireLampsModel", "comes", "(I)I"⟩, 13), (⟨"WireLampsModel", "pulses", "()I"⟩, 13), (⟨"WireLampsModel", "takersAhead", "(I)I"⟩, 13), (⟨"WireLampsModel", "isCut", "(I)Z"⟩, 13), (⟨"WireLampsModel", "wordBehind", "(I)I"⟩, 13), (⟨"WireLampsModel", "arrives", "(II)I"⟩, 13), (⟨"WireLampsModel", "lengthOf", "(I)I"⟩, 13), (⟨"WireLampsModel", "emptyFrame", "()V"⟩, 13), (⟨"WireLampsModel", "readText", "()Z"⟩, 13), (⟨"WireLampsModel", "readWord", "()Z"⟩, 13), (⟨"WireLampsModel", "takesSign", "(I)Z"⟩, 13), (⟨"WireLampsModel", "aboutLamp", "(II)I"⟩, 13), (⟨"WireLampsModel", "shown", "(II)I"⟩, 13)]
theorem lw_r2 : ∀ q ∈ lw_privs_2, lw_okq q := List.forall_mem_cons.mpr ⟨lw_p16, List.forall_mem_cons.mpr ⟨lw_p17, List.forall_mem_cons.mpr ⟨lw_p18, List.forall_mem_cons.mpr ⟨lw_p19, List.forall_mem_cons.mpr ⟨lw_p20, List.forall_mem_cons.mpr ⟨lw_p21, List.forall_mem_cons.mpr ⟨lw_p22, List.forall_mem_cons.mpr ⟨lw_p23, List.forall_mem_cons.mpr ⟨lw_p24, List.forall_mem_cons.mpr ⟨lw_p25, List.forall_mem_cons.mpr ⟨lw_p26, List.forall_mem_cons.mpr ⟨lw_p27, List.forall_mem_cons.mpr ⟨lw_p28, List.forall_mem_cons.mpr ⟨lw_p29, List.forall_mem_cons.mpr ⟨lw_p30, List.forall_mem_cons.mpr ⟨lw_p31, fun _ h => absurd h List.not_mem_nil⟩⟩⟩⟩⟩⟩⟩⟩⟩⟩⟩⟩⟩⟩⟩⟩
theorem lw_p32 : lw_okq (⟨"WireLampsModel", "wanted", "()I"⟩, 13) := ⟨⟨by decide +kernel, by decide +kernel⟩, List.mem_of_getElem? (i := 631) (by decide +kernel), List.mem_of_getElem? (i := 848) (by decide +kernel), List.mem_of_getElem? (i := 849) (by decide +kernel)⟩
theorem lw_p33 : lw_okq (⟨"WireLampsModel", "number", "(I)I"⟩, 13) := ⟨⟨by decide +kernel, by decide +kernel⟩, List.mem_of_getElem? (i := 631) (by decide +kernel), List.mem_of_getElem? (i := 863) (by decide +kernel), List.mem_of_getElem? (i := 864) (by decide +kernel)⟩
theorem lw_p34 : lw_okq (⟨"WireLampsModel", "allShown", "()I"⟩, 13) := ⟨⟨by decide +kernel, by decide +kernel⟩, List.mem_of_getElem? (i := 631) (by decide +kernel), List.mem_of_getElem? (i := 867) (by decide +kernel), List.mem_of_getElem? (i := 868) (by decide +kernel)⟩
theorem lw_p35 : lw_okq (⟨"WireLampsModel", "shining", "()I"⟩, 13) := ⟨⟨by decide +kernel, by decide +kernel⟩, List.mem_of_getElem? (i := 631) (by decide +kernel), List.mem_of_getElem? (i := 871) (by decide +kernel), List.mem_of_getElem? (i := 872) (by decide +kernel)⟩
theorem lw_p36 : lw_okq (⟨"WireLampsModel", "wrongOnes", "(I)I"⟩, 13) := ⟨⟨by decide +kernel, by decide +kernel⟩, List.mem_of_getElem? (i := 631) (by decide +kernel), List.mem_of_getElem? (i := 887) (by decide +kernel), List.mem_of_getElem? (i := 888) (by decide +kernel)⟩
theorem lw_p37 : lw_okq (⟨"WireLampsModel", "greatestLoss", "(I)I"⟩, 13) := ⟨⟨by decide +kernel, by decide +kernel⟩, List.mem_of_getElem? (i := 631) (by decide +kernel), List.mem_of_getElem? (i := 895) (by decide +kernel), List.mem_of_getElem? (i := 896) (by decide +kernel)⟩
theorem lw_p38 : lw_okq (⟨"WireLampsModel", "fewestWords", "(I)I"⟩, 13) := ⟨⟨by decide +kernel, by decide +kernel⟩, List.mem_of_getElem? (i := 631) (by decide +kernel), List.mem_of_getElem? (i := 907) (by decide +kernel), List.mem_of_getElem? (i := 908) (by decide +kernel)⟩
def lw_privs_3 : List (MethodName × Nat) := [(⟨"WireLampsModel", "wanted", "()I"⟩, 13), (⟨"WireLampsModel", "number", "(I)I"⟩, 13), (⟨"WireLampsModel", "allShown", "()I"⟩, 13), (⟨"WireLampsModel", "shining", "()I"⟩, 13), (⟨"WireLampsModel", "wrongOnes", "(I)I"⟩, 13), (⟨"WireLampsModel", "greatestLoss", "(I)I"⟩, 13), (⟨"WireLampsModel", "fewestWords", "(I)I"⟩, 13)]
theorem lw_r3 : ∀ q ∈ lw_privs_3, lw_okq q := List.forall_mem_cons.mpr ⟨lw_p32, List.forall_mem_cons.mpr ⟨lw_p33, List.forall_mem_cons.mpr ⟨lw_p34, List.forall_mem_cons.mpr ⟨lw_p35, List.forall_mem_cons.mpr ⟨lw_p36, List.forall_mem_cons.mpr ⟨lw_p37, List.forall_mem_cons.mpr ⟨lw_p38, fun _ h => absurd h List.not_mem_nil⟩⟩⟩⟩⟩⟩⟩
def lw_privs : List (MethodName × Nat) := lw_privs_1 ++ (lw_privs_2 ++ (lw_privs_3))
def lw_tbl : List Cond := k2_sels lw_privs ++ tables_1
theorem lw_privs_ok : ∀ q ∈ lw_privs, lw_okq q := by
  show ∀ q ∈ lw_privs_1 ++ (lw_privs_2 ++ (lw_privs_3)), lw_okq q
  exact List.forall_mem_append.mpr ⟨lw_r1, List.forall_mem_append.mpr ⟨lw_r2, lw_r3⟩⟩
/-- the streams that the claim lets the run draw from -/
abbrev lw_cs : List Choice := [Jvm.Choice.named "NaN.bits"]
theorem lw_bits : nanBits ∈ lw_cs := by first | decide | exact List.mem_cons_self | simp [lw_cs, nanBits]
-- ===== end of PART A; then your names; then what follows =====
end
section
/-! ===== BEGIN words of one list among another's, by their places ===== -/
theorem goodIn_r {big : List Cond} (ws : List Cond) (ps : List Nat) (hp : ws = ps.filterMap (fun i => big[i]?)) (h : ws.all goodWord = true) : GoodIn big ws := by
  intro w hw
  have h1 := List.all_eq_true.mp h w hw
  rw [hp] at hw
  obtain ⟨i, -, hi⟩ := List.mem_filterMap.mp hw
  have hm : w ∈ big := by first | exact List.mem_of_getElem? hi | exact List.getElem?_mem hi
  exact ⟨hm, good_of_word h1⟩
theorem goodIn_app {big a b : List Cond} (ha : GoodIn big a) (hb : GoodIn big b) : GoodIn big (a ++ b) := fun w h => (List.mem_append.mp h).elim (ha w) (hb w)
theorem goodIn_ca {big a b : List Cond} {c : Cond} (ha : GoodIn big (c :: a)) (hb : GoodIn big b) : GoodIn big (c :: (a ++ b)) := fun w h => (List.mem_cons.mp h).elim (fun e => ha w (List.mem_cons.mpr (Or.inl e))) (fun h => (List.mem_append.mp h).elim (fun h => ha w (List.mem_cons.mpr (Or.inr h))) (hb w))
theorem goodIn_sub {big ws : List Cond} (hm : ∀ w ∈ ws, w ∈ big) (h : ws.all goodWord = true) : GoodIn big ws := fun w hw => ⟨hm w hw, good_of_word (List.all_eq_true.mp h w hw)⟩
/-! ===== END ===== -/

/-! ===== BEGIN exceptions that leave a method, and their catching by the caller (launches without stack traces) ===== -/
section VXA
/-! The laws vx_back, vx_callV, vx_callS, vx_callSW, vx_throw0, vx_throwS follow proofs of the library, with one case more: JvmDerived/Free/Laws.lean (Back.of_free), Shelf42/LK1.lean (callV, callS), Shelf/KitTraced.lean (throwNew0V, throwNewS). -/
/-- where a method has thrown q: the class by its name, the cell, what was written, the world -/
def vx_T (XC : String → State → State → Prop) (st : State) (q : Addr) (t : State) (mc ms : Nat) (free : Addr → Prop) : Prop :=
  ∃ (E : String) (ce : Cell) (L : List Loc), XC E st t ∧ t.heap[q]? = some ce ∧ ce.vm = .none ∧ st.vm.findClass E = some ce.cls ∧ st.WarmedH t.vm ∧ st.sameButNew ({ t with vm := st.vm } : State) L mc ms ∧ ∀ z ∈ L, free z.base
def vx_Q (Qc : Array Value → State → Outcome → State → Prop) (XC : String → State → State → Prop) (mc ms : Nat) (free : Addr → Prop) : Array Value → State → Outcome → State → Prop := fun a st o t =>
  (Qc a st o t ∧ ∃ L, FrameEnd st o t L mc ms ∧ ∀ q ∈ L, free q.base) ∨ ∃ q, o = .threw q ∧ vx_T XC st q t mc ms free
/-- a callee that returns or throws -/
def vx_Met (l : Launch) (y : MethodName) (ws : List Cond) (rm : Room) (Pc : Array Value → State → Prop) (Qc : Array Value → State → Outcome → State → Prop) (XC : String → State → State → Prop) (mc ms : Nat) (free : Addr → Prop) : Prop :=
  MetFree l y (headSpec ws rm) Pc (fun _ _ _ _ _ => True) (vx_Q Qc XC mc ms free)
def vx_Post (XC : String → State → State → Prop) (mc ms : Nat) (free : Addr → Prop) : Pt → Array Value → Addr → Pt → Prop := fun A a q B =>
  ∃ (g : JFrame) (mk : MethodId) (t : State) (L : List Loc) (E : String) (ce : Cell), B.U.heap = t.heap ∧ B.U.vm = t.vm ∧ XC E (A.U.calling g mk a) t ∧ t.heap[q]? = some ce ∧ ce.vm = .none ∧ A.U.vm.findClass E = some ce.cls ∧ B.locs = A.locs ++ L ∧ (∀ z ∈ L, free z.base) ∧ B.cells = A.cells + mc ∧ B.slots = A.slots + ms
def vx_Back (l : Launch) (R : Room) (p : Program) (e : Env) (below : List Frame) (s : State) (sargs : Array Value) (y : MethodName) (len W9 : Nat)
    (Pre : Pt → Array Value → Prop) (Post : Pt → Array Value → Option Value → Pt → Prop) (PostX : Pt → Array Value → Addr → Pt → Prop) : Prop :=
  ∀ (m : MethodId) (meth : Method) (c : Code) (A : Pt) (g : JFrame) (ig : Instr) (mk : MethodId) (a : Array Value),
    Stand p l e R s m sargs below meth c A.U A.locs A.cells A.slots → g.method = m → g.locals.size = c.maxLocals → decode c.code g.pc = .ok (ig, len) →
    2 * g.monitorRoom + (g.stack.map fun v => v.category).sum ≤ W9 → A.U.methodNamed? y = some mk → Pre A a →
    (∃ (v : Option Value) (B : Pt), Stand p l e R s m sargs below meth c B.U B.locs B.cells B.slots ∧ Post A a v B ∧
      Steps p.tables e below (doInvoke e (A.U.setTop g) [] mk a).1 (B.U.setTop { g with pc := g.pc + len, stack := v.toList ++ g.stack })) ∨
    (∃ (q : Addr) (B : Pt), Stand p l e R s m sargs below meth c B.U B.locs B.cells B.slots ∧ PostX A a q B ∧
      Steps p.tables e below (doInvoke e (A.U.setTop g) [] mk a).1 ((B.U.setTop g).pushFrame (.throwing q)))
section Payer
variable {l : Launch} {R : Room} {p : Program} {e : Env} {below : List Frame} {s : State} {sargs : Array Value} {y : MethodName} {len W9 : Nat}
theorem vx_back {ws : List Cond} {rm : Room} {Pc : Array Value → State → Prop} {Qc : Array Value → State → Outcome → State → Prop} {XC : String → State → State → Prop} {mc ms : Nat} {free : Addr → Prop} {bytes : ByteArray} {maxL : Nat} {ret : Option FieldType}
    (hM : vx_Met l y ws rm Pc Qc XC mc ms free) (hblind : FrameBlind Pc) (hrc : rm.cells = mc) (hrs : rm.slots = ms)
    (hframes : rm.frames + 1 ≤ R.frames) (hlocals : W9 + (maxL + 11) + rm.locals ≤ R.locals)
    (hws : ∀ w ∈ ws, ∀ a' U, s.WarmedH U.vm → w.before a' U = true) (hcode : Cond.code y bytes maxL ret ∈ ws) (hinit : ∀ a' U, s.WarmedH U.vm → (Cond.initialized y.cls).before a' U = true) :
    vx_Back l R p e below s sargs y len W9 (PreOf R mc ms Pc) (PostOf Qc mc ms free) (vx_Post XC mc ms free) := by
  intro m meth c A g ig mk a X hg hsize hdg hW hn hp
  have h1 : (headSpec ws rm).pre.before a A.U = true := atoms_intro fun w hw => hws w hw _ _ X.warmed
  have h2 : (Cond.code y bytes maxL ret).before a A.U = true := hws _ hcode _ _ X.warmed
  have h3 : (Cond.initialized y.cls).before a A.U = true := hinit _ _ X.warmed
  have h4 : A.cells + (headSpec ws rm).room.cells ≤ R.cells := by rw [show (headSpec ws rm).room.cells = mc from hrc]; exact hp.1
  have h5 : A.slots + (headSpec ws rm).room.slots ≤ R.slots := by rw [show (headSpec ws rm).room.slots = ms from hrs]; exact hp.2.1
  have hPc : Pc a (A.U.calling g mk a) := hblind _ _ _ _ hp.2.2
  obtain ⟨U, Ls, c0, s0⟩ := A
  dsimp only [Pt.U, Pt.locs, Pt.cells, Pt.slots] at h1 h2 h3 h4 h5 X hn hPc ⊢
  obtain ⟨methY, cY, hmY, hcY, -, hlY, -, -, -, -⟩ := Cond.code_spec hn h2
  obtain ⟨kY, hkY, -⟩ := className_of_methodNamed hn
  have hinitY : kY.init = .initialized := Cond.initialized_spec (findClass_of_methodNamed hn) hkY h3
  have h : At U g.method c below := by rw [hg]; exact X.here
  have hlocals9 : W9 + (maxL + 11) + (headSpec ws rm).room.locals ≤ R.locals := hlocals
  have happ : (headSpec ws rm).appliesLoose y e.platform (U.calling g mk a) = true :=
    Spec.appliesLoose_calling (g := g) h hdg hn hkY hinitY
      (X.room_calling (g := g) (R' := (headSpec ws rm).room) hsize hmY hcY hframes (by rw [hlY]; omega) h4 h5) h1
  obtain ⟨mid, hmid⟩ := h.above
  have hfr : (U.setTop g).frames = (.java g :: mid) ++ below := by rw [State.frames_setTop' g h.top, hmid]; rfl
  obtain ⟨o, s₂, hsteps, -, hend, hq⟩ := Steps.callFree hM p X.admits X.cas X.clock (acts := []) hfr happ hPc trivial
  have hq' : vx_Q Qc XC mc ms free a (U.calling g mk a) o s₂ := hq
  rw [State.frames_setTop' g h.top] at hend
  obtain ⟨g₀, hg0⟩ := Option.isSome_iff_exists.mp h.top
  obtain ⟨r, hr⟩ := State.topJava?_eq_some.mp hg0
  have hr' : (({ U with heap := s₂.heap, slotsUsed := s₂.slotsUsed } : State).setVm s₂.vm).frames = .java g₀ :: r := hr
  rcases hq' with ⟨hqc, L, hfe, hL⟩ | ⟨q, rfl, E, ce, L, hx, hce, hcv, hcl, hW₂, hsm, hL⟩
  · obtain ⟨⟨v, rfl⟩, hW₂, e2, q2, q3, q4, q5, q6⟩ := id hfe
    have e3 : s₂ = ({ (U.calling g mk a).setFrames s₂.frames with heap := s₂.heap, slotsUsed := s₂.slotsUsed } : State).setVm s₂.vm := by
      have : s₂ = ({ s₂ with vm := (U.calling g mk a).vm } : State).setVm s₂.vm := rfl
      rw [e2] at this
      exact this
    obtain ⟨c₂, i₂, len₂, hc₂, hd₂, hf₂⟩ := hend
    have hW' : U.WarmedH s₂.vm := hW₂
    have hcc : c₂ = c := by
      have h1 : s₂.code? g.method = U.code? g.method := by
        rw [State.code?_eq, State.code?_eq, hW'.alike.method?]
      exact Option.some.inj (hc₂.symm.trans (h1.trans h.code))
    subst hcc
    have hlen : len₂ = len := by rw [hdg] at hd₂; cases hd₂; rfl
    subst hlen
    have hs₂ : s₂ = (({ U with heap := s₂.heap, slotsUsed := s₂.slotsUsed } : State).setVm s₂.vm).setTop { g with pc := g.pc + len₂, stack := v.toList ++ g.stack } := by
      refine e3.trans ?_
      rw [hf₂, State.calling_eq h.top, State.setFrames_setFrames, State.setTop_of_frames _ hr', hr]
      rfl
    have hsame : U.sameButNew ({ U with heap := s₂.heap, slotsUsed := s₂.slotsUsed } : State) L mc ms := by
      refine ⟨?_, q2, q3, q4, q5, q6⟩
      obtain ⟨t, ht, -⟩ := State.frames_cons hr
      show ({ U with heap := s₂.heap, slotsUsed := s₂.slotsUsed } : State) = { U.setFrames U.frames with heap := s₂.heap, slotsUsed := s₂.slotsUsed }
      rw [State.setFrames_self ht]
    subst hg
    refine Or.inl ⟨v, ⟨(({ U with heap := s₂.heap, slotsUsed := s₂.slotsUsed } : State).setVm s₂.vm), Ls ++ L, c0 + mc, s0 + ms⟩,
      ⟨X.admits, X.cas, X.clock, X.frames, X.room, X.hears, X.method, X.code, (X.here.setHeapUsed s₂.heap s₂.slotsUsed).setVm hW'.alike, X.tail, State.WarmedH.trans X.warmed hW', X.limits, X.bytes, X.same.trans (hsame.setVm s.vm)⟩,
      ⟨g, mk, s₂, L, rfl, rfl, hqc, rfl, hL, rfl, rfl⟩, ?_⟩
    show Steps p.tables e below _ ((({ U with heap := s₂.heap, slotsUsed := s₂.slotsUsed } : State).setVm s₂.vm).setTop { g with pc := g.pc + len₂, stack := v.toList ++ g.stack })
    rw [← hs₂]
    exact hsteps
  · obtain ⟨e2, q2, q3, q4, q5, q6⟩ := id hsm
    have e3 : s₂ = ({ (U.calling g mk a).setFrames s₂.frames with heap := s₂.heap, slotsUsed := s₂.slotsUsed } : State).setVm s₂.vm := by
      have : s₂ = ({ s₂ with vm := (U.calling g mk a).vm } : State).setVm s₂.vm := rfl
      rw [e2] at this
      exact this
    have hf₂ : s₂.frames = .throwing q :: .java g :: U.frames.tail := hend
    have hW' : U.WarmedH s₂.vm := hW₂
    have hs₂ : s₂ = ((({ U with heap := s₂.heap, slotsUsed := s₂.slotsUsed } : State).setVm s₂.vm).setTop g).pushFrame (.throwing q) := by
      refine e3.trans ?_
      rw [hf₂, State.calling_eq h.top, State.setFrames_setFrames, State.pushFrame, State.frames_setTop _ hr', State.setTop_of_frames _ hr', State.setFrames_setFrames, hr]
      rfl
    have hsame : U.sameButNew ({ U with heap := s₂.heap, slotsUsed := s₂.slotsUsed } : State) L mc ms := by
      refine ⟨?_, q2, q3, q4, q5, q6⟩
      obtain ⟨t, ht, -⟩ := State.frames_cons hr
      show ({ U with heap := s₂.heap, slotsUsed := s₂.slotsUsed } : State) = { U.setFrames U.frames with heap := s₂.heap, slotsUsed := s₂.slotsUsed }
      rw [State.setFrames_self ht]
    subst hg
    refine Or.inr ⟨q, ⟨(({ U with heap := s₂.heap, slotsUsed := s₂.slotsUsed } : State).setVm s₂.vm), Ls ++ L, c0 + mc, s0 + ms⟩,
      ⟨X.admits, X.cas, X.clock, X.frames, X.room, X.hears, X.method, X.code, (X.here.setHeapUsed s₂.heap s₂.slotsUsed).setVm hW'.alike, X.tail, State.WarmedH.trans X.warmed hW', X.limits, X.bytes, X.same.trans (hsame.setVm s.vm)⟩,
      ⟨g, mk, s₂, L, E, ce, rfl, rfl, hx, hce, hcv, hcl, rfl, hL, rfl, rfl⟩, ?_⟩
    show Steps p.tables e below _ (((({ U with heap := s₂.heap, slotsUsed := s₂.slotsUsed } : State).setVm s₂.vm).setTop g).pushFrame (.throwing q))
    rw [← hs₂]
    exact hsteps
end Payer
section Calls
variable {p : Program} {l : Launch} {e : Env} {R : Room} {s : State} {m : MethodId} {args : Array Value} {below : List Frame} {meth : Method} {c : Code} {T : State} {locs : List Loc} {cells slots : Nat}
theorem vx_callV (X : Stand p l e R s m args below meth c T locs cells slots) (hexec : p.tables.exec = Jvm.exec) {own C : String} {index : Nat} {y : MethodName} {bytes : ByteArray} {maxL : Nat} {ret : Option FieldType}
    (hown : s.vm.findClass own = some m.cls) (hlink : (Cond.methodLink own index y).before args s = true) (hinst : (Cond.instanceMethod y).before args s = true) (hsel : (Cond.selects C y y).before args s = true)
    (hcode : (Cond.code y bytes maxL ret).before args s = true) (hy : y.cls ≠ "java/lang/invoke/MethodHandle" ∧ y.cls ≠ "java/lang/invoke/VarHandle")
    {W9 : Nat} {Pre : Pt → Array Value → Prop} {Post : Pt → Array Value → Option Value → Pt → Prop} {PostX : Pt → Array Value → Addr → Pt → Prop} (hK : vx_Back l R p e below s args y 3 W9 Pre Post PostX)
    {b : Addr} {cellB : Cell} (hcell : T.heap[b]? = some cellB) (hobj : cellB.vm.isStatics = false) (hcls : s.vm.findClass C = some cellB.cls)
    {g : JFrame} (hg : g.method = m) (hsize : g.locals.size = c.maxLocals) {argsL rest : List Value} (hlen : ∀ sig, parseMethodDescriptor y.desc = some sig → argsL.length = sig.parameters.length)
    (hstack : g.stack = argsL.reverse ++ .ref b :: rest) (hW : 2 * g.monitorRoom + (rest.map fun v => v.category).sum ≤ W9) (hdg : decode c.code g.pc = .ok (.invokevirtual index, 3))
    (hpre : ∀ vm₁, s.WarmedH vm₁ → Pre ⟨T.setVm vm₁, locs, cells, slots⟩ (Value.ref b :: argsL).toArray) :
    (∃ (v : Option Value) (vm₁ : Vm) (B : Pt), s.WarmedH vm₁ ∧ Stand p l e R s m args below meth c B.U B.locs B.cells B.slots ∧ Post ⟨T.setVm vm₁, locs, cells, slots⟩ (Value.ref b :: argsL).toArray v B ∧
      ∀ target, Steps p.tables e below (B.U.setTop { g with pc := g.pc + 3, stack := v.toList ++ rest }) target → Steps p.tables e below (T.setTop g) target) ∨
    (∃ (q : Addr) (vm₁ : Vm) (B : Pt), s.WarmedH vm₁ ∧ Stand p l e R s m args below meth c B.U B.locs B.cells B.slots ∧ PostX ⟨T.setVm vm₁, locs, cells, slots⟩ (Value.ref b :: argsL).toArray q B ∧
      Steps p.tables e below (T.setTop g) ((B.U.setTop { g with stack := rest }).pushFrame (.throwing q))) := by
  obtain ⟨mk, methM, hnamed, hmethM, hstM, habM⟩ := Cond.instanceMethod_spec hinst
  obtain ⟨methM', cM, hmethM', -, -, -, -, -, -, hsigM⟩ := Cond.code_spec hnamed hcode
  cases hmethM.symm.trans hmethM'
  obtain ⟨c2, r2, m2, q1, q2, q3, q4, kP, hkP, hkPi⟩ := Cond.selects_spec hsel
  cases hcls.symm.trans q1
  cases (State.methodFound?_of_named hnamed hy).symm.trans q2
  cases hnamed.symm.trans q3
  have hselP : selectMethod e.platform s.vm cellB.cls mk = .method mk := by rw [Launch.admits_selectMethod X.admits]; exact q4
  obtain ⟨vm₁, X₁, hstep₁⟩ := X.invokevirtual hexec hown hlink hnamed hmethM hstM hkP hkPi hy (a := b) (cell := cellB) hcell
    (fun z h => by rw [h] at hobj; cases hobj) hselP hmethM habM hkP hkPi (g := g) hg (argsL := argsL) (rest := rest) (hlen _ hsigM) hstack hdg
  rcases hK m meth c ⟨T.setVm vm₁, locs, cells, slots⟩ { g with stack := rest } (.invokevirtual index) mk (Value.ref b :: argsL).toArray X₁ hg hsize hdg hW (X₁.named hnamed) (hpre vm₁ X₁.warmed) with ⟨v, B, X', hpost, hsteps⟩ | ⟨q, B, X', hpost, hsteps⟩
  · exact Or.inl ⟨v, vm₁, B, X₁.warmed, X', hpost, fun target h => hstep₁ _ fun acts => by rw [doInvoke_state]; exact hsteps.trans h⟩
  · exact Or.inr ⟨q, vm₁, B, X₁.warmed, X', hpost, hstep₁ _ fun acts => by rw [doInvoke_state]; exact hsteps⟩
theorem vx_callS (X : Stand p l e R s m args below meth c T locs cells slots) (hexec : p.tables.exec = Jvm.exec) {own : String} {index : Nat} {y : MethodName} {bytes : ByteArray} {maxL : Nat} {ret : Option FieldType}
    (hown : s.vm.findClass own = some m.cls) (hlink : (Cond.methodLink own index y).before args s = true) (hstat : (Cond.static y).before args s = true) (hinit : (Cond.initialized y.cls).before args s = true)
    (hcode : (Cond.code y bytes maxL ret).before args s = true) (hy : y.cls ≠ "java/lang/invoke/MethodHandle" ∧ y.cls ≠ "java/lang/invoke/VarHandle")
    {W9 : Nat} {Pre : Pt → Array Value → Prop} {Post : Pt → Array Value → Option Value → Pt → Prop} {PostX : Pt → Array Value → Addr → Pt → Prop} (hK : vx_Back l R p e below s args y 3 W9 Pre Post PostX)
    {g : JFrame} (hg : g.method = m) (hsize : g.locals.size = c.maxLocals) {argsL rest : List Value} (hlen : ∀ sig, parseMethodDescriptor y.desc = some sig → argsL.length = sig.parameters.length)
    (hstack : g.stack = argsL.reverse ++ rest) (hW : 2 * g.monitorRoom + (rest.map fun v => v.category).sum ≤ W9) (hdg : decode c.code g.pc = .ok (.invokestatic index, 3))
    (hpre : ∀ vm₁, s.WarmedH vm₁ → Pre ⟨T.setVm vm₁, locs, cells, slots⟩ argsL.toArray) :
    (∃ (v : Option Value) (vm₁ : Vm) (B : Pt), s.WarmedH vm₁ ∧ Stand p l e R s m args below meth c B.U B.locs B.cells B.slots ∧ Post ⟨T.setVm vm₁, locs, cells, slots⟩ argsL.toArray v B ∧
      ∀ target, Steps p.tables e below (B.U.setTop { g with pc := g.pc + 3, stack := v.toList ++ rest }) target → Steps p.tables e below (T.setTop g) target) ∨
    (∃ (q : Addr) (vm₁ : Vm) (B : Pt), s.WarmedH vm₁ ∧ Stand p l e R s m args below meth c B.U B.locs B.cells B.slots ∧ PostX ⟨T.setVm vm₁, locs, cells, slots⟩ argsL.toArray q B ∧
      Steps p.tables e below (T.setTop g) ((B.U.setTop { g with stack := rest }).pushFrame (.throwing q))) := by
  obtain ⟨mk, hnamed⟩ := Cond.code_named hcode
  obtain ⟨methM, cM, hmethM, -, -, -, -, -, -, hsigM⟩ := Cond.code_spec hnamed hcode
  have hstatic : methM.isStatic = true := Cond.static_spec hnamed hmethM hstat
  obtain ⟨kP, hkP, -⟩ := className_of_methodNamed hnamed
  have hinitP : kP.init = .initialized := Cond.initialized_spec (findClass_of_methodNamed hnamed) hkP hinit
  obtain ⟨vm₁, X₁, hstep₁⟩ := X.invokestatic hexec hown hlink hnamed hmethM hstatic hkP hinitP hy (g := g) hg (argsL := argsL) (rest := rest) (hlen _ hsigM) hstack hdg
  rcases hK m meth c ⟨T.setVm vm₁, locs, cells, slots⟩ { g with stack := rest } (.invokestatic index) mk argsL.toArray X₁ hg hsize hdg hW (X₁.named hnamed) (hpre vm₁ X₁.warmed) with ⟨v, B, X', hpost, hsteps⟩ | ⟨q, B, X', hpost, hsteps⟩
  · exact Or.inl ⟨v, vm₁, B, X₁.warmed, X', hpost, fun target h => hstep₁ _ fun acts => by rw [doInvoke_state]; exact hsteps.trans h⟩
  · exact Or.inr ⟨q, vm₁, B, X₁.warmed, X', hpost, hstep₁ _ fun acts => by rw [doInvoke_state]; exact hsteps⟩
end Calls
theorem vx_cls {s : State} {T : State} {vm₁ : Vm} {E : String} {k : ClassId} (hW : s.WarmedH vm₁) (h : (T.setVm vm₁).vm.findClass E = some k) : s.vm.findClass E = some k := by
  have h1 : vm₁.findClass E = some k := h
  rw [hW.alike.findClass] at h1
  exact h1
/-- the method's frame g, with q thrown over it -/
def vx_W (p : Program) (l : Launch) (e : Env) (R : Room) (s : State) (m : MethodId) (args : Array Value) (below : List Frame) (meth : Method) (c : Code) (H : Heap) (locs : List Loc) (cells slots : Nat) (Q : State → Prop) (g : JFrame) (q : Addr) : Prop :=
  ∀ T : State, T.heap = H → Stand p l e R s m args below meth c T locs cells slots → ∃ t, Steps p.tables e below ((T.setTop g).pushFrame (.throwing q)) t ∧ Q t
def vx_Run (p : Program) (l : Launch) (e : Env) (R : Room) (s : State) (m : MethodId) (args : Array Value) (below : List Frame) (meth : Method) (c : Code) (H : Heap) (locs : List Loc) (cells slots mc ms : Nat) (g : JFrame) (rest : List Value) (Qa : State → Outcome → State → Prop) (XC : String → State → State → Prop) (free : Addr → Prop) : Prop :=
  ∀ T : State, T.heap = H → Stand p l e R s m args below meth c T locs cells slots →
    (∃ (v : Option Value) (st₀ t T' : State) (L : List Loc), st₀.heap = H ∧ Stand p l e R s m args below meth c T' (locs ++ L) (cells + mc) (slots + ms) ∧ (∀ q ∈ L, free q.base) ∧ T'.heap = t.heap ∧ T'.vm = t.vm ∧ Qa st₀ (.returned v) t ∧
      Goes p e below T g T' { g with pc := g.pc + 3, stack := v.toList ++ rest }) ∨
    (∃ (q : Addr) (st₀ t T' : State) (L : List Loc) (E : String) (ce : Cell), st₀.heap = H ∧ Stand p l e R s m args below meth c T' (locs ++ L) (cells + mc) (slots + ms) ∧ (∀ z ∈ L, free z.base) ∧ T'.heap = t.heap ∧ T'.vm = t.vm ∧ XC E st₀ t ∧ t.heap[q]? = some ce ∧ ce.vm = .none ∧ s.vm.findClass E = some ce.cls ∧
      Steps p.tables e below (T.setTop g) ((T'.setTop { g with stack := rest }).pushFrame (.throwing q)))
def vx_X {S : Type} (px : S → Prop) (B : String → S → State → Prop) (A : Nat → Prop) : String → State → State → Prop := fun E st t => ∃ u : S, px u ∧ B E u t ∧ va_F A st t
section Runs
variable {p : Program} {l : Launch} {e : Env} {R : Room} {s : State} {m : MethodId} {args : Array Value} {below : List Frame} {meth : Method} {c : Code} {H : Heap} {locs : List Loc} {cells slots : Nat}
variable {y : MethodName} {bytes cc : ByteArray} {maxL nL mc ms n index : Nat} {ret : Option FieldType} {ws : List Cond} {rm : Room} {Pc : Array Value → State → Prop} {Qc : Array Value → State → Outcome → State → Prop} {XC : String → State → State → Prop} {free : Addr → Prop} {Ts : List Cond} {own C : String} {b : Addr} {As rest : List Value} {g : JFrame}
theorem vx_callBack (cb : CallB R s args own index y bytes maxL ret ws rm mc ms n) (hM : vx_Met l y ws rm Pc Qc XC mc ms free) (hbl : FrameBlind Pc) : vx_Back l R p e below s args y 3 8 (PreOf R mc ms Pc) (PostOf Qc mc ms free) (vx_Post XC mc ms free) := by
  obtain ⟨hrc, hrs, hfr, hlo, hws, hcw, -, hini, -⟩ := cb
  exact vx_back (bytes := bytes) (maxL := maxL) (ret := ret) hM hbl hrc hrs hfr hlo hws hcw (fun a' U hW => word_at hW (Or.inl (by first | rfl | simp [Cond.onTables, Cond.keeps, Cond.steady])) hini)
theorem vx_runV (S : CallFix p m c cc nL s args Ts own) (hM : vx_Met l y ws rm Pc Qc XC mc ms free) (cw : CallW R s args own C index y bytes maxL ret ws rm mc ms n) (hp : PreV s H C b Pc As)
    (hg : g.method = m) (hn : As.length = n) (hsize : g.locals.size = nL) (hstack : g.stack = As.reverse ++ .ref b :: rest) (hW : 2 * g.monitorRoom + (rest.map fun v => v.category).sum ≤ 8) (hdg : decode cc g.pc = .ok (.invokevirtual index, 3)) (hf : cells + mc ≤ R.cells ∧ slots + ms ≤ R.slots) :
    vx_Run p l e R s m args below meth c H locs cells slots mc ms g rest (Qc (Value.ref b :: As).toArray) XC free := by
  have hK : vx_Back l R p e below s args y 3 8 (PreOf R mc ms Pc) (PostOf Qc mc ms free) (vx_Post XC mc ms free) := vx_callBack cw.1 hM hp.1
  obtain ⟨⟨-, -, -, -, -, -, hcode, -, hy, hlen, hl⟩, hin, hse⟩ := cw
  obtain ⟨hx, hb, hml, ho, -⟩ := S
  obtain ⟨-, ⟨cellB, hcB, hoB, hclB⟩, hPc⟩ := hp
  intro T hT X
  rcases vx_callV X hx (C := C) (bytes := bytes) (maxL := maxL) (ret := ret) ho hl hin hse hcode hy hK (by rw [hT]; exact hcB) hoB hclB hg (hsize.trans hml.symm) (argsL := As) (rest := rest) (fun sig h => hn.trans (hlen sig h)) hstack hW (by rw [hb]; exact hdg)
    (fun vm₁ hW₁ => ⟨hf.1, hf.2, hPc (T.setVm vm₁) hT hW₁⟩) with ⟨v, vm₁, ⟨U', l2, c2, s2⟩, hW₁, X', ⟨g', mk, t, L, e1, e2, hq, h1, hL, h2, h3⟩, st⟩ | ⟨q, vm₁, ⟨U', l2, c2, s2⟩, hW₁, X', ⟨g', mk, t, L, E, ce, e1, e2, hq, hce, hcv, hcl, h1, hL, h2, h3⟩, st⟩
  · dsimp only [Pt.U, Pt.locs, Pt.cells, Pt.slots] at X' e1 e2 h1 h2 h3 st
    subst h1; subst h2; subst h3
    exact Or.inl ⟨v, (T.setVm vm₁).calling g' mk (Value.ref b :: As).toArray, t, U', L, hT, X', hL, e1, e2, hq, st⟩
  · dsimp only [Pt.U, Pt.locs, Pt.cells, Pt.slots] at X' e1 e2 h1 h2 h3 st hcl
    subst h1; subst h2; subst h3
    exact Or.inr ⟨q, (T.setVm vm₁).calling g' mk (Value.ref b :: As).toArray, t, U', L, E, ce, hT, X', hL, e1, e2, hq, hce, hcv, vx_cls hW₁ hcl, st⟩
theorem vx_runS (S : CallFix p m c cc nL s args Ts own) (hM : vx_Met l y ws rm Pc Qc XC mc ms free) (cw : CallB R s args own index y bytes maxL ret ws rm mc ms n ∧ (Cond.static y).before args s = true) (hp : PreS s H Pc As)
    (hg : g.method = m) (hn : As.length = n) (hsize : g.locals.size = nL) (hstack : g.stack = As.reverse ++ rest) (hW : 2 * g.monitorRoom + (rest.map fun v => v.category).sum ≤ 8) (hdg : decode cc g.pc = .ok (.invokestatic index, 3)) (hf : cells + mc ≤ R.cells ∧ slots + ms ≤ R.slots) :
    vx_Run p l e R s m args below meth c H locs cells slots mc ms g rest (Qc As.toArray) XC free := by
  have hK : vx_Back l R p e below s args y 3 8 (PreOf R mc ms Pc) (PostOf Qc mc ms free) (vx_Post XC mc ms free) := vx_callBack cw.1 hM hp.1
  obtain ⟨⟨-, -, -, -, -, -, hcode, hini, hy, hlen, hl⟩, hstt⟩ := cw
  obtain ⟨hx, hb, hml, ho, -⟩ := S
  intro T hT X
  rcases vx_callS X hx (bytes := bytes) (maxL := maxL) (ret := ret) ho hl hstt hini hcode hy hK hg (hsize.trans hml.symm) (argsL := As) (rest := rest) (fun sig h => hn.trans (hlen sig h)) hstack hW (by rw [hb]; exact hdg)
    (fun vm₁ hW₁ => ⟨hf.1, hf.2, hp.2 (T.setVm vm₁) hT hW₁⟩) with ⟨v, vm₁, ⟨U', l2, c2, s2⟩, hW₁, X', ⟨g', mk, t, L, e1, e2, hq, h1, hL, h2, h3⟩, st⟩ | ⟨q, vm₁, ⟨U', l2, c2, s2⟩, hW₁, X', ⟨g', mk, t, L, E, ce, e1, e2, hq, hce, hcv, hcl, h1, hL, h2, h3⟩, st⟩
  · dsimp only [Pt.U, Pt.locs, Pt.cells, Pt.slots] at X' e1 e2 h1 h2 h3 st
    subst h1; subst h2; subst h3
    exact Or.inl ⟨v, (T.setVm vm₁).calling g' mk As.toArray, t, U', L, hT, X', hL, e1, e2, hq, st⟩
  · dsimp only [Pt.U, Pt.locs, Pt.cells, Pt.slots] at X' e1 e2 h1 h2 h3 st hcl
    subst h1; subst h2; subst h3
    exact Or.inr ⟨q, (T.setVm vm₁).calling g' mk As.toArray, t, U', L, E, ce, hT, X', hL, e1, e2, hq, hce, hcv, vx_cls hW₁ hcl, st⟩
end Runs
section Rows
variable {p : Program} {l : Launch} {e : Env} {R : Room} {s : State} {m : MethodId} {args : Array Value} {below : List Frame} {meth : Method} {c : Code} {H : Heap} {locs : List Loc} {cells slots : Nat} {Q : State → Prop}
variable {mc ms : Nat} {free : Addr → Prop} {A0 A1 : Nat → Prop} {H0 : Heap} {a : Array Value} {pc : Nat} {ls : Array Slot} {st0 rest : List Value}
theorem vx_keep {st₀ t T' : State} {L : List Loc} (h0 : st₀.heap = H) (e1 : T'.heap = t.heap) (hS : va_S A0 H0 H locs) (hA : ∀ q, q < H.size → A1 q → A0 q) (hf : ∀ q, free q → A0 q) (hL : ∀ q ∈ L, free q.base) (hF : va_F A1 st₀ t) :
    H.size ≤ T'.heap.size ∧ (∀ q : Nat, q < H.size → ¬ A1 q → T'.heap[q]? = H[q]?) ∧ va_S A0 H0 T'.heap (locs ++ L) := by
  obtain ⟨hz, hk⟩ := hF
  rw [h0] at hz hk
  exact ⟨by rw [e1]; exact hz, fun q h1 h2 => by rw [e1]; exact hk q h1 h2,
    ⟨Nat.le_trans hS.1 (by rw [e1]; exact hz), fun q h1 h2 => by rw [e1, hk q (Nat.lt_of_lt_of_le h1 hS.1) (fun z => h2 (hA q (Nat.lt_of_lt_of_le h1 hS.1) z))]; exact hS.2.1 q h1 h2, fun q hq => by
      rcases List.mem_append.mp hq with h | h
      · exact hS.2.2 q h
      · exact hf _ (hL q h)⟩⟩
theorem vx_calli {S SX : Type} {post : Int32 → S → Prop} {px : SX → Prop} {B : S → State → Prop} {BX : String → SX → State → Prop} {AX : Nat → Prop} (hr : vx_Run p l e R s m args below meth c H locs cells slots mc ms (F0 m pc ls st0) rest (va_Qi post B A1 a) (vx_X px BX AX) free) (hS : va_S A0 H0 H locs) (hA : ∀ q, q < H.size → A1 q → A0 q) (hf : ∀ q, free q → A0 q) (hAX : ∀ q, q < H.size → AX q → A0 q)
    (kx : ∀ (E : String) (ce : Cell) (q9 : Addr) (u : SX) (t : State) (H1 : Heap) (locs1 : List Loc), t.heap = H1 → s.vm.Alike t.vm → px u → BX E u t → H.size ≤ H1.size → (∀ q : Nat, q < H.size → ¬ AX q → H1[q]? = H[q]?) → va_S A0 H0 H1 locs1 → H1[q9]? = some ce → ce.vm = .none → s.vm.findClass E = some ce.cls → vx_W p l e R s m args below meth c H1 locs1 (cells + mc) (slots + ms) Q (F0 m pc ls rest) q9)
    (kk : ∀ (r : Int32) (u : S) (t : State) (H1 : Heap) (locs1 : List Loc), t.heap = H1 → s.vm.Alike t.vm → post r u → B u t → H.size ≤ H1.size → (∀ q : Nat, q < H.size → ¬ A1 q → H1[q]? = H[q]?) → va_S A0 H0 H1 locs1 → W p l e R s m args below meth c H1 locs1 (cells + mc) (slots + ms) Q (F0 m (pc + 3) ls (.int r :: rest))) : W p l e R s m args below meth c H locs cells slots Q (F0 m pc ls st0) := by
  intro T hT X
  rcases hr T hT X with ⟨v, st₀, t, T', L, h0, X', hL, e1, e2, ⟨⟨r, u, hv, hp, hb⟩, hF⟩, st⟩ | ⟨q, st₀, t, T', L, E, ce, h0, X', hL, e1, e2, ⟨u, hp, hb, hF⟩, hce, hcv, hcl, st⟩
  · cases hv
    obtain ⟨k1, k2, k3⟩ := vx_keep h0 e1 hS hA hf hL hF
    obtain ⟨t2, a1, b1⟩ := kk r u t T'.heap (locs ++ L) e1.symm (by rw [← e2]; exact X'.warmed.alike) hp hb k1 k2 k3 T' rfl X'
    exact ⟨t2, st t2 a1, b1⟩
  · obtain ⟨k1, k2, k3⟩ := vx_keep h0 e1 hS hAX hf hL hF
    obtain ⟨t2, a1, b1⟩ := kx E ce q u t T'.heap (locs ++ L) e1.symm (by rw [← e2]; exact X'.warmed.alike) hp hb k1 k2 k3 (by rw [e1]; exact hce) hcv hcl T' rfl X'
    exact ⟨t2, st.trans a1, b1⟩
theorem vx_calll {S SX : Type} {post : Int64 → S → Prop} {px : SX → Prop} {B : S → State → Prop} {BX : String → SX → State → Prop} {AX : Nat → Prop} (hr : vx_Run p l e R s m args below meth c H locs cells slots mc ms (F0 m pc ls st0) rest (va_Ql post B A1 a) (vx_X px BX AX) free) (hS : va_S A0 H0 H locs) (hA : ∀ q, q < H.size → A1 q → A0 q) (hf : ∀ q, free q → A0 q) (hAX : ∀ q, q < H.size → AX q → A0 q)
    (kx : ∀ (E : String) (ce : Cell) (q9 : Addr) (u : SX) (t : State) (H1 : Heap) (locs1 : List Loc), t.heap = H1 → s.vm.Alike t.vm → px u → BX E u t → H.size ≤ H1.size → (∀ q : Nat, q < H.size → ¬ AX q → H1[q]? = H[q]?) → va_S A0 H0 H1 locs1 → H1[q9]? = some ce → ce.vm = .none → s.vm.findClass E = some ce.cls → vx_W p l e R s m args below meth c H1 locs1 (cells + mc) (slots + ms) Q (F0 m pc ls rest) q9)
    (kk : ∀ (r : Int64) (u : S) (t : State) (H1 : Heap) (locs1 : List Loc), t.heap = H1 → s.vm.Alike t.vm → post r u → B u t → H.size ≤ H1.size → (∀ q : Nat, q < H.size → ¬ A1 q → H1[q]? = H[q]?) → va_S A0 H0 H1 locs1 → W p l e R s m args below meth c H1 locs1 (cells + mc) (slots + ms) Q (F0 m (pc + 3) ls (.long r :: rest))) : W p l e R s m args below meth c H locs cells slots Q (F0 m pc ls st0) := by
  intro T hT X
  rcases hr T hT X with ⟨v, st₀, t, T', L, h0, X', hL, e1, e2, ⟨⟨r, u, hv, hp, hb⟩, hF⟩, st⟩ | ⟨q, st₀, t, T', L, E, ce, h0, X', hL, e1, e2, ⟨u, hp, hb, hF⟩, hce, hcv, hcl, st⟩
  · cases hv
    obtain ⟨k1, k2, k3⟩ := vx_keep h0 e1 hS hA hf hL hF
    obtain ⟨t2, a1, b1⟩ := kk r u t T'.heap (locs ++ L) e1.symm (by rw [← e2]; exact X'.warmed.alike) hp hb k1 k2 k3 T' rfl X'
    exact ⟨t2, st t2 a1, b1⟩
  · obtain ⟨k1, k2, k3⟩ := vx_keep h0 e1 hS hAX hf hL hF
    obtain ⟨t2, a1, b1⟩ := kx E ce q u t T'.heap (locs ++ L) e1.symm (by rw [← e2]; exact X'.warmed.alike) hp hb k1 k2 k3 (by rw [e1]; exact hce) hcv hcl T' rfl X'
    exact ⟨t2, st.trans a1, b1⟩
theorem vx_callf {S SX : Type} {post : UInt32 → S → Prop} {px : SX → Prop} {B : S → State → Prop} {BX : String → SX → State → Prop} {AX : Nat → Prop} (hr : vx_Run p l e R s m args below meth c H locs cells slots mc ms (F0 m pc ls st0) rest (va_Qf post B A1 a) (vx_X px BX AX) free) (hS : va_S A0 H0 H locs) (hA : ∀ q, q < H.size → A1 q → A0 q) (hf : ∀ q, free q → A0 q) (hAX : ∀ q, q < H.size → AX q → A0 q)
    (kx : ∀ (E : String) (ce : Cell) (q9 : Addr) (u : SX) (t : State) (H1 : Heap) (locs1 : List Loc), t.heap = H1 → s.vm.Alike t.vm → px u → BX E u t → H.size ≤ H1.size → (∀ q : Nat, q < H.size → ¬ AX q → H1[q]? = H[q]?) → va_S A0 H0 H1 locs1 → H1[q9]? = some ce → ce.vm = .none → s.vm.findClass E = some ce.cls → vx_W p l e R s m args below meth c H1 locs1 (cells + mc) (slots + ms) Q (F0 m pc ls rest) q9)
    (kk : ∀ (r : UInt32) (u : S) (t : State) (H1 : Heap) (locs1 : List Loc), t.heap = H1 → s.vm.Alike t.vm → post r u → B u t → H.size ≤ H1.size → (∀ q : Nat, q < H.size → ¬ A1 q → H1[q]? = H[q]?) → va_S A0 H0 H1 locs1 → W p l e R s m args below meth c H1 locs1 (cells + mc) (slots + ms) Q (F0 m (pc + 3) ls (.float r :: rest))) : W p l e R s m args below meth c H locs cells slots Q (F0 m pc ls st0) := by
  intro T hT X
  rcases hr T hT X with ⟨v, st₀, t, T', L, h0, X', hL, e1, e2, ⟨⟨r, u, hv, hp, hb⟩, hF⟩, st⟩ | ⟨q, st₀, t, T', L, E, ce, h0, X', hL, e1, e2, ⟨u, hp, hb, hF⟩, hce, hcv, hcl, st⟩
  · cases hv
    obtain ⟨k1, k2, k3⟩ := vx_keep h0 e1 hS hA hf hL hF
    obtain ⟨t2, a1, b1⟩ := kk r u t T'.heap (locs ++ L) e1.symm (by rw [← e2]; exact X'.warmed.alike) hp hb k1 k2 k3 T' rfl X'
    exact ⟨t2, st t2 a1, b1⟩
  · obtain ⟨k1, k2, k3⟩ := vx_keep h0 e1 hS hAX hf hL hF
    obtain ⟨t2, a1, b1⟩ := kx E ce q u t T'.heap (locs ++ L) e1.symm (by rw [← e2]; exact X'.warmed.alike) hp hb k1 k2 k3 (by rw [e1]; exact hce) hcv hcl T' rfl X'
    exact ⟨t2, st.trans a1, b1⟩
theorem vx_calld {S SX : Type} {post : UInt64 → S → Prop} {px : SX → Prop} {B : S → State → Prop} {BX : String → SX → State → Prop} {AX : Nat → Prop} (hr : vx_Run p l e R s m args below meth c H locs cells slots mc ms (F0 m pc ls st0) rest (va_Qd post B A1 a) (vx_X px BX AX) free) (hS : va_S A0 H0 H locs) (hA : ∀ q, q < H.size → A1 q → A0 q) (hf : ∀ q, free q → A0 q) (hAX : ∀ q, q < H.size → AX q → A0 q)
    (kx : ∀ (E : String) (ce : Cell) (q9 : Addr) (u : SX) (t : State) (H1 : Heap) (locs1 : List Loc), t.heap = H1 → s.vm.Alike t.vm → px u → BX E u t → H.size ≤ H1.size → (∀ q : Nat, q < H.size → ¬ AX q → H1[q]? = H[q]?) → va_S A0 H0 H1 locs1 → H1[q9]? = some ce → ce.vm = .none → s.vm.findClass E = some ce.cls → vx_W p l e R s m args below meth c H1 locs1 (cells + mc) (slots + ms) Q (F0 m pc ls rest) q9)
    (kk : ∀ (r : UInt64) (u : S) (t : State) (H1 : Heap) (locs1 : List Loc), t.heap = H1 → s.vm.Alike t.vm → post r u → B u t → H.size ≤ H1.size → (∀ q : Nat, q < H.size → ¬ A1 q → H1[q]? = H[q]?) → va_S A0 H0 H1 locs1 → W p l e R s m args below meth c H1 locs1 (cells + mc) (slots + ms) Q (F0 m (pc + 3) ls (.double r :: rest))) : W p l e R s m args below meth c H locs cells slots Q (F0 m pc ls st0) := by
  intro T hT X
  rcases hr T hT X with ⟨v, st₀, t, T', L, h0, X', hL, e1, e2, ⟨⟨r, u, hv, hp, hb⟩, hF⟩, st⟩ | ⟨q, st₀, t, T', L, E, ce, h0, X', hL, e1, e2, ⟨u, hp, hb, hF⟩, hce, hcv, hcl, st⟩
  · cases hv
    obtain ⟨k1, k2, k3⟩ := vx_keep h0 e1 hS hA hf hL hF
    obtain ⟨t2, a1, b1⟩ := kk r u t T'.heap (locs ++ L) e1.symm (by rw [← e2]; exact X'.warmed.alike) hp hb k1 k2 k3 T' rfl X'
    exact ⟨t2, st t2 a1, b1⟩
  · obtain ⟨k1, k2, k3⟩ := vx_keep h0 e1 hS hAX hf hL hF
    obtain ⟨t2, a1, b1⟩ := kx E ce q u t T'.heap (locs ++ L) e1.symm (by rw [← e2]; exact X'.warmed.alike) hp hb k1 k2 k3 (by rw [e1]; exact hce) hcv hcl T' rfl X'
    exact ⟨t2, st.trans a1, b1⟩
theorem vx_callv {S SX : Type} {post : S → Prop} {px : SX → Prop} {B : S → State → Prop} {BX : String → SX → State → Prop} {AX : Nat → Prop} (hr : vx_Run p l e R s m args below meth c H locs cells slots mc ms (F0 m pc ls st0) rest (va_Qv post B A1 a) (vx_X px BX AX) free) (hS : va_S A0 H0 H locs) (hA : ∀ q, q < H.size → A1 q → A0 q) (hf : ∀ q, free q → A0 q) (hAX : ∀ q, q < H.size → AX q → A0 q)
    (kx : ∀ (E : String) (ce : Cell) (q9 : Addr) (u : SX) (t : State) (H1 : Heap) (locs1 : List Loc), t.heap = H1 → s.vm.Alike t.vm → px u → BX E u t → H.size ≤ H1.size → (∀ q : Nat, q < H.size → ¬ AX q → H1[q]? = H[q]?) → va_S A0 H0 H1 locs1 → H1[q9]? = some ce → ce.vm = .none → s.vm.findClass E = some ce.cls → vx_W p l e R s m args below meth c H1 locs1 (cells + mc) (slots + ms) Q (F0 m pc ls rest) q9)
    (kk : ∀ (u : S) (t : State) (H1 : Heap) (locs1 : List Loc), t.heap = H1 → s.vm.Alike t.vm → post u → B u t → H.size ≤ H1.size → (∀ q : Nat, q < H.size → ¬ A1 q → H1[q]? = H[q]?) → va_S A0 H0 H1 locs1 → W p l e R s m args below meth c H1 locs1 (cells + mc) (slots + ms) Q (F0 m (pc + 3) ls (rest))) : W p l e R s m args below meth c H locs cells slots Q (F0 m pc ls st0) := by
  intro T hT X
  rcases hr T hT X with ⟨v, st₀, t, T', L, h0, X', hL, e1, e2, ⟨⟨u, hv, hp, hb⟩, hF⟩, st⟩ | ⟨q, st₀, t, T', L, E, ce, h0, X', hL, e1, e2, ⟨u, hp, hb, hF⟩, hce, hcv, hcl, st⟩
  · cases hv
    obtain ⟨k1, k2, k3⟩ := vx_keep h0 e1 hS hA hf hL hF
    obtain ⟨t2, a1, b1⟩ := kk u t T'.heap (locs ++ L) e1.symm (by rw [← e2]; exact X'.warmed.alike) hp hb k1 k2 k3 T' rfl X'
    exact ⟨t2, st t2 a1, b1⟩
  · obtain ⟨k1, k2, k3⟩ := vx_keep h0 e1 hS hAX hf hL hF
    obtain ⟨t2, a1, b1⟩ := kx E ce q u t T'.heap (locs ++ L) e1.symm (by rw [← e2]; exact X'.warmed.alike) hp hb k1 k2 k3 (by rw [e1]; exact hce) hcv hcl T' rfl X'
    exact ⟨t2, st.trans a1, b1⟩
/-- caught by the row x of this method's table; the rows ahead don't take it -/
theorem vx_catch {own name : String} {E : String} {ce : Cell} {q : Addr} (hown : s.vm.findClass own = some m.cls) (pre : List ExceptionTableEntry) (x : ExceptionTableEntry) (suf : List ExceptionTableEntry) (hsplit : c.exceptionTable.toList = pre ++ x :: suf)
    (hpass : ∀ z ∈ pre, covers z pc = false ∨ (z.catchType ≠ 0 ∧ ∃ nm : String, (Cond.classLink own z.catchType nm).before args s = true ∧ va_Nc E nm s)) (hx : covers x pc = true) (h0 : x.catchType ≠ 0)
    (hlink : (Cond.classLink own x.catchType name).before args s = true) (hcast : (Cond.castable E name).before args s = true) (hcell : H[q]? = some ce) (hv : ce.vm = .none) (hcl : s.vm.findClass E = some ce.cls)
    (kk : W p l e R s m args below meth c H locs cells slots Q (F0 m x.handlerPc ls [.ref q])) : vx_W p l e R s m args below meth c H locs cells slots Q (F0 m pc ls rest) q := by
  intro T hT X
  have hpl : e.platform.magicAccessors = ({} : Platform).magicAccessors := by rw [X.admits.platform]
  obtain ⟨c3, c4, hc3, hc4, hasg⟩ := Cond.castable_spec hcast
  cases Option.some.inj (hc3.symm.trans hcl)
  obtain ⟨c5, hc5, hcl5⟩ := Cond.classLink_spec hown hlink e.platform hpl
  cases Option.some.inj (hc4.symm.trans hc5)
  obtain ⟨vm', X', st⟩ := X.thenCaughtThrough q (g := F0 m pc ls rest) rfl (Steps.refl _) (by rw [hT]; exact hcell) (by rw [hv]; rfl) (by obtain ⟨k9, h9, -⟩ := Vm.findClass_spec hcl; exact ⟨k9, h9⟩) pre x suf hsplit
    (fun z hz => by
      rcases hpass z hz with h | ⟨hz0, nm, hl1, hn1⟩
      · exact Or.inl h
      · obtain ⟨c6, hc6, hcl6⟩ := Cond.classLink_spec hown hl1 e.platform hpl
        obtain ⟨a8, b8, h1, h2, h3⟩ := hn1
        cases Option.some.inj (h1.symm.trans hcl)
        cases Option.some.inj (h2.symm.trans hc6)
        exact Or.inr ⟨hz0, _, hcl6, h3⟩) hx (Or.inr ⟨h0, c4, hcl5, hasg⟩)
  obtain ⟨t, a1, b1⟩ := kk (T.setVm vm') hT X'
  exact ⟨t, st.trans a1, b1⟩
end Rows
section Ends
variable {p : Program} {l : Launch} {e : Env} {R : Room} {s : State} {m : MethodId} {args : Array Value} {below : List Frame} {meth : Method} {c : Code} {H : Heap} {locs : List Loc} {cells slots : Nat} {Q : State → Prop}
variable {mc ms : Nat} {free : Addr → Prop} {A0 A1 : Nat → Prop} {H0 : Heap} {a : Array Value} {ls : Array Slot} {st0 rest : List Value}
variable {Qc : Array Value → State → Outcome → State → Prop} {XC : String → State → State → Prop}
/-- what a body that may throw owes at its end -/
def vx_MQ (below : List Frame) (Qc : Array Value → State → Outcome → State → Prop) (XC : String → State → State → Prop) (a : Array Value) (s : State) (mc ms : Nat) (free : Addr → Prop) : State → Prop := fun t =>
  ∃ o, t.status = .running ∧ Ended t below o ∧ vx_Q Qc XC mc ms free a s o t
theorem vx_ret {g : JFrame} {mc ms : Nat} (k : W p l e R s m args below meth c H locs cells slots (MQ below Qc args s mc ms free) g) : W p l e R s m args below meth c H locs cells slots (vx_MQ below Qc XC args s mc ms free) g := by
  intro T hT X
  obtain ⟨t, a1, o, b1, b2, b3, b4⟩ := k T hT X
  exact ⟨t, a1, o, b1, b2, Or.inl ⟨b3, b4⟩⟩
/-- not caught here: it goes on to the caller -/
theorem vx_widen {g : JFrame} {q : Addr} {k n : Nat} (h1 : cells ≤ k) (h2 : slots ≤ n) (kk : vx_W p l e R s m args below meth c H locs k n Q g q) : vx_W p l e R s m args below meth c H locs cells slots Q g q := fun T hT X => kk T hT (stand_widen X h1 h2)
theorem vx_out {pc : Nat} {E : String} {ce : Cell} {q : Addr} {mc ms : Nat} (hout : ∀ x ∈ c.exceptionTable.toList, covers x pc = false) (hlocks : meth.locks = false) (hcell : H[q]? = some ce) (hv : ce.vm = .none) (hcl : s.vm.findClass E = some ce.cls)
    (hx : ∀ t : State, t.heap = H → s.vm.Alike t.vm → XC E s t) (hf : ∀ z ∈ locs, free z.base) (hc : cells ≤ mc) (hs : slots ≤ ms) :
    vx_W p l e R s m args below meth c H locs cells slots (vx_MQ below Qc XC args s mc ms free) (F0 m pc ls rest) q := by
  intro T hT X
  obtain ⟨st1, hrun, hend, hW, hsm⟩ := X.leaveThrown q (g := F0 m pc ls rest) rfl rfl rfl hout hlocks
  have hcell9 : (T.setFrames (.throwing q :: below)).heap[q]? = some ce := by
    show T.heap[q]? = some ce
    rw [hT]; exact hcell
  exact ⟨_, st1, .threw q, hrun, hend, Or.inr ⟨q, rfl, E, ce, locs, hx _ hT hW.alike, hcell9, hv, hcl, hW, hsm.mono hc hs, hf⟩⟩
theorem vx_frame {U : State} {k n : Nat} (h : s.sameButNew ({ U with vm := s.vm } : State) locs k n) : s.heap.size ≤ U.heap.size ∧ ∀ q : Nat, q < s.heap.size → (∀ z ∈ locs, z.base ≠ q) → U.heap[q]? = s.heap[q]? := by
  obtain ⟨-, h2, -, -, -, h6⟩ := h
  refine ⟨h2, fun q hq hz => ?_⟩
  obtain ⟨c9, e1, e2, e3, e4⟩ := h6 q _ (Array.getElem?_eq_getElem hq)
  have hs : c9.slots = (s.heap[q]).slots := Array.ext_getElem? fun i => e4 i fun hm => hz _ hm rfl
  have h9 : c9 = s.heap[q] := by
    rw [hs] at e2
    exact e2
  have e5 : U.heap[q]? = some c9 := e1
  rw [e5, h9, Array.getElem?_eq_getElem hq]
/-- the words of a throw but the four that speak of the heap -/
def vx_no (w : Cond) : Bool := decide (w ≠ .isRef (.static Bundle.tN "UNASSIGNED_STACK" Bundle.steD)) && decide (w ≠ .isRef (.static Bundle.tN "SUPPRESSED_SENTINEL" Bundle.listD)) && decide (w ≠ .laysStatic Bundle.tN "UNASSIGNED_STACK" Bundle.steD) && decide (w ≠ .laysStatic Bundle.tN "SUPPRESSED_SENTINEL" Bundle.listD)
def vx_at0 (own : String) (ic : Nat) (X : String) (names : List String) : List Cond := (Bundle.ownAtoms0 own ic X names).filter vx_no
def vx_atS (own : String) (ic : Nat) (X : String) (names : List String) : List Cond := (Bundle.ownAtoms own ic X names).filter vx_no
/-- a word that the tables alone decide, or a good one -/
def vx_ot (w : Cond) : Bool := w.onTables || goodWord w
theorem vx_ot_at {args a' : Array Value} {s U : State} {w : Cond} (hW : s.WarmedH U.vm) (hvm : s.vm = U.vm) (hg : vx_ot w = true) (h : w.before args s = true) : w.before a' U = true := by
  simp only [vx_ot, Bool.or_eq_true] at hg
  rcases hg with hg | hg
  · exact va_tabs hg hvm h
  · exact word_at hW (good_of_word hg) h
/-- a list's words: the good ones out of the method's own list, the others by premises of their own -/
theorem vx_hat {args : Array Value} {s : State} {L B : List Cond} (h1 : ∀ w ∈ L.filter goodWord, w.before args s = true) (h2 : ∀ w ∈ L.filter (fun w => !goodWord w), w ∈ B) (h3 : ∀ w ∈ B, w.before args s = true) : ∀ w ∈ L, w.before args s = true := by
  intro w hw
  by_cases g : goodWord w = true
  · exact h1 w (List.mem_filter.mpr ⟨hw, g⟩)
  · refine h3 w (h2 w (List.mem_filter.mpr ⟨hw, ?_⟩))
    show (!goodWord w) = true
    cases hgw : goodWord w
    · rfl
    · exact absurd hgw g
theorem vx_c {args : Array Value} {s : State} {w : Cond} {B : List Cond} (h : w.before args s = true) (t : ∀ w ∈ B, w.before args s = true) : ∀ w' ∈ w :: B, w'.before args s = true := fun w' h' => (List.mem_cons.mp h').elim (fun e => by rw [e]; exact h) (t w')
theorem vx_n {args : Array Value} {s : State} : ∀ w ∈ ([] : List Cond), w.before args s = true := fun _ h => nomatch h
theorem vx_own {args : Array Value} {s : State} {L : List Cond} (h1 : ∀ w ∈ L.filter vx_no, w.before args s = true)
    (hU : (Cond.isRef (.static Bundle.tN "UNASSIGNED_STACK" Bundle.steD)).before args s = true) (hN : (Cond.isRef (.static Bundle.tN "SUPPRESSED_SENTINEL" Bundle.listD)).before args s = true)
    (lU : (Cond.laysStatic Bundle.tN "UNASSIGNED_STACK" Bundle.steD).before args s = true) (lN : (Cond.laysStatic Bundle.tN "SUPPRESSED_SENTINEL" Bundle.listD).before args s = true) : ∀ w ∈ L, w.before args s = true := by
  intro w hw
  by_cases e1 : w = .isRef (.static Bundle.tN "UNASSIGNED_STACK" Bundle.steD)
  · rw [e1]; exact hU
  · by_cases e2 : w = .isRef (.static Bundle.tN "SUPPRESSED_SENTINEL" Bundle.listD)
    · rw [e2]; exact hN
    · by_cases e3 : w = .laysStatic Bundle.tN "UNASSIGNED_STACK" Bundle.steD
      · rw [e3]; exact lU
      · by_cases e4 : w = .laysStatic Bundle.tN "SUPPRESSED_SENTINEL" Bundle.listD
        · rw [e4]; exact lN
        · exact h1 w (List.mem_filter.mpr ⟨hw, by unfold vx_no; rw [decide_eq_true e1, decide_eq_true e2, decide_eq_true e3, decide_eq_true e4]; rfl⟩)
/-- where a static field lies, its class's statics cell in H -/
def vx_L (C n d : String) (A : Nat → Prop) (U : State) (H : Heap) : Prop := ∃ (c : ClassId) (k : Class) (i : Nat) (f : Field) (a : Nat) (cell : Cell), U.vm.findClass C = some c ∧ U.fieldFound? C n d = some (c, k, i, f) ∧ f.isStatic = true ∧ k.statics = some a ∧ H[a]? = some cell ∧ cell.vm.isStatics = true ∧ cell.cls = c ∧ f.slot < cell.slots.size ∧ k.staticTypes[f.slot]? = some f.type ∧ ¬ A a
theorem vx_L.moved {C n d : String} {A : Nat → Prop} {u U : State} {H : Heap} (hvm : u.vm.Alike U.vm) (h : vx_L C n d A u H) : vx_L C n d A U H := by
  obtain ⟨c, k, i, f, a, cell, h1, h2, h3, h4, h5, h6, h7, h8, h9, h10⟩ := h
  obtain ⟨k', hi', he⟩ := State.fieldFound?_setVm hvm h2
  exact ⟨c, k', i, f, a, cell, by rw [hvm.findClass]; exact h1, hi', h3, by rw [he]; exact h4, h5, h6, h7, h8, by rw [he]; exact h9, h10⟩
theorem vx_L.kept {C n d : String} {A : Nat → Prop} {U : State} {H H1 : Heap} (h : vx_L C n d A U H) (hq : ∀ a : Nat, a < H.size → ¬ A a → H1[a]? = H[a]?) : vx_L C n d A U H1 := by
  obtain ⟨c, k, i, f, a, cell, h1, h2, h3, h4, h5, h6, h7, h8, h9, h10⟩ := h
  exact ⟨c, k, i, f, a, cell, h1, h2, h3, h4, by rw [hq a (Array.getElem?_eq_some_iff.mp h5).1 h10]; exact h5, h6, h7, h8, h9, h10⟩
theorem vx_L.narrow {C n d : String} {A B : Nat → Prop} {U : State} {H : Heap} (h : vx_L C n d A U H) (hAB : ∀ q, B q → A q) : vx_L C n d B U H := by
  obtain ⟨c, k, i, f, a, cell, h1, h2, h3, h4, h5, h6, h7, h8, h9, h10⟩ := h
  exact ⟨c, k, i, f, a, cell, h1, h2, h3, h4, h5, h6, h7, h8, h9, fun z => h10 (hAB _ z)⟩
theorem vx_L.word {C n d : String} {A : Nat → Prop} {s : State} {args : Array Value} (h : vx_L C n d A s s.heap) : (Cond.laysStatic C n d).before args s = true := by
  obtain ⟨c, k, i, f, a, cell, h1, h2, h3, h4, h5, h6, h7, h8, h9, -⟩ := h
  show (Cond.laysStatic C n d).holds args s none s [] = true
  exact Cond.laysStatic_of h1 h2 h3 h4 h5 h6 h7 h8 h9
/-- .. and what it holds: null or some reference -/
def vx_Zq (C n d : String) (A : Nat → Prop) (U : State) (H : Heap) : Prop := va_Zq C n d A U H ∧ vx_L C n d A U H
theorem vx_Zq.moved {C n d : String} {A : Nat → Prop} {u U : State} {H : Heap} (hvm : u.vm.Alike U.vm) (h : vx_Zq C n d A u H) : vx_Zq C n d A U H := ⟨va_Zq.moved hvm h.1, vx_L.moved hvm h.2⟩
theorem vx_Zq.kept {C n d : String} {A : Nat → Prop} {U : State} {H H1 : Heap} (h : vx_Zq C n d A U H) (hq : ∀ a : Nat, a < H.size → ¬ A a → H1[a]? = H[a]?) : vx_Zq C n d A U H1 := ⟨va_Zq.kept h.1 hq, vx_L.kept h.2 hq⟩
theorem vx_Zq.narrow {C n d : String} {A B : Nat → Prop} {U : State} {H : Heap} (h : vx_Zq C n d A U H) (hAB : ∀ q, B q → A q) : vx_Zq C n d B U H := ⟨va_Zq.narrow h.1 hAB, vx_L.narrow h.2 hAB⟩
theorem vx_Zqof {args : Array Value} {s : State} {C n d : String} {A : Nat → Prop} (hl : (Cond.laysStatic C n d).before args s = true) (hini : (Cond.initialized C).before args s = true) (h : (Cond.isRef (.static C n d)).before args s = true) (hA : ∀ a : Nat, a < s.heap.size → ¬ A a) : vx_Zq C n d A s s.heap := by
  refine ⟨va_Zqof hl hini h hA, ?_⟩
  obtain ⟨c, k, i, f, a, cell, h1, h2, h3, h4, h5, h6, h7, h8, h9⟩ := Cond.laysStatic_spec hl
  exact ⟨c, k, i, f, a, cell, h1, h2, h3, h4, h5, h6, h7, h8, h9, hA a (Array.getElem?_eq_some_iff.mp h5).1⟩
theorem vx_isRef {C n d : String} {v : Value} {A : Nat → Prop} {s : State} {args : Array Value} (h : va_Z C n d v A s s.heap) (hv : v.isRef = true) : (Cond.isRef (.static C n d)).before args s = true := by
  obtain ⟨cf, kf, fi, f, a, cell, h1, h2, h3, h4, h5, h6, h7, -⟩ := h
  have he : (Term.static C n d).eval args s none [] s = some v := by
    simp [Term.eval, State.fieldNamed?, h1, h2, h4, h5, h6, h7]
  simp only [Cond.before, Cond.holds, Cond.value, he]
  cases v <;> simp_all [Value.isRef]
theorem vx_isRefq {C n d : String} {A : Nat → Prop} {s : State} {args : Array Value} (h : va_Zq C n d A s s.heap) : (Cond.isRef (.static C n d)).before args s = true := by
  rcases h with h | ⟨t, h⟩
  · exact vx_isRef h rfl
  · exact vx_isRef h rfl
/-- the same frame, seen from here: as if the method were called anew in this heap -/
theorem vx_rebase {T : State} (X : Stand p l e R s m args below meth c T locs cells slots) {R' : Room} (hf : R'.frames ≤ R.frames) (hl : R'.locals ≤ R.locals) (hc : cells + R'.cells ≤ R.cells) (hs : slots + R'.slots ≤ R.slots) :
    Stand p l e R' ((T.setVm s.vm).setFrames (.invoking m args :: below)) m args below meth c T [] 0 0 := by
  have htop : (T.setVm s.vm).topJava?.isSome := X.here.top
  have hF : ((T.setVm s.vm).setFrames (.invoking m args :: below)).frames = .invoking m args :: below := State.frames_setFrames _ (State.cur_lt_of_top htop)
  obtain ⟨g₀, hg0⟩ := Option.isSome_iff_exists.mp htop
  obtain ⟨r, hr⟩ := State.topJava?_eq_some.mp hg0
  have hl9 : e.platform.stackLimits (T.setVm s.vm).me = e.platform.stackLimits s.me := X.limits
  have hb9 : (T.setVm s.vm).me.stackBytes = s.me.stackBytes := X.bytes
  refine ⟨X.admits, X.cas, X.clock, hF, ?_, X.hears, X.method, X.code, X.here, X.tail, X.warmed, ?_, ?_, ?_⟩
  · have h := X.room
    have hU : ((T.setVm s.vm).setFrames (.invoking m args :: below)).localsInUse = s.localsInUse := by
      rw [State.localsInUse_invoking hF (meth := meth) (c := c) X.method X.code, State.localsInUse_invoking X.frames X.method X.code]
    simp only [State.hasRoom, Bool.and_eq_true, decide_eq_true_eq] at h ⊢
    obtain ⟨⟨⟨⟨h1, h2, h3, h4, h5, h6⟩, h7⟩, h8⟩, h9⟩ := h
    rw [X.frames, List.length_cons] at h2 h3
    have q1 := X.heapSize
    have q2 := X.used
    simp only [hF, hU, List.length_cons, State.stackLimits_setFrames, State.stackBytes_setFrames, hl9, hb9]
    refine ⟨⟨⟨⟨by omega, by omega, by omega, by omega, by omega, h6⟩, ?_⟩, ?_⟩, X.book⟩
    · show T.heap.size + R'.cells ≤ e.platform.maxCells
      omega
    · show T.slotsUsed + R'.slots ≤ e.platform.maxSlots
      omega
  · rw [State.stackLimits_setFrames]; rfl
  · rw [State.stackBytes_setFrames]; rfl
  · refine ⟨?_, Nat.le_refl _, Nat.le_refl _, ?_, ?_, fun a c9 h9 => ⟨c9, h9, rfl, rfl, fun _ _ => rfl⟩⟩
    · obtain ⟨t, ht, -⟩ := State.frames_cons hr
      show T.setVm s.vm = { ((T.setVm s.vm).setFrames (.invoking m args :: below)).setFrames (T.setVm s.vm).frames with heap := T.heap, slotsUsed := T.slotsUsed }
      rw [State.setFrames_setFrames, State.setFrames_self ht]
      rfl
    · show T.slotsUsed = T.slotsUsed + ((T.heap.toList.drop T.heap.size).map (·.slots.size)).sum
      rw [List.drop_eq_nil_of_le (Nat.le_of_eq Array.length_toList)]
      rfl
    · show ((T.heap.toList.drop T.heap.size).map (·.slots.size)).sum ≤ 0
      rw [List.drop_eq_nil_of_le (Nat.le_of_eq Array.length_toList)]
      exact Nat.le_refl _
/-- 'throw new E()': new; dup; invokespecial; athrow -/
theorem vx_throw0 {cc : ByteArray} {pc : Nat} (hexec : p.tables.exec = Jvm.exec) (hb : c.code = cc) (hl : l.stackTraces = false) {own cls : String} {names : List String} {ik ic mc ms : Nat} {A : Nat → Prop}
    (hown : s.vm.findClass own = some m.cls) (hcls : Bundle.fit cls = true) (hnames : ∀ n ∈ names, Bundle.fit n = true)
    (hk : (Cond.classLink own ik cls).before args s = true) (hini : (Cond.initialized cls).before args s = true) (hat : ∀ w ∈ vx_at0 own ic cls names, w.before args s = true)
    (hgood : ∀ w ∈ Cond.classLink own ik cls :: Cond.initialized cls :: vx_at0 own ic cls names, vx_ot w = true)
    (hU : vx_Zq Bundle.tN "UNASSIGNED_STACK" Bundle.steD A s s.heap) (hN : vx_Zq Bundle.tN "SUPPRESSED_SENTINEL" Bundle.listD A s s.heap) (hS : va_S A s.heap H locs) (hsize : ls.size = c.maxLocals)
    (d0 : decode cc pc = .ok (.new ik, 3)) (d3 : decode cc (pc + 3) = .ok (.dup, 1)) (d4 : decode cc (pc + 4) = .ok (.invokespecial ic, 3)) (d7 : decode cc (pc + 7) = .ok (.athrow, 1))
    (hout : ∀ x ∈ c.exceptionTable.toList, covers x (pc + 7) = false)
    (hRframes : names.length + 3 < R.frames) (hRlocals : (rest.map fun v => v.category).sum + (13 * (names.length + 1) + 42) ≤ R.locals) (hRcells : cells + 1 ≤ R.cells) (hRslots : slots + 6 ≤ R.slots) (hlocks : meth.locks = false)
    (hx : ∀ t : State, s.vm.Alike t.vm → H.size ≤ t.heap.size → (∀ q : Nat, q < H.size → t.heap[q]? = H[q]?) → XC cls s t)
    (hf : ∀ z ∈ locs, free z.base) (hc : cells + 1 ≤ mc) (hs : slots + 6 ≤ ms) :
    W p l e R s m args below meth c H locs cells slots (vx_MQ below Qc XC args s mc ms free) (F0 m pc ls rest) := by
  intro T hT X
  have htr : e.platform.stackTraces = false := (show e.platform.stackTraces = l.stackTraces by rw [X.admits.platform]).trans hl
  have Y := vx_rebase X (R' := { frames := R.frames, locals := R.locals, cells := 1, slots := 6 }) (Nat.le_refl _) (Nat.le_refl _) hRcells hRslots
  obtain ⟨s', hA⟩ : ∃ z, z = (T.setVm s.vm).setFrames (.invoking m args :: below) := ⟨_, rfl⟩
  rw [← hA] at Y
  have hvm : s'.vm = s.vm := by rw [hA]; rfl
  have hhp : s'.heap = H := by rw [hA]; exact hT
  have hW0 : s.WarmedH s'.vm := by rw [hvm]; exact State.WarmedH.refl s
  have hat' : ∀ w ∈ vx_at0 own ic cls names, w.before args s' = true := fun w hw => vx_ot_at hW0 hvm.symm (hgood w (List.mem_cons_of_mem _ (List.mem_cons_of_mem _ hw))) (hat w hw)
  have hk' : (Cond.classLink own ik cls).before args s' = true := vx_ot_at hW0 hvm.symm (hgood _ List.mem_cons_self) hk
  have hini' : (Cond.initialized cls).before args s' = true := vx_ot_at hW0 hvm.symm (hgood _ (List.mem_cons_of_mem _ List.mem_cons_self)) hini
  have hU' : vx_Zq Bundle.tN "UNASSIGNED_STACK" Bundle.steD A s' s'.heap := by rw [hhp]; exact vx_Zq.moved hW0.alike (hU.kept hS.2.1)
  have hN' : vx_Zq Bundle.tN "SUPPRESSED_SENTINEL" Bundle.listD A s' s'.heap := by rw [hhp]; exact vx_Zq.moved hW0.alike (hN.kept hS.2.1)
  have h : ∀ w ∈ Bundle.ownAtoms0 own ic cls names, w.before args s' = true := vx_own hat' (vx_isRefq hU'.1) (vx_isRefq hN'.1) hU'.2.word hN'.2.word
  have hown' : s'.vm.findClass own = some m.cls := by rw [hvm]; exact hown
  have hins : (Cond.instantiable cls 6).before args s' = true := h _ (by simp [Bundle.ownAtoms0])
  obtain ⟨vm₁, cX, kX, hfX, hkX, -, -, X₁, st1⟩ := Y.newCold hexec (own := own) (C := cls) (index := ik) (n := 6) hown' hk' hins hini'
    (g := F0 m pc ls rest) rfl (by rw [hb]; exact d0) (Nat.le_refl _) (Nat.le_refl _)
  generalize hT1 : (T.setVm vm₁).pushCell { cls := cX, slots := kX.instanceTypes.map defaultValue, vm := .none } = T1 at X₁ st1
  have hcat : (Value.ref T.heap.size).category = 1 := rfl
  have hcellA : T1.heap[T.heap.size]? = some (freshCell cX kX) := by rw [← hT1]; exact State.heap_pushCell_size _ _
  have d3' : decode c.code (pc + 3) = .ok (.dup, 1) := by rw [hb]; exact d3
  obtain ⟨U, hsteps, hrun, hend, hW, hsame, ce, hce, hO⟩ := X₁.ctorThrow0 hexec htr (own := own) (cls := cls) (names := names) (ic := ic) hown' hcls hnames h (fun x hx => nomatch hx) hfX hkX hcellA (by rw [hhp, hT]; exact Nat.le_refl _)
    (g := { method := m, pc := pc + 4, locals := ls, stack := .ref T.heap.size :: .ref T.heap.size :: rest, locked := none }) rfl hsize rfl rfl (rest := rest) rfl
    (by rw [hb]; exact d4) (by rw [hb]; exact d7) hout hRframes (by simp only [List.map_cons, List.sum_cons, hcat]; omega) hlocks
  obtain ⟨f1, f2⟩ := vx_frame hsame
  rw [hhp] at f1 f2
  have hWs : s.WarmedH U.vm := State.WarmedH.trans hW0 hW
  have hcl : s.vm.findClass cls = some ce.cls := by
    have h9 := hO.cls
    rw [hvm] at h9
    exact h9
  have hall : s.sameButNew ({ U with vm := s.vm } : State) locs mc ms := by
    subst hA
    obtain ⟨e1, e2⟩ := hsame
    rw [State.setFrames_setFrames] at e1
    have h2 : (T.setVm s.vm).sameButNew ({ U with vm := s.vm } : State) [] (0 + 1) (0 + 6) := ⟨e1, e2⟩
    have h3 := X.same.trans h2
    rw [List.append_nil] at h3
    exact h3.mono hc hs
  refine ⟨U, ?_, .threw T.heap.size, hrun, hend, Or.inr ⟨T.heap.size, rfl, cls, ce, locs, hx U hWs.alike f1 (fun q hq => f2 q hq (fun z hz => nomatch hz)), hce, hO.vm, hcl, hWs, hall, hf⟩⟩
  refine st1 _ ?_
  show Steps p.tables e below (T1.setTop { method := m, pc := pc + 3, locals := ls, stack := .ref T.heap.size :: rest, locked := none }) _
  jvm_step X₁.here [X₁.here.top, hexec, d3', Value.category]
  exact hsteps
/-- 'throw new E("text")': new; dup; ldc; invokespecial; athrow -/
theorem vx_throwS {cc : ByteArray} {pc : Nat} (hexec : p.tables.exec = Jvm.exec) (hb : c.code = cc) (hl : l.stackTraces = false) {own cls text : String} {names : List String} {ik is ic mc ms sa : Nat} {A : Nat → Prop}
    (hown : s.vm.findClass own = some m.cls) (hcls : Bundle.fit cls = true) (hnames : ∀ n ∈ names, Bundle.fit n = true)
    (hk : (Cond.classLink own ik cls).before args s = true) (hini : (Cond.initialized cls).before args s = true) (hstr : vk_R own is text sa s) (hat : ∀ w ∈ vx_atS own ic cls names, w.before args s = true)
    (hgood : ∀ w ∈ Cond.classLink own ik cls :: Cond.initialized cls :: vx_atS own ic cls names, vx_ot w = true)
    (hU : vx_Zq Bundle.tN "UNASSIGNED_STACK" Bundle.steD A s s.heap) (hN : vx_Zq Bundle.tN "SUPPRESSED_SENTINEL" Bundle.listD A s s.heap) (hS : va_S A s.heap H locs) (hsize : ls.size = c.maxLocals)
    (d0 : decode cc pc = .ok (.new ik, 3)) (d3 : decode cc (pc + 3) = .ok (.dup, 1)) (d4 : decode cc (pc + 4) = .ok (.ldc is, 2)) (d6 : decode cc (pc + 6) = .ok (.invokespecial ic, 3)) (d9 : decode cc (pc + 9) = .ok (.athrow, 1))
    (hout : ∀ x ∈ c.exceptionTable.toList, covers x (pc + 9) = false)
    (hRframes : names.length + 3 < R.frames) (hRlocals : (rest.map fun v => v.category).sum + (13 * (names.length + 1) + 43) ≤ R.locals) (hRcells : cells + 1 ≤ R.cells) (hRslots : slots + 6 ≤ R.slots) (hlocks : meth.locks = false)
    (hx : ∀ t : State, s.vm.Alike t.vm → H.size ≤ t.heap.size → (∀ q : Nat, q < H.size → t.heap[q]? = H[q]?) → XC cls s t)
    (hf : ∀ z ∈ locs, free z.base) (hc : cells + 1 ≤ mc) (hs : slots + 6 ≤ ms) :
    W p l e R s m args below meth c H locs cells slots (vx_MQ below Qc XC args s mc ms free) (F0 m pc ls rest) := by
  intro T hT X
  have htr : e.platform.stackTraces = false := (show e.platform.stackTraces = l.stackTraces by rw [X.admits.platform]).trans hl
  have Y := vx_rebase X (R' := { frames := R.frames, locals := R.locals, cells := 1, slots := 6 }) (Nat.le_refl _) (Nat.le_refl _) hRcells hRslots
  obtain ⟨s', hA⟩ : ∃ z, z = (T.setVm s.vm).setFrames (.invoking m args :: below) := ⟨_, rfl⟩
  rw [← hA] at Y
  have hvm : s'.vm = s.vm := by rw [hA]; rfl
  have hhp : s'.heap = H := by rw [hA]; exact hT
  have hW0 : s.WarmedH s'.vm := by rw [hvm]; exact State.WarmedH.refl s
  have hat' : ∀ w ∈ vx_atS own ic cls names, w.before args s' = true := fun w hw => vx_ot_at hW0 hvm.symm (hgood w (List.mem_cons_of_mem _ (List.mem_cons_of_mem _ hw))) (hat w hw)
  have hk' : (Cond.classLink own ik cls).before args s' = true := vx_ot_at hW0 hvm.symm (hgood _ List.mem_cons_self) hk
  have hini' : (Cond.initialized cls).before args s' = true := vx_ot_at hW0 hvm.symm (hgood _ (List.mem_cons_of_mem _ List.mem_cons_self)) hini
  have hU' : vx_Zq Bundle.tN "UNASSIGNED_STACK" Bundle.steD A s' s'.heap := by rw [hhp]; exact vx_Zq.moved hW0.alike (hU.kept hS.2.1)
  have hN' : vx_Zq Bundle.tN "SUPPRESSED_SENTINEL" Bundle.listD A s' s'.heap := by rw [hhp]; exact vx_Zq.moved hW0.alike (hN.kept hS.2.1)
  have h : ∀ w ∈ Bundle.ownAtoms own ic cls names, w.before args s' = true := vx_own hat' (vx_isRefq hU'.1) (vx_isRefq hN'.1) hU'.2.word hN'.2.word
  have hown' : s'.vm.findClass own = some m.cls := by rw [hvm]; exact hown
  have hins : (Cond.instantiable cls 6).before args s' = true := h _ (by simp [Bundle.ownAtoms])
  obtain ⟨vm₁, cX, kX, hfX, hkX, -, -, X₁, st1⟩ := Y.newCold hexec (own := own) (C := cls) (index := ik) (n := 6) hown' hk' hins hini'
    (g := F0 m pc ls rest) rfl (by rw [hb]; exact d0) (Nat.le_refl _) (Nat.le_refl _)
  generalize hT1 : (T.setVm vm₁).pushCell { cls := cX, slots := kX.instanceTypes.map defaultValue, vm := .none } = T1 at X₁ st1
  have hcat : (Value.ref T.heap.size).category = 1 := rfl
  have hcellA : T1.heap[T.heap.size]? = some (freshCell cX kX) := by rw [← hT1]; exact State.heap_pushCell_size _ _
  have d3' : decode c.code (pc + 3) = .ok (.dup, 1) := by rw [hb]; exact d3
  have d4' : decode c.code (pc + 4) = .ok (.ldc is, 2) := by rw [hb]; exact d4
  have hstr' : vk_R own is text sa s' := vk_R.warm hW0 hstr
  obtain ⟨U, hsteps, hrun, hend, hW, hsame, ce, hce, hO⟩ := X₁.ctorThrowS hexec htr (own := own) (cls := cls) (names := names) (ic := ic) hown' hcls hnames h (fun x hx => nomatch hx) hfX hkX hcellA (by rw [hhp, hT]; exact Nat.le_refl _) (msg := .ref sa) rfl
    (g := { method := m, pc := pc + 6, locals := ls, stack := .ref sa :: .ref T.heap.size :: .ref T.heap.size :: rest, locked := none }) rfl hsize rfl rfl (rest := rest) rfl
    (by rw [hb]; exact d6) (by rw [hb]; exact d9) hout hRframes (by simp only [List.map_cons, List.sum_cons, hcat]; omega) hlocks
  obtain ⟨f1, f2⟩ := vx_frame hsame
  rw [hhp] at f1 f2
  have hWs : s.WarmedH U.vm := State.WarmedH.trans hW0 hW
  have hcl : s.vm.findClass cls = some ce.cls := by
    have h9 := hO.cls
    rw [hvm] at h9
    exact h9
  have hall : s.sameButNew ({ U with vm := s.vm } : State) locs mc ms := by
    subst hA
    obtain ⟨e1, e2⟩ := hsame
    rw [State.setFrames_setFrames] at e1
    have h2 : (T.setVm s.vm).sameButNew ({ U with vm := s.vm } : State) [] (0 + 1) (0 + 6) := ⟨e1, e2⟩
    have h3 := X.same.trans h2
    rw [List.append_nil] at h3
    exact h3.mono hc hs
  refine ⟨U, ?_, .threw T.heap.size, hrun, hend, Or.inr ⟨T.heap.size, rfl, cls, ce, locs, hx U hWs.alike f1 (fun q hq => f2 q hq (fun z hz => nomatch hz)), hce, hO.vm, hcl, hWs, hall, hf⟩⟩
  refine st1 _ ?_
  show Steps p.tables e below (T1.setTop { method := m, pc := pc + 3, locals := ls, stack := .ref T.heap.size :: rest, locked := none }) _
  jvm_step X₁.here [X₁.here.top, hexec, d3', Value.category]
  exact X₁.ldcString hexec (own := own) (text := text) (index := is) (a := sa) hown' hstr'.1 hstr'.2
    (g := { method := m, pc := pc + 4, locals := ls, stack := .ref T.heap.size :: .ref T.heap.size :: rest, locked := none }) rfl d4' _ hsteps
/-- 'throw new E("text")', the text by a wide index -/
theorem vx_throwSW {cc : ByteArray} {pc : Nat} (hexec : p.tables.exec = Jvm.exec) (hb : c.code = cc) (hl : l.stackTraces = false) {own cls text : String} {names : List String} {ik is ic mc ms sa : Nat} {A : Nat → Prop}
    (hown : s.vm.findClass own = some m.cls) (hcls : Bundle.fit cls = true) (hnames : ∀ n ∈ names, Bundle.fit n = true)
    (hk : (Cond.classLink own ik cls).before args s = true) (hini : (Cond.initialized cls).before args s = true) (hstr : vk_R own is text sa s) (hat : ∀ w ∈ vx_atS own ic cls names, w.before args s = true)
    (hgood : ∀ w ∈ Cond.classLink own ik cls :: Cond.initialized cls :: vx_atS own ic cls names, vx_ot w = true)
    (hU : vx_Zq Bundle.tN "UNASSIGNED_STACK" Bundle.steD A s s.heap) (hN : vx_Zq Bundle.tN "SUPPRESSED_SENTINEL" Bundle.listD A s s.heap) (hS : va_S A s.heap H locs) (hsize : ls.size = c.maxLocals)
    (d0 : decode cc pc = .ok (.new ik, 3)) (d3 : decode cc (pc + 3) = .ok (.dup, 1)) (d4 : decode cc (pc + 4) = .ok (.ldc_w is, 3)) (d7 : decode cc (pc + 7) = .ok (.invokespecial ic, 3)) (d10 : decode cc (pc + 10) = .ok (.athrow, 1))
    (hout : ∀ x ∈ c.exceptionTable.toList, covers x (pc + 10) = false)
    (hRframes : names.length + 3 < R.frames) (hRlocals : (rest.map fun v => v.category).sum + (13 * (names.length + 1) + 43) ≤ R.locals) (hRcells : cells + 1 ≤ R.cells) (hRslots : slots + 6 ≤ R.slots) (hlocks : meth.locks = false)
    (hx : ∀ t : State, s.vm.Alike t.vm → H.size ≤ t.heap.size → (∀ q : Nat, q < H.size → t.heap[q]? = H[q]?) → XC cls s t)
    (hf : ∀ z ∈ locs, free z.base) (hc : cells + 1 ≤ mc) (hs : slots + 6 ≤ ms) :
    W p l e R s m args below meth c H locs cells slots (vx_MQ below Qc XC args s mc ms free) (F0 m pc ls rest) := by
  intro T hT X
  have htr : e.platform.stackTraces = false := (show e.platform.stackTraces = l.stackTraces by rw [X.admits.platform]).trans hl
  have Y := vx_rebase X (R' := { frames := R.frames, locals := R.locals, cells := 1, slots := 6 }) (Nat.le_refl _) (Nat.le_refl _) hRcells hRslots
  obtain ⟨s', hA⟩ : ∃ z, z = (T.setVm s.vm).setFrames (.invoking m args :: below) := ⟨_, rfl⟩
  rw [← hA] at Y
  have hvm : s'.vm = s.vm := by rw [hA]; rfl
  have hhp : s'.heap = H := by rw [hA]; exact hT
  have hW0 : s.WarmedH s'.vm := by rw [hvm]; exact State.WarmedH.refl s
  have hat' : ∀ w ∈ vx_atS own ic cls names, w.before args s' = true := fun w hw => vx_ot_at hW0 hvm.symm (hgood w (List.mem_cons_of_mem _ (List.mem_cons_of_mem _ hw))) (hat w hw)
  have hk' : (Cond.classLink own ik cls).before args s' = true := vx_ot_at hW0 hvm.symm (hgood _ List.mem_cons_self) hk
  have hini' : (Cond.initialized cls).before args s' = true := vx_ot_at hW0 hvm.symm (hgood _ (List.mem_cons_of_mem _ List.mem_cons_self)) hini
  have hU' : vx_Zq Bundle.tN "UNASSIGNED_STACK" Bundle.steD A s' s'.heap := by rw [hhp]; exact vx_Zq.moved hW0.alike (hU.kept hS.2.1)
  have hN' : vx_Zq Bundle.tN "SUPPRESSED_SENTINEL" Bundle.listD A s' s'.heap := by rw [hhp]; exact vx_Zq.moved hW0.alike (hN.kept hS.2.1)
  have h : ∀ w ∈ Bundle.ownAtoms own ic cls names, w.before args s' = true := vx_own hat' (vx_isRefq hU'.1) (vx_isRefq hN'.1) hU'.2.word hN'.2.word
  have hown' : s'.vm.findClass own = some m.cls := by rw [hvm]; exact hown
  have hins : (Cond.instantiable cls 6).before args s' = true := h _ (by simp [Bundle.ownAtoms])
  obtain ⟨vm₁, cX, kX, hfX, hkX, -, -, X₁, st1⟩ := Y.newCold hexec (own := own) (C := cls) (index := ik) (n := 6) hown' hk' hins hini'
    (g := F0 m pc ls rest) rfl (by rw [hb]; exact d0) (Nat.le_refl _) (Nat.le_refl _)
  generalize hT1 : (T.setVm vm₁).pushCell { cls := cX, slots := kX.instanceTypes.map defaultValue, vm := .none } = T1 at X₁ st1
  have hcat : (Value.ref T.heap.size).category = 1 := rfl
  have hcellA : T1.heap[T.heap.size]? = some (freshCell cX kX) := by rw [← hT1]; exact State.heap_pushCell_size _ _
  have d3' : decode c.code (pc + 3) = .ok (.dup, 1) := by rw [hb]; exact d3
  have d4' : decode c.code (pc + 4) = .ok (.ldc_w is, 3) := by rw [hb]; exact d4
  have hstr' : vk_R own is text sa s' := vk_R.warm hW0 hstr
  obtain ⟨U, hsteps, hrun, hend, hW, hsame, ce, hce, hO⟩ := X₁.ctorThrowS hexec htr (own := own) (cls := cls) (names := names) (ic := ic) hown' hcls hnames h (fun x hx => nomatch hx) hfX hkX hcellA (by rw [hhp, hT]; exact Nat.le_refl _) (msg := .ref sa) rfl
    (g := { method := m, pc := pc + 7, locals := ls, stack := .ref sa :: .ref T.heap.size :: .ref T.heap.size :: rest, locked := none }) rfl hsize rfl rfl (rest := rest) rfl
    (by rw [hb]; exact d7) (by rw [hb]; exact d10) hout hRframes (by simp only [List.map_cons, List.sum_cons, hcat]; omega) hlocks
  obtain ⟨f1, f2⟩ := vx_frame hsame
  rw [hhp] at f1 f2
  have hWs : s.WarmedH U.vm := State.WarmedH.trans hW0 hW
  have hcl : s.vm.findClass cls = some ce.cls := by
    have h9 := hO.cls
    rw [hvm] at h9
    exact h9
  have hall : s.sameButNew ({ U with vm := s.vm } : State) locs mc ms := by
    subst hA
    obtain ⟨e1, e2⟩ := hsame
    rw [State.setFrames_setFrames] at e1
    have h2 : (T.setVm s.vm).sameButNew ({ U with vm := s.vm } : State) [] (0 + 1) (0 + 6) := ⟨e1, e2⟩
    have h3 := X.same.trans h2
    rw [List.append_nil] at h3
    exact h3.mono hc hs
  refine ⟨U, ?_, .threw T.heap.size, hrun, hend, Or.inr ⟨T.heap.size, rfl, cls, ce, locs, hx U hWs.alike f1 (fun q hq => f2 q hq (fun z hz => nomatch hz)), hce, hO.vm, hcl, hWs, hall, hf⟩⟩
  refine st1 _ ?_
  show Steps p.tables e below (T1.setTop { method := m, pc := pc + 3, locals := ls, stack := .ref T.heap.size :: rest, locked := none }) _
  jvm_step X₁.here [X₁.here.top, hexec, d3', Value.category]
  exact X₁.ldcStringW hexec (own := own) (text := text) (index := is) (a := sa) hown' hstr'.1 hstr'.2
    (g := { method := m, pc := pc + 4, locals := ls, stack := .ref T.heap.size :: .ref T.heap.size :: rest, locked := none }) rfl d4' _ hsteps
end Ends
section Bodies
variable {l : Launch}
theorem vx_ofW {y : MethodName} {ws ws' : List Cond} {rm : Room} {Pc : Array Value → State → Prop} {Qc : Array Value → State → Outcome → State → Prop} {XC : String → State → State → Prop} {mc ms : Nat} {free : Addr → Prop} {cc : ByteArray} {maxL : Nat} {ret : Option FieldType}
    (hy : plainName y.cls = true) (hw : ws = Cond.code y cc maxL ret :: ws')
    (body : ∀ p e s m args below meth c s₁, BodyLoose p l y (headSpec ws rm) cc maxL ret e s m args below meth c s₁ → c.maxLocals = maxL → (∀ x ∈ c.exceptionTable.toList, False) → Pc args s →
      W p l e (headSpec ws rm).room s m args below meth c s.heap [] 0 0 (vx_MQ below Qc XC args s mc ms free) (entryFrame m args maxL)) : vx_Met l y ws rm Pc Qc XC mc ms free := by
  refine MetFree.of_bodyS (code := cc) (maxLocals := maxL) (ret := ret) hy ?_ ?_
  · intro args s m h hn
    obtain ⟨meth, c, h1, h2, h3, h4, h5, h6, -, -⟩ := Cond.code_spec hn (atoms_spec (ws := ws) h _ (by rw [hw]; exact List.mem_cons_self))
    exact ⟨meth, c, h1, h2, h3, h4, h5, h6⟩
  · intro p e s m args below meth c s₁ B hml hP _
    have hh0 : s₁.heap = s.heap := by rw [B.state]; rfl
    have ht : ∀ x ∈ c.exceptionTable.toList, False := by
      obtain ⟨meth9, c9, h1, h2, -, -, -, -, h7, -⟩ := Cond.code_spec B.named (atoms_spec (ws := ws) B.pre _ (by rw [hw]; exact List.mem_cons_self))
      cases Option.some.inj (h1.symm.trans B.method)
      cases Option.some.inj (h2.symm.trans (Stand.of_body B).code)
      intro x hx
      rw [Array.isEmpty_iff.mp h7] at hx
      cases hx
    obtain ⟨t, a1, o, b1, b2, b3⟩ := body p e s m args below meth c s₁ B hml ht hP s₁ hh0 (Stand.of_body B)
    exact ⟨t, o, a1, b1, b2, b3⟩
/-- the table of a body with handlers -/
theorem vx_table {p : Program} {x y : MethodName} {S : Spec} {cc bytes : ByteArray} {maxL maxL' : Nat} {ret ret' : Option FieldType} {e : Env} {s s₁ : State} {m : MethodId} {args : Array Value} {below : List Frame} {meth : Method} {c : Code} {hh : List (Nat × Nat × Nat × Nat)}
    (B : BodyLoose p l y S cc maxL ret e s m args below meth c s₁) (h : (Cond.codeWith y bytes maxL' ret' hh).before args s = true) : c.exceptionTable.toList = tableOf hh := by
  obtain ⟨m9, meth9, c9, hn9, h1, h2, -, -, h6, -⟩ := Cond.codeWith_spec h
  cases Option.some.inj (hn9.symm.trans B.named)
  cases Option.some.inj (h1.symm.trans B.method)
  cases Option.some.inj (h2.symm.trans (Stand.of_body B).code)
  rw [← h6, table_eq]
end Bodies
end VXA
/-! ===== END ===== -/
/-! ===== BEGIN a static call of a method with an exception table ===== -/
section VXS
variable {p : Program} {l : Launch} {e : Env} {R : Room} {s : State} {m : MethodId} {args : Array Value} {below : List Frame} {meth : Method} {c : Code} {T : State} {H : Heap} {locs : List Loc} {cells slots : Nat}
abbrev vx_CSW (R : Room) (s : State) (args : Array Value) (own : String) (index : Nat) (y : MethodName) (bytes : ByteArray) (maxL : Nat) (ret : Option FieldType) (hh : List (Nat × Nat × Nat × Nat)) (ws : List Cond) (rm : Room) (mc ms n : Nat) : Prop :=
  (rm.cells = mc ∧ rm.slots = ms ∧ rm.frames + 1 ≤ R.frames ∧ 8 + (maxL + 11) + rm.locals ≤ R.locals ∧ (∀ w ∈ ws, ∀ (a' : Array Value) (U : State), s.WarmedH U.vm → w.before a' U = true) ∧ Cond.codeWith y bytes maxL ret hh ∈ ws) ∧
  (Cond.codeWith y bytes maxL ret hh).before args s = true ∧ (Cond.initialized y.cls).before args s = true ∧ (y.cls ≠ "java/lang/invoke/MethodHandle" ∧ y.cls ≠ "java/lang/invoke/VarHandle") ∧
  (∀ sig, parseMethodDescriptor y.desc = some sig → n = sig.parameters.length) ∧ (Cond.methodLink own index y).before args s = true ∧ (Cond.static y).before args s = true
theorem vx_cwSW {own : String} {index maxL mc ms : Nat} {y : MethodName} {bytes : ByteArray} {ret : Option FieldType} {hh : List (Nat × Nat × Nat × Nat)} {Ts ws ws' : List Cond} {rm : Room} (n : Nat) (ht : ∀ w ∈ Ts, w.before args s = true) (hT : GoodIn Ts (va_wsS own index y ws)) (hw : ws = Cond.codeWith y bytes maxL ret hh :: ws') (hrc : rm.cells = mc) (hrs : rm.slots = ms)
    (hd : y.cls ≠ "java/lang/invoke/MethodHandle" ∧ y.cls ≠ "java/lang/invoke/VarHandle" ∧ (parseMethodDescriptor y.desc).map (fun d => d.parameters.length) = some n) (hR : rm.frames + 1 ≤ R.frames ∧ 8 + (maxL + 11) + rm.locals ≤ R.locals) :
    vx_CSW R s args own index y bytes maxL ret hh ws rm mc ms n := by
  have ok : ∀ w ∈ va_wsS own index y ws, w.before args s = true := fun w h => ht w (hT w h).1
  have hG : GoodIn Ts ws := fun w h => hT w (by unfold va_wsS; exact List.mem_append_right _ h)
  have hc : Cond.codeWith y bytes maxL ret hh ∈ ws := by rw [hw]; exact List.mem_cons_self
  refine ⟨⟨hrc, hrs, hR.1, hR.2, pay_in ht hG, hc⟩, ht _ (hG _ hc).1, ok _ (by simp [va_wsS]), ⟨hd.1, hd.2.1⟩, fun sig h => ?_, ok _ (by simp [va_wsS]), ok _ (by simp [va_wsS])⟩
  have h2 := hd.2.2
  rw [h] at h2
  exact (Option.some.inj h2).symm
theorem vx_callSW (X : Stand p l e R s m args below meth c T locs cells slots) (hexec : p.tables.exec = Jvm.exec) {own : String} {index : Nat} {y : MethodName} {bytes : ByteArray} {maxL : Nat} {ret : Option FieldType} {hh : List (Nat × Nat × Nat × Nat)}
    (hown : s.vm.findClass own = some m.cls) (hlink : (Cond.methodLink own index y).before args s = true) (hstat : (Cond.static y).before args s = true) (hinit : (Cond.initialized y.cls).before args s = true)
    (hcode : (Cond.codeWith y bytes maxL ret hh).before args s = true) (hy : y.cls ≠ "java/lang/invoke/MethodHandle" ∧ y.cls ≠ "java/lang/invoke/VarHandle")
    {W9 : Nat} {Pre : Pt → Array Value → Prop} {Post : Pt → Array Value → Option Value → Pt → Prop} (hK : Back l R p e below s args y 3 W9 Pre Post)
    {g : JFrame} (hg : g.method = m) (hsize : g.locals.size = c.maxLocals) {argsL rest : List Value} (hlen : ∀ sig, parseMethodDescriptor y.desc = some sig → argsL.length = sig.parameters.length)
    (hstack : g.stack = argsL.reverse ++ rest) (hW : 2 * g.monitorRoom + (rest.map fun v => v.category).sum ≤ W9) (hdg : decode c.code g.pc = .ok (.invokestatic index, 3))
    (hpre : ∀ vm₁, s.WarmedH vm₁ → Pre ⟨T.setVm vm₁, locs, cells, slots⟩ argsL.toArray) :
    ∃ (v : Option Value) (vm₁ : Vm) (B : Pt), s.WarmedH vm₁ ∧ Stand p l e R s m args below meth c B.U B.locs B.cells B.slots ∧ Post ⟨T.setVm vm₁, locs, cells, slots⟩ argsL.toArray v B ∧
      ∀ target, Steps p.tables e below (B.U.setTop { g with pc := g.pc + 3, stack := v.toList ++ rest }) target → Steps p.tables e below (T.setTop g) target := by
  obtain ⟨mk, methM, cM, hnamed, hmethM, -, -, -, -, -, -, hsigM⟩ := Cond.codeWith_spec hcode
  have hstatic : methM.isStatic = true := Cond.static_spec hnamed hmethM hstat
  obtain ⟨kP, hkP, -⟩ := className_of_methodNamed hnamed
  have hinitP : kP.init = .initialized := Cond.initialized_spec (findClass_of_methodNamed hnamed) hkP hinit
  obtain ⟨vm₁, X₁, hstep₁⟩ := X.invokestatic hexec hown hlink hnamed hmethM hstatic hkP hinitP hy (g := g) hg (argsL := argsL) (rest := rest) (hlen _ hsigM) hstack hdg
  obtain ⟨v, B, X', hpost, hsteps⟩ := hK m meth c ⟨T.setVm vm₁, locs, cells, slots⟩ { g with stack := rest } (.invokestatic index) mk argsL.toArray X₁ hg hsize hdg hW (X₁.named hnamed) (hpre vm₁ X₁.warmed)
  exact ⟨v, vm₁, B, X₁.warmed, X', hpost, fun target h => hstep₁ _ fun acts => by rw [doInvoke_state]; exact hsteps.trans h⟩
theorem vx_runSW {y : MethodName} {bytes cc : ByteArray} {maxL nL mc ms n index : Nat} {ret : Option FieldType} {hh : List (Nat × Nat × Nat × Nat)} {ws : List Cond} {rm : Room} {Pc : Array Value → State → Prop} {Qc : Array Value → State → Outcome → State → Prop} {free : Addr → Prop} {Ts : List Cond} {own : String} {As rest : List Value} {g : JFrame}
    (S : CallFix p m c cc nL s args Ts own) (hM : Met l y ws rm Pc Qc mc ms free) (cw : vx_CSW R s args own index y bytes maxL ret hh ws rm mc ms n) (hp : PreS s H Pc As)
    (hg : g.method = m) (hn : As.length = n) (hsize : g.locals.size = nL) (hstack : g.stack = As.reverse ++ rest) (hW : 2 * g.monitorRoom + (rest.map fun v => v.category).sum ≤ 8) (hdg : decode cc g.pc = .ok (.invokestatic index, 3)) (hf : cells + mc ≤ R.cells ∧ slots + ms ≤ R.slots) :
    va_Run p l e R s m args below meth c H locs cells slots mc ms g rest (Qc As.toArray) (free) := by
  obtain ⟨⟨hrc, hrs, hfr, hlo, hws, hcw⟩, hcode, hini, hy, hlen, hl, hstt⟩ := cw
  have hK : Back l R p e below s args y 3 8 (PreOf R mc ms Pc) (PostOf Qc mc ms free) := va_backW (hh := hh) (bytes := bytes) (maxL := maxL) (ret := ret) hM hp.1 hrc hrs hfr hlo hws hcw (fun a' U hW => word_at hW (Or.inl (by first | rfl | simp [Cond.onTables, Cond.keeps, Cond.steady])) hini)
  obtain ⟨hx, hb, hml, ho, -⟩ := S
  intro T hT X
  obtain ⟨v, vm₁, ⟨U', l2, c2, s2⟩, hW₁, X', ⟨g', mk, t, L, e1, e2, hq, h1, hL, h2, h3⟩, st⟩ := vx_callSW X hx (hh := hh) (bytes := bytes) (maxL := maxL) (ret := ret) ho hl hstt hini hcode hy hK hg (hsize.trans hml.symm) (argsL := As) (rest := rest) (fun sig h => hn.trans (hlen sig h)) hstack hW (by rw [hb]; exact hdg)
    (fun vm₁ hW₁ => ⟨hf.1, hf.2, hp.2 (T.setVm vm₁) hT hW₁⟩)
  dsimp only [Pt.U, Pt.locs, Pt.cells, Pt.slots] at X' e1 e2 h1 h2 h3 st
  subst h1; subst h2; subst h3
  exact ⟨v, (T.setVm vm₁).calling g' mk As.toArray, t, U', L, hT, X', hL, e1, e2, hq, st⟩
/-- not caught here, past rows that name other classes: it goes on to the caller -/
theorem vx_outP {p : Program} {l : Launch} {e : Env} {R : Room} {s : State} {m : MethodId} {args : Array Value} {below : List Frame} {meth : Method} {c : Code} {H : Heap} {locs : List Loc} {cells slots : Nat} {free : Addr → Prop} {ls : Array Slot} {rest : List Value} {Qc : Array Value → State → Outcome → State → Prop} {XC : String → State → State → Prop}
    {pc : Nat} {own E : String} {ce : Cell} {q : Addr} {mc ms : Nat} (hown : s.vm.findClass own = some m.cls) (hlocks : meth.locks = false)
    (hpass : ∀ z ∈ c.exceptionTable.toList, covers z pc = false ∨ (z.catchType ≠ 0 ∧ ∃ nm : String, (Cond.classLink own z.catchType nm).before args s = true ∧ va_Nc E nm s)) (hcell : H[q]? = some ce) (hv : ce.vm = .none) (hcl : s.vm.findClass E = some ce.cls)
    (hx : ∀ t : State, t.heap = H → s.vm.Alike t.vm → XC E s t) (hf : ∀ z ∈ locs, free z.base) (hc : cells ≤ mc) (hs : slots ≤ ms) :
    vx_W p l e R s m args below meth c H locs cells slots (vx_MQ below Qc XC args s mc ms free) (F0 m pc ls rest) q := by
  intro T hT X
  have hpl : e.platform.magicAccessors = ({} : Platform).magicAccessors := by rw [X.admits.platform]
  obtain ⟨vm', hW', X', st⟩ := X.outThrough hlocks q (g := F0 m pc ls rest) rfl rfl rfl (cell := ce) (by rw [hT]; exact hcell) (by rw [hv]; rfl)
    (by obtain ⟨k9, h9, -⟩ := Vm.findClass_spec hcl; exact ⟨k9, h9⟩) (fun z hz => by
      rcases hpass z hz with h | ⟨hz0, nm, hl1, hn1⟩
      · exact Or.inl h
      · obtain ⟨c6, hc6, hcl6⟩ := Cond.classLink_spec hown hl1 e.platform hpl
        obtain ⟨a8, b8, h1, h2, h3⟩ := hn1
        cases Option.some.inj (h1.symm.trans hcl)
        cases Option.some.inj (h2.symm.trans hc6)
        exact Or.inr ⟨hz0, _, hcl6, h3⟩)
  obtain ⟨g₀, hfr⟩ := X'.frames_eq
  have hcell9 : ((T.setVm vm').setFrames (.throwing q :: below)).heap[q]? = some ce := by
    show T.heap[q]? = some ce
    rw [hT]; exact hcell
  have hend : Ended ((T.setVm vm').setFrames (.throwing q :: below)) below (.threw q) := State.frames_setFrames _ (State.cur_lt_of_frames hfr)
  refine ⟨(T.setVm vm').setFrames (.throwing q :: below), ?_, .threw q, X'.here.running, hend, Or.inr ⟨q, rfl, E, ce, locs, hx _ hT (X'.ends _).1.alike, hcell9, hv, hcl, (X'.ends _).1, (X'.ends _).2.mono hc hs, hf⟩⟩
  rw [X.pushThrowing_eq]
  exact st
/-- a thing of a world lies in the heap -/
theorem vx_lt {D : va_G} {cl : List vw_C} {ws : va_W} {H1 : Heap} (h : va_P D cl ws H1) {k : Nat} {q : Nat × va_E} (hk : ws[k]? = some q) : q.1 < H1.size := (h k q hk).lt
end VXS
/-! ===== END ===== -/
/-! ===== BEGIN methods with a table of their own: called by a name, returning or throwing ===== -/
section VXH
/-! vx_backW, vx_callVX, vx_callSX, vx_callVW, vx_runVW, vx_runVX, vx_runSX, vx_ofWH follow the same proofs as their sisters above (Free/Laws.lean, Shelf42/LK1.lean); vx_outP calls Shelf42/NT130.lean (outThrough). -/
section
variable {l : Launch} {R : Room} {p : Program} {e : Env} {below : List Frame} {s : State} {sargs : Array Value} {y : MethodName} {len W9 : Nat}
theorem vx_backW {ws : List Cond} {rm : Room} {Pc : Array Value → State → Prop} {Qc : Array Value → State → Outcome → State → Prop} {XC : String → State → State → Prop} {mc ms : Nat} {free : Addr → Prop} {bytes : ByteArray} {maxL : Nat} {ret : Option FieldType} {hh : List (Nat × Nat × Nat × Nat)}
    (hM : vx_Met l y ws rm Pc Qc XC mc ms free) (hblind : FrameBlind Pc) (hrc : rm.cells = mc) (hrs : rm.slots = ms)
    (hframes : rm.frames + 1 ≤ R.frames) (hlocals : W9 + (maxL + 11) + rm.locals ≤ R.locals)
    (hws : ∀ w ∈ ws, ∀ a' U, s.WarmedH U.vm → w.before a' U = true) (hcode : Cond.codeWith y bytes maxL ret hh ∈ ws) (hinit : ∀ a' U, s.WarmedH U.vm → (Cond.initialized y.cls).before a' U = true) :
    vx_Back l R p e below s sargs y len W9 (PreOf R mc ms Pc) (PostOf Qc mc ms free) (vx_Post XC mc ms free) := by
  intro m meth c A g ig mk a X hg hsize hdg hW hn hp
  have h1 : (headSpec ws rm).pre.before a A.U = true := atoms_intro fun w hw => hws w hw _ _ X.warmed
  have h2 : (Cond.codeWith y bytes maxL ret hh).before a A.U = true := hws _ hcode _ _ X.warmed
  have h3 : (Cond.initialized y.cls).before a A.U = true := hinit _ _ X.warmed
  have h4 : A.cells + (headSpec ws rm).room.cells ≤ R.cells := by rw [show (headSpec ws rm).room.cells = mc from hrc]; exact hp.1
  have h5 : A.slots + (headSpec ws rm).room.slots ≤ R.slots := by rw [show (headSpec ws rm).room.slots = ms from hrs]; exact hp.2.1
  have hPc : Pc a (A.U.calling g mk a) := hblind _ _ _ _ hp.2.2
  obtain ⟨U, Ls, c0, s0⟩ := A
  dsimp only [Pt.U, Pt.locs, Pt.cells, Pt.slots] at h1 h2 h3 h4 h5 X hn hPc ⊢
  obtain ⟨m9, methY, cY, hn9, hmY, hcY, -, hlY, -⟩ := Cond.codeWith_spec h2
  cases Option.some.inj (hn9.symm.trans hn)
  obtain ⟨kY, hkY, -⟩ := className_of_methodNamed hn
  have hinitY : kY.init = .initialized := Cond.initialized_spec (findClass_of_methodNamed hn) hkY h3
  have h : At U g.method c below := by rw [hg]; exact X.here
  have hlocals9 : W9 + (maxL + 11) + (headSpec ws rm).room.locals ≤ R.locals := hlocals
  have happ : (headSpec ws rm).appliesLoose y e.platform (U.calling g mk a) = true :=
    Spec.appliesLoose_calling (g := g) h hdg hn hkY hinitY
      (X.room_calling (g := g) (R' := (headSpec ws rm).room) hsize hmY hcY hframes (by rw [hlY]; omega) h4 h5) h1
  obtain ⟨mid, hmid⟩ := h.above
  have hfr : (U.setTop g).frames = (.java g :: mid) ++ below := by rw [State.frames_setTop' g h.top, hmid]; rfl
  obtain ⟨o, s₂, hsteps, -, hend, hq⟩ := Steps.callFree hM p X.admits X.cas X.clock (acts := []) hfr happ hPc trivial
  have hq' : vx_Q Qc XC mc ms free a (U.calling g mk a) o s₂ := hq
  rw [State.frames_setTop' g h.top] at hend
  obtain ⟨g₀, hg0⟩ := Option.isSome_iff_exists.mp h.top
  obtain ⟨r, hr⟩ := State.topJava?_eq_some.mp hg0
  have hr' : (({ U with heap := s₂.heap, slotsUsed := s₂.slotsUsed } : State).setVm s₂.vm).frames = .java g₀ :: r := hr
  rcases hq' with ⟨hqc, L, hfe, hL⟩ | ⟨q, rfl, E, ce, L, hx, hce, hcv, hcl, hW₂, hsm, hL⟩
  · obtain ⟨⟨v, rfl⟩, hW₂, e2, q2, q3, q4, q5, q6⟩ := id hfe
    have e3 : s₂ = ({ (U.calling g mk a).setFrames s₂.frames with heap := s₂.heap, slotsUsed := s₂.slotsUsed } : State).setVm s₂.vm := by
      have : s₂ = ({ s₂ with vm := (U.calling g mk a).vm } : State).setVm s₂.vm := rfl
      rw [e2] at this
      exact this
    obtain ⟨c₂, i₂, len₂, hc₂, hd₂, hf₂⟩ := hend
    have hW' : U.WarmedH s₂.vm := hW₂
    have hcc : c₂ = c := by
      have h1 : s₂.code? g.method = U.code? g.method := by
        rw [State.code?_eq, State.code?_eq, hW'.alike.method?]
      exact Option.some.inj (hc₂.symm.trans (h1.trans h.code))
    subst hcc
    have hlen : len₂ = len := by rw [hdg] at hd₂; cases hd₂; rfl
    subst hlen
    have hs₂ : s₂ = (({ U with heap := s₂.heap, slotsUsed := s₂.slotsUsed } : State).setVm s₂.vm).setTop { g with pc := g.pc + len₂, stack := v.toList ++ g.stack } := by
      refine e3.trans ?_
      rw [hf₂, State.calling_eq h.top, State.setFrames_setFrames, State.setTop_of_frames _ hr', hr]
      rfl
    have hsame : U.sameButNew ({ U with heap := s₂.heap, slotsUsed := s₂.slotsUsed } : State) L mc ms := by
      refine ⟨?_, q2, q3, q4, q5, q6⟩
      obtain ⟨t, ht, -⟩ := State.frames_cons hr
      show ({ U with heap := s₂.heap, slotsUsed := s₂.slotsUsed } : State) = { U.setFrames U.frames with heap := s₂.heap, slotsUsed := s₂.slotsUsed }
      rw [State.setFrames_self ht]
    subst hg
    refine Or.inl ⟨v, ⟨(({ U with heap := s₂.heap, slotsUsed := s₂.slotsUsed } : State).setVm s₂.vm), Ls ++ L, c0 + mc, s0 + ms⟩,
      ⟨X.admits, X.cas, X.clock, X.frames, X.room, X.hears, X.method, X.code, (X.here.setHeapUsed s₂.heap s₂.slotsUsed).setVm hW'.alike, X.tail, State.WarmedH.trans X.warmed hW', X.limits, X.bytes, X.same.trans (hsame.setVm s.vm)⟩,
      ⟨g, mk, s₂, L, rfl, rfl, hqc, rfl, hL, rfl, rfl⟩, ?_⟩
    show Steps p.tables e below _ ((({ U with heap := s₂.heap, slotsUsed := s₂.slotsUsed } : State).setVm s₂.vm).setTop { g with pc := g.pc + len₂, stack := v.toList ++ g.stack })
    rw [← hs₂]
    exact hsteps
  · obtain ⟨e2, q2, q3, q4, q5, q6⟩ := id hsm
    have e3 : s₂ = ({ (U.calling g mk a).setFrames s₂.frames with heap := s₂.heap, slotsUsed := s₂.slotsUsed } : State).setVm s₂.vm := by
      have : s₂ = ({ s₂ with vm := (U.calling g mk a).vm } : State).setVm s₂.vm := rfl
      rw [e2] at this
      exact this
    have hf₂ : s₂.frames = .throwing q :: .java g :: U.frames.tail := hend
    have hW' : U.WarmedH s₂.vm := hW₂
    have hs₂ : s₂ = ((({ U with heap := s₂.heap, slotsUsed := s₂.slotsUsed } : State).setVm s₂.vm).setTop g).pushFrame (.throwing q) := by
      refine e3.trans ?_
      rw [hf₂, State.calling_eq h.top, State.setFrames_setFrames, State.pushFrame, State.frames_setTop _ hr', State.setTop_of_frames _ hr', State.setFrames_setFrames, hr]
      rfl
    have hsame : U.sameButNew ({ U with heap := s₂.heap, slotsUsed := s₂.slotsUsed } : State) L mc ms := by
      refine ⟨?_, q2, q3, q4, q5, q6⟩
      obtain ⟨t, ht, -⟩ := State.frames_cons hr
      show ({ U with heap := s₂.heap, slotsUsed := s₂.slotsUsed } : State) = { U.setFrames U.frames with heap := s₂.heap, slotsUsed := s₂.slotsUsed }
      rw [State.setFrames_self ht]
    subst hg
    refine Or.inr ⟨q, ⟨(({ U with heap := s₂.heap, slotsUsed := s₂.slotsUsed } : State).setVm s₂.vm), Ls ++ L, c0 + mc, s0 + ms⟩,
      ⟨X.admits, X.cas, X.clock, X.frames, X.room, X.hears, X.method, X.code, (X.here.setHeapUsed s₂.heap s₂.slotsUsed).setVm hW'.alike, X.tail, State.WarmedH.trans X.warmed hW', X.limits, X.bytes, X.same.trans (hsame.setVm s.vm)⟩,
      ⟨g, mk, s₂, L, E, ce, rfl, rfl, hx, hce, hcv, hcl, rfl, hL, rfl, rfl⟩, ?_⟩
    show Steps p.tables e below _ (((({ U with heap := s₂.heap, slotsUsed := s₂.slotsUsed } : State).setVm s₂.vm).setTop g).pushFrame (.throwing q))
    rw [← hs₂]
    exact hsteps
end
variable {p : Program} {l : Launch} {e : Env} {R : Room} {s : State} {m : MethodId} {args : Array Value} {below : List Frame} {meth : Method} {c : Code} {T : State} {H : Heap} {locs : List Loc} {cells slots : Nat}
theorem vx_callVX (X : Stand p l e R s m args below meth c T locs cells slots) (hexec : p.tables.exec = Jvm.exec) {own C : String} {index : Nat} {y : MethodName} {bytes : ByteArray} {maxL : Nat} {ret : Option FieldType} {hh : List (Nat × Nat × Nat × Nat)}
    (hown : s.vm.findClass own = some m.cls) (hlink : (Cond.methodLink own index y).before args s = true) (hinst : (Cond.instanceMethod y).before args s = true) (hsel : (Cond.selects C y y).before args s = true)
    (hcode : (Cond.codeWith y bytes maxL ret hh).before args s = true) (hy : y.cls ≠ "java/lang/invoke/MethodHandle" ∧ y.cls ≠ "java/lang/invoke/VarHandle")
    {W9 : Nat} {Pre : Pt → Array Value → Prop} {Post : Pt → Array Value → Option Value → Pt → Prop} {PostX : Pt → Array Value → Addr → Pt → Prop} (hK : vx_Back l R p e below s args y 3 W9 Pre Post PostX)
    {b : Addr} {cellB : Cell} (hcell : T.heap[b]? = some cellB) (hobj : cellB.vm.isStatics = false) (hcls : s.vm.findClass C = some cellB.cls)
    {g : JFrame} (hg : g.method = m) (hsize : g.locals.size = c.maxLocals) {argsL rest : List Value} (hlen : ∀ sig, parseMethodDescriptor y.desc = some sig → argsL.length = sig.parameters.length)
    (hstack : g.stack = argsL.reverse ++ .ref b :: rest) (hW : 2 * g.monitorRoom + (rest.map fun v => v.category).sum ≤ W9) (hdg : decode c.code g.pc = .ok (.invokevirtual index, 3))
    (hpre : ∀ vm₁, s.WarmedH vm₁ → Pre ⟨T.setVm vm₁, locs, cells, slots⟩ (Value.ref b :: argsL).toArray) :
    (∃ (v : Option Value) (vm₁ : Vm) (B : Pt), s.WarmedH vm₁ ∧ Stand p l e R s m args below meth c B.U B.locs B.cells B.slots ∧ Post ⟨T.setVm vm₁, locs, cells, slots⟩ (Value.ref b :: argsL).toArray v B ∧
      ∀ target, Steps p.tables e below (B.U.setTop { g with pc := g.pc + 3, stack := v.toList ++ rest }) target → Steps p.tables e below (T.setTop g) target) ∨
    (∃ (q : Addr) (vm₁ : Vm) (B : Pt), s.WarmedH vm₁ ∧ Stand p l e R s m args below meth c B.U B.locs B.cells B.slots ∧ PostX ⟨T.setVm vm₁, locs, cells, slots⟩ (Value.ref b :: argsL).toArray q B ∧
      Steps p.tables e below (T.setTop g) ((B.U.setTop { g with stack := rest }).pushFrame (.throwing q))) := by
  obtain ⟨mk, methM, hnamed, hmethM, hstM, habM⟩ := Cond.instanceMethod_spec hinst
  obtain ⟨m8, methM', cM, hn8, hmethM', -, -, -, -, -, -, hsigM⟩ := Cond.codeWith_spec hcode
  cases Option.some.inj (hn8.symm.trans hnamed)
  cases hmethM.symm.trans hmethM'
  obtain ⟨c2, r2, m2, q1, q2, q3, q4, kP, hkP, hkPi⟩ := Cond.selects_spec hsel
  cases hcls.symm.trans q1
  cases (State.methodFound?_of_named hnamed hy).symm.trans q2
  cases hnamed.symm.trans q3
  have hselP : selectMethod e.platform s.vm cellB.cls mk = .method mk := by rw [Launch.admits_selectMethod X.admits]; exact q4
  obtain ⟨vm₁, X₁, hstep₁⟩ := X.invokevirtual hexec hown hlink hnamed hmethM hstM hkP hkPi hy (a := b) (cell := cellB) hcell
    (fun z h => by rw [h] at hobj; cases hobj) hselP hmethM habM hkP hkPi (g := g) hg (argsL := argsL) (rest := rest) (hlen _ hsigM) hstack hdg
  rcases hK m meth c ⟨T.setVm vm₁, locs, cells, slots⟩ { g with stack := rest } (.invokevirtual index) mk (Value.ref b :: argsL).toArray X₁ hg hsize hdg hW (X₁.named hnamed) (hpre vm₁ X₁.warmed) with ⟨v, B, X', hpost, hsteps⟩ | ⟨q, B, X', hpost, hsteps⟩
  · exact Or.inl ⟨v, vm₁, B, X₁.warmed, X', hpost, fun target h => hstep₁ _ fun acts => by rw [doInvoke_state]; exact hsteps.trans h⟩
  · exact Or.inr ⟨q, vm₁, B, X₁.warmed, X', hpost, hstep₁ _ fun acts => by rw [doInvoke_state]; exact hsteps⟩
theorem vx_callSX (X : Stand p l e R s m args below meth c T locs cells slots) (hexec : p.tables.exec = Jvm.exec) {own : String} {index : Nat} {y : MethodName} {bytes : ByteArray} {maxL : Nat} {ret : Option FieldType} {hh : List (Nat × Nat × Nat × Nat)}
    (hown : s.vm.findClass own = some m.cls) (hlink : (Cond.methodLink own index y).before args s = true) (hstat : (Cond.static y).before args s = true) (hinit : (Cond.initialized y.cls).before args s = true)
    (hcode : (Cond.codeWith y bytes maxL ret hh).before args s = true) (hy : y.cls ≠ "java/lang/invoke/MethodHandle" ∧ y.cls ≠ "java/lang/invoke/VarHandle")
    {W9 : Nat} {Pre : Pt → Array Value → Prop} {Post : Pt → Array Value → Option Value → Pt → Prop} {PostX : Pt → Array Value → Addr → Pt → Prop} (hK : vx_Back l R p e below s args y 3 W9 Pre Post PostX)
    {g : JFrame} (hg : g.method = m) (hsize : g.locals.size = c.maxLocals) {argsL rest : List Value} (hlen : ∀ sig, parseMethodDescriptor y.desc = some sig → argsL.length = sig.parameters.length)
    (hstack : g.stack = argsL.reverse ++ rest) (hW : 2 * g.monitorRoom + (rest.map fun v => v.category).sum ≤ W9) (hdg : decode c.code g.pc = .ok (.invokestatic index, 3))
    (hpre : ∀ vm₁, s.WarmedH vm₁ → Pre ⟨T.setVm vm₁, locs, cells, slots⟩ argsL.toArray) :
    (∃ (v : Option Value) (vm₁ : Vm) (B : Pt), s.WarmedH vm₁ ∧ Stand p l e R s m args below meth c B.U B.locs B.cells B.slots ∧ Post ⟨T.setVm vm₁, locs, cells, slots⟩ argsL.toArray v B ∧
      ∀ target, Steps p.tables e below (B.U.setTop { g with pc := g.pc + 3, stack := v.toList ++ rest }) target → Steps p.tables e below (T.setTop g) target) ∨
    (∃ (q : Addr) (vm₁ : Vm) (B : Pt), s.WarmedH vm₁ ∧ Stand p l e R s m args below meth c B.U B.locs B.cells B.slots ∧ PostX ⟨T.setVm vm₁, locs, cells, slots⟩ argsL.toArray q B ∧
      Steps p.tables e below (T.setTop g) ((B.U.setTop { g with stack := rest }).pushFrame (.throwing q))) := by
  obtain ⟨mk, methM, cM, hnamed, hmethM, -, -, -, -, -, -, hsigM⟩ := Cond.codeWith_spec hcode
  have hstatic : methM.isStatic = true := Cond.static_spec hnamed hmethM hstat
  obtain ⟨kP, hkP, -⟩ := className_of_methodNamed hnamed
  have hinitP : kP.init = .initialized := Cond.initialized_spec (findClass_of_methodNamed hnamed) hkP hinit
  obtain ⟨vm₁, X₁, hstep₁⟩ := X.invokestatic hexec hown hlink hnamed hmethM hstatic hkP hinitP hy (g := g) hg (argsL := argsL) (rest := rest) (hlen _ hsigM) hstack hdg
  rcases hK m meth c ⟨T.setVm vm₁, locs, cells, slots⟩ { g with stack := rest } (.invokestatic index) mk argsL.toArray X₁ hg hsize hdg hW (X₁.named hnamed) (hpre vm₁ X₁.warmed) with ⟨v, B, X', hpost, hsteps⟩ | ⟨q, B, X', hpost, hsteps⟩
  · exact Or.inl ⟨v, vm₁, B, X₁.warmed, X', hpost, fun target h => hstep₁ _ fun acts => by rw [doInvoke_state]; exact hsteps.trans h⟩
  · exact Or.inr ⟨q, vm₁, B, X₁.warmed, X', hpost, hstep₁ _ fun acts => by rw [doInvoke_state]; exact hsteps⟩
theorem vx_callVW (X : Stand p l e R s m args below meth c T locs cells slots) (hexec : p.tables.exec = Jvm.exec) {own C : String} {index : Nat} {y : MethodName} {bytes : ByteArray} {maxL : Nat} {ret : Option FieldType} {hh : List (Nat × Nat × Nat × Nat)}
    (hown : s.vm.findClass own = some m.cls) (hlink : (Cond.methodLink own index y).before args s = true) (hinst : (Cond.instanceMethod y).before args s = true) (hsel : (Cond.selects C y y).before args s = true)
    (hcode : (Cond.codeWith y bytes maxL ret hh).before args s = true) (hy : y.cls ≠ "java/lang/invoke/MethodHandle" ∧ y.cls ≠ "java/lang/invoke/VarHandle")
    {W9 : Nat} {Pre : Pt → Array Value → Prop} {Post : Pt → Array Value → Option Value → Pt → Prop} (hK : Back l R p e below s args y 3 W9 Pre Post)
    {b : Addr} {cellB : Cell} (hcell : T.heap[b]? = some cellB) (hobj : cellB.vm.isStatics = false) (hcls : s.vm.findClass C = some cellB.cls)
    {g : JFrame} (hg : g.method = m) (hsize : g.locals.size = c.maxLocals) {argsL rest : List Value} (hlen : ∀ sig, parseMethodDescriptor y.desc = some sig → argsL.length = sig.parameters.length)
    (hstack : g.stack = argsL.reverse ++ .ref b :: rest) (hW : 2 * g.monitorRoom + (rest.map fun v => v.category).sum ≤ W9) (hdg : decode c.code g.pc = .ok (.invokevirtual index, 3))
    (hpre : ∀ vm₁, s.WarmedH vm₁ → Pre ⟨T.setVm vm₁, locs, cells, slots⟩ (Value.ref b :: argsL).toArray) :
    ∃ (v : Option Value) (vm₁ : Vm) (B : Pt), s.WarmedH vm₁ ∧ Stand p l e R s m args below meth c B.U B.locs B.cells B.slots ∧ Post ⟨T.setVm vm₁, locs, cells, slots⟩ (Value.ref b :: argsL).toArray v B ∧
      ∀ target, Steps p.tables e below (B.U.setTop { g with pc := g.pc + 3, stack := v.toList ++ rest }) target → Steps p.tables e below (T.setTop g) target := by
  obtain ⟨mk, methM, hnamed, hmethM, hstM, habM⟩ := Cond.instanceMethod_spec hinst
  obtain ⟨m8, methM', cM, hn8, hmethM', -, -, -, -, -, -, hsigM⟩ := Cond.codeWith_spec hcode
  cases Option.some.inj (hn8.symm.trans hnamed)
  cases hmethM.symm.trans hmethM'
  obtain ⟨c2, r2, m2, q1, q2, q3, q4, kP, hkP, hkPi⟩ := Cond.selects_spec hsel
  cases hcls.symm.trans q1
  cases (State.methodFound?_of_named hnamed hy).symm.trans q2
  cases hnamed.symm.trans q3
  have hselP : selectMethod e.platform s.vm cellB.cls mk = .method mk := by rw [Launch.admits_selectMethod X.admits]; exact q4
  obtain ⟨vm₁, X₁, hstep₁⟩ := X.invokevirtual hexec hown hlink hnamed hmethM hstM hkP hkPi hy (a := b) (cell := cellB) hcell
    (fun z h => by rw [h] at hobj; cases hobj) hselP hmethM habM hkP hkPi (g := g) hg (argsL := argsL) (rest := rest) (hlen _ hsigM) hstack hdg
  obtain ⟨v, B, X', hpost, hsteps⟩ := hK m meth c ⟨T.setVm vm₁, locs, cells, slots⟩ { g with stack := rest } (.invokevirtual index) mk (Value.ref b :: argsL).toArray X₁ hg hsize hdg hW (X₁.named hnamed) (hpre vm₁ X₁.warmed)
  exact ⟨v, vm₁, B, X₁.warmed, X', hpost, fun target h => hstep₁ _ fun acts => by rw [doInvoke_state]; exact hsteps.trans h⟩
abbrev vx_CVW (R : Room) (s : State) (args : Array Value) (own C : String) (index : Nat) (y : MethodName) (bytes : ByteArray) (maxL : Nat) (ret : Option FieldType) (hh : List (Nat × Nat × Nat × Nat)) (ws : List Cond) (rm : Room) (mc ms n : Nat) : Prop :=
  (rm.cells = mc ∧ rm.slots = ms ∧ rm.frames + 1 ≤ R.frames ∧ 8 + (maxL + 11) + rm.locals ≤ R.locals ∧ (∀ w ∈ ws, ∀ (a' : Array Value) (U : State), s.WarmedH U.vm → w.before a' U = true) ∧ Cond.codeWith y bytes maxL ret hh ∈ ws) ∧
  (Cond.codeWith y bytes maxL ret hh).before args s = true ∧ (Cond.initialized y.cls).before args s = true ∧ (y.cls ≠ "java/lang/invoke/MethodHandle" ∧ y.cls ≠ "java/lang/invoke/VarHandle") ∧
  (∀ sig, parseMethodDescriptor y.desc = some sig → n = sig.parameters.length) ∧ (Cond.methodLink own index y).before args s = true ∧ (Cond.instanceMethod y).before args s = true ∧ (Cond.selects C y y).before args s = true
theorem vx_cwVW {own C : String} {index maxL mc ms : Nat} {y : MethodName} {bytes : ByteArray} {ret : Option FieldType} {hh : List (Nat × Nat × Nat × Nat)} {Ts ws ws' : List Cond} {rm : Room} (n : Nat) (ht : ∀ w ∈ Ts, w.before args s = true) (hT : GoodIn Ts (wsV own index C y ws)) (hw : ws = Cond.codeWith y bytes maxL ret hh :: ws') (hrc : rm.cells = mc) (hrs : rm.slots = ms)
    (hd : y.cls = C ∧ y.cls ≠ "java/lang/invoke/MethodHandle" ∧ y.cls ≠ "java/lang/invoke/VarHandle" ∧ (parseMethodDescriptor y.desc).map (fun d => d.parameters.length) = some n) (hR : rm.frames + 1 ≤ R.frames ∧ 8 + (maxL + 11) + rm.locals ≤ R.locals) :
    vx_CVW R s args own C index y bytes maxL ret hh ws rm mc ms n := by
  obtain ⟨hC, hd⟩ := hd
  subst hC
  have ok : ∀ w ∈ wsV own index y.cls y ws, w.before args s = true := fun w h => ht w (hT w h).1
  have hG : GoodIn Ts ws := fun w h => hT w (by unfold wsV; exact List.mem_append_right _ h)
  have hc : Cond.codeWith y bytes maxL ret hh ∈ ws := by rw [hw]; exact List.mem_cons_self
  refine ⟨⟨hrc, hrs, hR.1, hR.2, pay_in ht hG, hc⟩, ht _ (hG _ hc).1, ok _ (by simp [wsV]), ⟨hd.1, hd.2.1⟩, fun sig h => ?_, ok _ (by simp [wsV]), ok _ (by simp [wsV]), ok _ (by simp [wsV])⟩
  have h2 := hd.2.2
  rw [h] at h2
  exact (Option.some.inj h2).symm
theorem vx_runVW {y : MethodName} {bytes cc : ByteArray} {maxL nL mc ms n index : Nat} {ret : Option FieldType} {hh : List (Nat × Nat × Nat × Nat)} {ws : List Cond} {rm : Room} {Pc : Array Value → State → Prop} {Qc : Array Value → State → Outcome → State → Prop} {free : Addr → Prop} {Ts : List Cond} {own C : String} {b : Addr} {As rest : List Value} {g : JFrame}
    (S : CallFix p m c cc nL s args Ts own) (hM : Met l y ws rm Pc Qc mc ms free) (cw : vx_CVW R s args own C index y bytes maxL ret hh ws rm mc ms n) (hp : PreV s H C b Pc As)
    (hg : g.method = m) (hn : As.length = n) (hsize : g.locals.size = nL) (hstack : g.stack = As.reverse ++ .ref b :: rest) (hW : 2 * g.monitorRoom + (rest.map fun v => v.category).sum ≤ 8) (hdg : decode cc g.pc = .ok (.invokevirtual index, 3)) (hf : cells + mc ≤ R.cells ∧ slots + ms ≤ R.slots) :
    va_Run p l e R s m args below meth c H locs cells slots mc ms g rest (Qc (Value.ref b :: As).toArray) free := by
  obtain ⟨⟨hrc, hrs, hfr, hlo, hws, hcw⟩, hcode, hini, hy, hlen, hl, hin, hse⟩ := cw
  have hK : Back l R p e below s args y 3 8 (PreOf R mc ms Pc) (PostOf Qc mc ms free) := va_backW (hh := hh) (bytes := bytes) (maxL := maxL) (ret := ret) hM hp.1 hrc hrs hfr hlo hws hcw (fun a' U hW => word_at hW (Or.inl (by first | rfl | simp [Cond.onTables, Cond.keeps, Cond.steady])) hini)
  obtain ⟨hx, hb, hml, ho, -⟩ := S
  obtain ⟨-, ⟨cellB, hcB, hoB, hclB⟩, hPc⟩ := hp
  intro T hT X
  obtain ⟨v, vm₁, ⟨U', l2, c2, s2⟩, hW₁, X', ⟨g', mk, t, L, e1, e2, hq, h1, hL, h2, h3⟩, st⟩ := vx_callVW X hx (C := C) (hh := hh) (bytes := bytes) (maxL := maxL) (ret := ret) ho hl hin hse hcode hy hK (by rw [hT]; exact hcB) hoB hclB hg (hsize.trans hml.symm) (argsL := As) (rest := rest) (fun sig h => hn.trans (hlen sig h)) hstack hW (by rw [hb]; exact hdg)
    (fun vm₁ hW₁ => ⟨hf.1, hf.2, hPc (T.setVm vm₁) hT hW₁⟩)
  dsimp only [Pt.U, Pt.locs, Pt.cells, Pt.slots] at X' e1 e2 h1 h2 h3 st
  subst h1; subst h2; subst h3
  exact ⟨v, (T.setVm vm₁).calling g' mk (Value.ref b :: As).toArray, t, U', L, hT, X', hL, e1, e2, hq, st⟩
section
variable {y : MethodName} {bytes cc : ByteArray} {maxL nL mc ms n index : Nat} {ret : Option FieldType} {ws : List Cond} {rm : Room} {Pc : Array Value → State → Prop} {Qc : Array Value → State → Outcome → State → Prop} {XC : String → State → State → Prop} {free : Addr → Prop} {Ts : List Cond} {own C : String} {b : Addr} {As rest : List Value} {g : JFrame}
theorem vx_runVX {hh : List (Nat × Nat × Nat × Nat)} (S : CallFix p m c cc nL s args Ts own) (hM : vx_Met l y ws rm Pc Qc XC mc ms free) (cw : vx_CVW R s args own C index y bytes maxL ret hh ws rm mc ms n) (hp : PreV s H C b Pc As)
    (hg : g.method = m) (hn : As.length = n) (hsize : g.locals.size = nL) (hstack : g.stack = As.reverse ++ .ref b :: rest) (hW : 2 * g.monitorRoom + (rest.map fun v => v.category).sum ≤ 8) (hdg : decode cc g.pc = .ok (.invokevirtual index, 3)) (hf : cells + mc ≤ R.cells ∧ slots + ms ≤ R.slots) :
    vx_Run p l e R s m args below meth c H locs cells slots mc ms g rest (Qc (Value.ref b :: As).toArray) XC free := by
  obtain ⟨⟨hrc, hrs, hfr, hlo, hws, hcw⟩, hcode, hini, hy, hlen, hl, hin, hse⟩ := cw
  have hK : vx_Back l R p e below s args y 3 8 (PreOf R mc ms Pc) (PostOf Qc mc ms free) (vx_Post XC mc ms free) := vx_backW (hh := hh) (bytes := bytes) (maxL := maxL) (ret := ret) hM hp.1 hrc hrs hfr hlo hws hcw (fun a' U hW => word_at hW (Or.inl (by first | rfl | simp [Cond.onTables, Cond.keeps, Cond.steady])) hini)
  obtain ⟨hx, hb, hml, ho, -⟩ := S
  obtain ⟨-, ⟨cellB, hcB, hoB, hclB⟩, hPc⟩ := hp
  intro T hT X
  rcases vx_callVX X hx (C := C) (hh := hh) (bytes := bytes) (maxL := maxL) (ret := ret) ho hl hin hse hcode hy hK (by rw [hT]; exact hcB) hoB hclB hg (hsize.trans hml.symm) (argsL := As) (rest := rest) (fun sig h => hn.trans (hlen sig h)) hstack hW (by rw [hb]; exact hdg)
    (fun vm₁ hW₁ => ⟨hf.1, hf.2, hPc (T.setVm vm₁) hT hW₁⟩) with ⟨v, vm₁, ⟨U', l2, c2, s2⟩, hW₁, X', ⟨g', mk, t, L, e1, e2, hq, h1, hL, h2, h3⟩, st⟩ | ⟨q, vm₁, ⟨U', l2, c2, s2⟩, hW₁, X', ⟨g', mk, t, L, E, ce, e1, e2, hq, hce, hcv, hcl, h1, hL, h2, h3⟩, st⟩
  · dsimp only [Pt.U, Pt.locs, Pt.cells, Pt.slots] at X' e1 e2 h1 h2 h3 st
    subst h1; subst h2; subst h3
    exact Or.inl ⟨v, (T.setVm vm₁).calling g' mk (Value.ref b :: As).toArray, t, U', L, hT, X', hL, e1, e2, hq, st⟩
  · dsimp only [Pt.U, Pt.locs, Pt.cells, Pt.slots] at X' e1 e2 h1 h2 h3 st hcl
    subst h1; subst h2; subst h3
    exact Or.inr ⟨q, (T.setVm vm₁).calling g' mk (Value.ref b :: As).toArray, t, U', L, E, ce, hT, X', hL, e1, e2, hq, hce, hcv, vx_cls hW₁ hcl, st⟩
theorem vx_runSX {hh : List (Nat × Nat × Nat × Nat)} (S : CallFix p m c cc nL s args Ts own) (hM : vx_Met l y ws rm Pc Qc XC mc ms free) (cw : vx_CSW R s args own index y bytes maxL ret hh ws rm mc ms n) (hp : PreS s H Pc As)
    (hg : g.method = m) (hn : As.length = n) (hsize : g.locals.size = nL) (hstack : g.stack = As.reverse ++ rest) (hW : 2 * g.monitorRoom + (rest.map fun v => v.category).sum ≤ 8) (hdg : decode cc g.pc = .ok (.invokestatic index, 3)) (hf : cells + mc ≤ R.cells ∧ slots + ms ≤ R.slots) :
    vx_Run p l e R s m args below meth c H locs cells slots mc ms g rest (Qc As.toArray) XC free := by
  obtain ⟨⟨hrc, hrs, hfr, hlo, hws, hcw⟩, hcode, hini, hy, hlen, hl, hstt⟩ := cw
  have hK : vx_Back l R p e below s args y 3 8 (PreOf R mc ms Pc) (PostOf Qc mc ms free) (vx_Post XC mc ms free) := vx_backW (hh := hh) (bytes := bytes) (maxL := maxL) (ret := ret) hM hp.1 hrc hrs hfr hlo hws hcw (fun a' U hW => word_at hW (Or.inl (by first | rfl | simp [Cond.onTables, Cond.keeps, Cond.steady])) hini)
  obtain ⟨hx, hb, hml, ho, -⟩ := S
  intro T hT X
  rcases vx_callSX X hx (hh := hh) (bytes := bytes) (maxL := maxL) (ret := ret) ho hl hstt hini hcode hy hK hg (hsize.trans hml.symm) (argsL := As) (rest := rest) (fun sig h => hn.trans (hlen sig h)) hstack hW (by rw [hb]; exact hdg)
    (fun vm₁ hW₁ => ⟨hf.1, hf.2, hp.2 (T.setVm vm₁) hT hW₁⟩) with ⟨v, vm₁, ⟨U', l2, c2, s2⟩, hW₁, X', ⟨g', mk, t, L, e1, e2, hq, h1, hL, h2, h3⟩, st⟩ | ⟨q, vm₁, ⟨U', l2, c2, s2⟩, hW₁, X', ⟨g', mk, t, L, E, ce, e1, e2, hq, hce, hcv, hcl, h1, hL, h2, h3⟩, st⟩
  · dsimp only [Pt.U, Pt.locs, Pt.cells, Pt.slots] at X' e1 e2 h1 h2 h3 st
    subst h1; subst h2; subst h3
    exact Or.inl ⟨v, (T.setVm vm₁).calling g' mk As.toArray, t, U', L, hT, X', hL, e1, e2, hq, st⟩
  · dsimp only [Pt.U, Pt.locs, Pt.cells, Pt.slots] at X' e1 e2 h1 h2 h3 st hcl
    subst h1; subst h2; subst h3
    exact Or.inr ⟨q, (T.setVm vm₁).calling g' mk As.toArray, t, U', L, E, ce, hT, X', hL, e1, e2, hq, hce, hcv, vx_cls hW₁ hcl, st⟩
end
end VXH
theorem vx_ofWH {l : Launch} {y : MethodName} {ws ws' : List Cond} {rm : Room} {Pc : Array Value → State → Prop} {Qc : Array Value → State → Outcome → State → Prop} {XC : String → State → State → Prop} {mc ms : Nat} {free : Addr → Prop} {cc : ByteArray} {maxL : Nat} {ret : Option FieldType} {hh : List (Nat × Nat × Nat × Nat)}
    (hy : plainName y.cls = true) (hw : ws = Cond.codeWith y cc maxL ret hh :: ws')
    (body : ∀ p e s m args below meth c s₁, BodyLoose p l y (headSpec ws rm) cc maxL ret e s m args below meth c s₁ → c.maxLocals = maxL → Pc args s →
      W p l e (headSpec ws rm).room s m args below meth c s.heap [] 0 0 (vx_MQ below Qc XC args s mc ms free) (entryFrame m args maxL)) : vx_Met l y ws rm Pc Qc XC mc ms free := by
  refine MetFree.of_bodyS (code := cc) (maxLocals := maxL) (ret := ret) hy ?_ ?_
  · intro args s m h hn
    obtain ⟨m9, meth, c, hn9, h1, h2, h3, h4, -, h5, h6, -⟩ := Cond.codeWith_spec (atoms_spec (ws := ws) h _ (by rw [hw]; exact List.mem_cons_self))
    cases hn.symm.trans hn9
    exact ⟨meth, c, h1, h2, h3, h4, h5, h6⟩
  · intro p e s m args below meth c s₁ B hml hP _
    have hh0 : s₁.heap = s.heap := by rw [B.state]; rfl
    obtain ⟨t, a1, o, b1, b2, b3⟩ := body p e s m args below meth c s₁ B hml hP s₁ hh0 (Stand.of_body B)
    exact ⟨t, o, a1, b1, b2, b3⟩
/-! ===== END ===== -/
end
section
/-! ===== BEGIN printed: names, fields, word lists, decode rows ===== -/
def RX0 : String := "WireLamps$History"
def TX0 : u_T := fun k => match k with
  | 0 => ("WireLamps$History", "states", "[LWireLamps$State;", true)
  | _ => ("WireLamps$History", "size", "I", false)
def tyX0 : Nat → FieldType := fun k => match k with
  | 0 => .array (.object "WireLamps$State")
  | _ => .int
abbrev wsX00 : List Cond := u_ws RX0 TX0 2
theorem nmX0 : ∀ a, a < 2 → ∀ b, b < 2 → a ≠ b → (TX0 a).2.1 ≠ (TX0 b).2.1 := by decide +kernel
theorem tyX0_ok : ∀ k, k < 2 → parseFieldDescriptor (TX0 k).2.2.1 = some (tyX0 k) := by decide +kernel
abbrev cX0_init : ByteArray := prog_2_method_1_code
def yX0_init : MethodName := ⟨RX0, "<init>", "()V"⟩
abbrev cX0_save : ByteArray := prog_2_method_2_code
def yX0_save : MethodName := ⟨RX0, "save", "(LWireLamps$State;)V"⟩
abbrev cX0_dropOldest : ByteArray := prog_2_method_3_code
def yX0_dropOldest : MethodName := ⟨RX0, "dropOldest", "()V"⟩
abbrev cX0_latest : ByteArray := prog_2_method_4_code
def yX0_latest : MethodName := ⟨RX0, "latest", "()LWireLamps$State;"⟩
abbrev cX0_forgetLatest : ByteArray := prog_2_method_5_code
def yX0_forgetLatest : MethodName := ⟨RX0, "forgetLatest", "()V"⟩
def RX1 : String := "WireLamps$Journey"
def TX1 : u_T := fun k => match k with
  | 0 => ("WireLamps$Journey", "came", "[I", true)
  | 1 => ("WireLamps$Journey", "words", "[I", true)
  | 2 => ("WireLamps$Journey", "taken", "I", false)
  | 3 => ("WireLamps$Journey", "pulses", "[I", true)
  | 4 => ("WireLamps$Journey", "first", "I", false)
  | _ => ("WireLamps$Journey", "end", "I", false)
def tyX1 : Nat → FieldType := fun k => match k with
  | 0 => .array .int
  | 1 => .array .int
  | 2 => .int
  | 3 => .array .int
  | 4 => .int
  | _ => .int
abbrev wsX10 : List Cond := u_ws RX1 TX1 6
theorem nmX1 : ∀ a, a < 6 → ∀ b, b < 6 → a ≠ b → (TX1 a).2.1 ≠ (TX1 b).2.1 := by decide +kernel
theorem tyX1_ok : ∀ k, k < 6 → parseFieldDescriptor (TX1 k).2.2.1 = some (tyX1 k) := by decide +kernel
abbrev cX1_init : ByteArray := prog_3_method_1_code
def yX1_init : MethodName := ⟨RX1, "<init>", "()V"⟩
abbrev cX1_goThrough : ByteArray := prog_3_method_2_code
def yX1_goThrough : MethodName := ⟨RX1, "goThrough", "(LWireLamps$State;)V"⟩
abbrev cX1_passWire : ByteArray := prog_3_method_3_code
def yX1_passWire : MethodName := ⟨RX1, "passWire", "(I)V"⟩
abbrev cX1_passTaker : ByteArray := prog_3_method_4_code
def yX1_passTaker : MethodName := ⟨RX1, "passTaker", "(LWireLamps$State;I)V"⟩
abbrev cX1_takeWord : ByteArray := prog_3_method_5_code
def yX1_takeWord : MethodName := ⟨RX1, "takeWord", "(LWireLamps$State;)I"⟩
def RX2 : String := "WireLamps$State"
def TX2 : u_T := fun k => match k with
  | 0 => ("WireLamps$State", "modes", "[I", true)
  | 1 => ("WireLamps$State", "losses", "[I", true)
  | 2 => ("WireLamps$State", "known", "[I", true)
  | 3 => ("WireLamps$State", "shining", "[I", true)
  | 4 => ("WireLamps$State", "came", "[I", true)
  | 5 => ("WireLamps$State", "settings", "[I", true)
  | 6 => ("WireLamps$State", "pulses", "[I", true)
  | 7 => ("WireLamps$State", "pulseCount", "I", false)
  | 8 => ("WireLamps$State", "gaps", "I", false)
  | 9 => ("WireLamps$State", "taken", "I", false)
  | 10 => ("WireLamps$State", "lost", "I", false)
  | 11 => ("WireLamps$State", "dropped", "I", false)
  | _ => ("WireLamps$State", "refused", "I", false)
def tyX2 : Nat → FieldType := fun k => match k with
  | 0 => .array .int
  | 1 => .array .int
  | 2 => .array .int
  | 3 => .array .int
  | 4 => .array .int
  | 5 => .array .int
  | 6 => .array .int
  | 7 => .int
  | 8 => .int
  | 9 => .int
  | 10 => .int
  | 11 => .int
  | _ => .int
abbrev wsX20 : List Cond := u_ws RX2 TX2 13
theorem nmX2 : ∀ a, a < 13 → ∀ b, b < 13 → a ≠ b → (TX2 a).2.1 ≠ (TX2 b).2.1 := by decide +kernel
theorem tyX2_ok : ∀ k, k < 13 → parseFieldDescriptor (TX2 k).2.2.1 = some (tyX2 k) := by decide +kernel
abbrev cX2_init : ByteArray := prog_4_method_1_code
def yX2_init : MethodName := ⟨RX2, "<init>", "()V"⟩
abbrev cX2_copyFrom : ByteArray := prog_4_method_2_code
def yX2_copyFrom : MethodName := ⟨RX2, "copyFrom", "(LWireLamps$State;)V"⟩
abbrev cX2_hasRoomFor : ByteArray := prog_4_method_3_code
def yX2_hasRoomFor : MethodName := ⟨RX2, "hasRoomFor", "(I)Z"⟩
abbrev cX2_addPulse : ByteArray := prog_4_method_4_code
def yX2_addPulse : MethodName := ⟨RX2, "addPulse", "(I)V"⟩
abbrev cX2_addWord : ByteArray := prog_4_method_5_code
def yX2_addWord : MethodName := ⟨RX2, "addWord", "(I)V"⟩
abbrev cX2_takesWords : ByteArray := prog_4_method_6_code
def yX2_takesWords : MethodName := ⟨RX2, "takesWords", "(I)Z"⟩
abbrev cX2_isReadAs1 : ByteArray := prog_4_method_7_code
def yX2_isReadAs1 : MethodName := ⟨RX2, "isReadAs1", "(I)Z"⟩
abbrev cX2_handedOn : ByteArray := prog_4_method_8_code
def yX2_handedOn : MethodName := ⟨RX2, "handedOn", "(I)I"⟩
abbrev cX2_lengthFor : ByteArray := prog_4_method_9_code
def yX2_lengthFor : MethodName := ⟨RX2, "lengthFor", "(Z)I"⟩
abbrev cX2_shortened : ByteArray := prog_4_method_10_code
def yX2_shortened : MethodName := ⟨RX2, "shortened", "(II)I"⟩
abbrev cX2_brightnessOf : ByteArray := prog_4_method_11_code
def yX2_brightnessOf : MethodName := ⟨RX2, "brightnessOf", "(II)I"⟩
abbrev cX2_currentWanted : ByteArray := prog_4_method_12_code
def yX2_currentWanted : MethodName := ⟨RX2, "currentWanted", "()I"⟩
abbrev cX2_shown : ByteArray := prog_4_method_13_code
def yX2_shown : MethodName := ⟨RX2, "shown", "(II)I"⟩
abbrev cX2_shownTogether : ByteArray := prog_4_method_14_code
def yX2_shownTogether : MethodName := ⟨RX2, "shownTogether", "()I"⟩
abbrev cX2_lampsThatShine : ByteArray := prog_4_method_15_code
def yX2_lampsThatShine : MethodName := ⟨RX2, "lampsThatShine", "()I"⟩
abbrev cX2_wordsUpTo : ByteArray := prog_4_method_16_code
def yX2_wordsUpTo : MethodName := ⟨RX2, "wordsUpTo", "(I)I"⟩
abbrev cX2_wordByPlace : ByteArray := prog_4_method_17_code
def yX2_wordByPlace : MethodName := ⟨RX2, "wordByPlace", "(I)I"⟩
abbrev cX2_lengthAt : ByteArray := prog_4_method_18_code
def yX2_lengthAt : MethodName := ⟨RX2, "lengthAt", "(II)I"⟩
abbrev cX2_wrongWith : ByteArray := prog_4_method_19_code
def yX2_wrongWith : MethodName := ⟨RX2, "wrongWith", "(III)I"⟩
def RX3 : String := "WireLamps$Text"
def TX3 : u_T := fun k => match k with
  | 0 => ("WireLamps$Text", "signs", "[C", true)
  | _ => ("WireLamps$Text", "length", "I", false)
def tyX3 : Nat → FieldType := fun k => match k with
  | 0 => .array .char
  | _ => .int
abbrev wsX30 : List Cond := u_ws RX3 TX3 2
theorem nmX3 : ∀ a, a < 2 → ∀ b, b < 2 → a ≠ b → (TX3 a).2.1 ≠ (TX3 b).2.1 := by decide +kernel
theorem tyX3_ok : ∀ k, k < 2 → parseFieldDescriptor (TX3 k).2.2.1 = some (tyX3 k) := by decide +kernel
abbrev cX3_init : ByteArray := prog_5_method_1_code
def yX3_init : MethodName := ⟨RX3, "<init>", "()V"⟩
abbrev cX3_add : ByteArray := prog_5_method_2_code
def yX3_add : MethodName := ⟨RX3, "add", "(C)V"⟩
abbrev cX3_empty : ByteArray := prog_5_method_3_code
def yX3_empty : MethodName := ⟨RX3, "empty", "()V"⟩
abbrev cX3_errorPlace : ByteArray := prog_5_method_4_code
def yX3_errorPlace : MethodName := ⟨RX3, "errorPlace", "()I"⟩
abbrev cX3_fits : ByteArray := prog_5_method_5_code
def yX3_fits : MethodName := ⟨RX3, "fits", "(I)Z"⟩
abbrev cX3_wordsTold : ByteArray := prog_5_method_6_code
def yX3_wordsTold : MethodName := ⟨RX3, "wordsTold", "()I"⟩
abbrev cX3_endsWithGap : ByteArray := prog_5_method_7_code
def yX3_endsWithGap : MethodName := ⟨RX3, "endsWithGap", "()Z"⟩
abbrev cX3_wordAt : ByteArray := prog_5_method_8_code
def yX3_wordAt : MethodName := ⟨RX3, "wordAt", "(I)I"⟩
abbrev cX3_signAt : ByteArray := prog_5_method_9_code
def yX3_signAt : MethodName := ⟨RX3, "signAt", "(I)C"⟩
abbrev cX3_digitOf : ByteArray := prog_5_method_10_code
def yX3_digitOf : MethodName := ⟨RX3, "digitOf", "(C)I"⟩
def RX4 : String := "WireLamps"
def TX4 : u_T := fun k => match k with
  | 0 => ("WireLamps", "state", "LWireLamps$State;", true)
  | 1 => ("WireLamps", "journey", "LWireLamps$Journey;", true)
  | 2 => ("WireLamps", "text", "LWireLamps$Text;", true)
  | 3 => ("WireLamps", "history", "LWireLamps$History;", true)
  | _ => ("WireLamps", "slots", "[LWireLamps$State;", true)
def tyX4 : Nat → FieldType := fun k => match k with
  | 0 => .object "WireLamps$State"
  | 1 => .object "WireLamps$Journey"
  | 2 => .object "WireLamps$Text"
  | 3 => .object "WireLamps$History"
  | _ => .array (.object "WireLamps$State")
abbrev wsX40 : List Cond := u_ws RX4 TX4 5
theorem nmX4 : ∀ a, a < 5 → ∀ b, b < 5 → a ≠ b → (TX4 a).2.1 ≠ (TX4 b).2.1 := by decide +kernel
theorem tyX4_ok : ∀ k, k < 5 → parseFieldDescriptor (TX4 k).2.2.1 = some (tyX4 k) := by decide +kernel
abbrev cX4_init : ByteArray := prog_1_method_1_code
def yX4_init : MethodName := ⟨RX4, "<init>", "()V"⟩
abbrev cX4_mode : ByteArray := prog_1_method_2_code
def yX4_mode : MethodName := ⟨RX4, "mode", "(II)I"⟩
abbrev cX4_loss : ByteArray := prog_1_method_3_code
def yX4_loss : MethodName := ⟨RX4, "loss", "(II)I"⟩
abbrev cX4_set : ByteArray := prog_1_method_4_code
def yX4_set : MethodName := ⟨RX4, "set", "(II)I"⟩
abbrev cX4_pulse : ByteArray := prog_1_method_5_code
def yX4_pulse : MethodName := ⟨RX4, "pulse", "(I)I"⟩
abbrev cX4_send : ByteArray := prog_1_method_6_code
def yX4_send : MethodName := ⟨RX4, "send", "(I)I"⟩
abbrev cX4_gap : ByteArray := prog_1_method_7_code
def yX4_gap : MethodName := ⟨RX4, "gap", "()I"⟩
abbrev cX4_drop : ByteArray := prog_1_method_8_code
def yX4_drop : MethodName := ⟨RX4, "drop", "()I"⟩
abbrev cX4_append : ByteArray := prog_1_method_9_code
def yX4_append : MethodName := ⟨RX4, "append", "(I)I"⟩
abbrev cX4_clearBuffer : ByteArray := prog_1_method_10_code
def yX4_clearBuffer : MethodName := ⟨RX4, "clearBuffer", "()I"⟩
abbrev cX4_firstError : ByteArray := prog_1_method_11_code
def yX4_firstError : MethodName := ⟨RX4, "firstError", "()I"⟩
abbrev cX4_load : ByteArray := prog_1_method_12_code
def yX4_load : MethodName := ⟨RX4, "load", "()I"⟩
abbrev cX4_keep : ByteArray := prog_1_method_13_code
def yX4_keep : MethodName := ⟨RX4, "keep", "(I)I"⟩
abbrev cX4_goBack : ByteArray := prog_1_method_14_code
def yX4_goBack : MethodName := ⟨RX4, "goBack", "(I)I"⟩
abbrev cX4_undo : ByteArray := prog_1_method_15_code
def yX4_undo : MethodName := ⟨RX4, "undo", "()I"⟩
abbrev cX4_lampOf : ByteArray := prog_1_method_16_code
def yX4_lampOf : MethodName := ⟨RX4, "lampOf", "(II)I"⟩
abbrev cX4_pulseAt : ByteArray := prog_1_method_17_code
def yX4_pulseAt : MethodName := ⟨RX4, "pulseAt", "(I)I"⟩
abbrev cX4_count : ByteArray := prog_1_method_18_code
def yX4_count : MethodName := ⟨RX4, "count", "(I)I"⟩
abbrev cX4_setting : ByteArray := prog_1_method_19_code
def yX4_setting : MethodName := ⟨RX4, "setting", "(I)I"⟩
abbrev cX4_ifGap : ByteArray := prog_1_method_20_code
def yX4_ifGap : MethodName := ⟨RX4, "ifGap", "(II)I"⟩
abbrev cX4_wrong : ByteArray := prog_1_method_21_code
def yX4_wrong : MethodName := ⟨RX4, "wrong", "(I)I"⟩
abbrev cX4_bears : ByteArray := prog_1_method_22_code
def yX4_bears : MethodName := ⟨RX4, "bears", "(I)I"⟩
abbrev cX4_brokenAt : ByteArray := prog_1_method_23_code
def yX4_brokenAt : MethodName := ⟨RX4, "brokenAt", "()I"⟩
abbrev cX4_wordsTo : ByteArray := prog_1_method_24_code
def yX4_wordsTo : MethodName := ⟨RX4, "wordsTo", "(I)I"⟩
abbrev cX4_brightness : ByteArray := prog_1_method_25_code
def yX4_brightness : MethodName := ⟨RX4, "brightness", "()D"⟩
abbrev cX4_digest : ByteArray := prog_1_method_26_code
def yX4_digest : MethodName := ⟨RX4, "digest", "()J"⟩
abbrev cX4_withLamps : ByteArray := prog_1_method_27_code
def yX4_withLamps : MethodName := ⟨RX4, "withLamps", "(J)J"⟩
abbrev cX4_refuse : ByteArray := prog_1_method_28_code
def yX4_refuse : MethodName := ⟨RX4, "refuse", "()I"⟩
abbrev cX4_letGapBe : ByteArray := prog_1_method_29_code
def yX4_letGapBe : MethodName := ⟨RX4, "letGapBe", "()I"⟩
abbrev cX4_isLamp : ByteArray := prog_1_method_30_code
def yX4_isLamp : MethodName := ⟨RX4, "isLamp", "(I)Z"⟩
abbrev cX4_isSetting : ByteArray := prog_1_method_31_code
def yX4_isSetting : MethodName := ⟨RX4, "isSetting", "(I)Z"⟩
abbrev cX4_isSlot : ByteArray := prog_1_method_32_code
def yX4_isSlot : MethodName := ⟨RX4, "isSlot", "(I)Z"⟩
abbrev cX4_isWord : ByteArray := prog_1_method_33_code
def yX4_isWord : MethodName := ⟨RX4, "isWord", "(I)Z"⟩
abbrev cX4_bitsOf : ByteArray := prog_1_method_34_code
def yX4_bitsOf : MethodName := ⟨RX4, "bitsOf", "(D)J"⟩
def RX5 : String := "WireLampsModel"
def TX5 : u_T := fun k => match k with
  | 0 => ("WireLampsModel", "z", "[I", true)
  | 1 => ("WireLampsModel", "saved", "[I", true)
  | 2 => ("WireLampsModel", "savedMany", "I", false)
  | 3 => ("WireLampsModel", "slots", "[I", true)
  | 4 => ("WireLampsModel", "isKept", "[Z", true)
  | 5 => ("WireLampsModel", "text", "[I", true)
  | 6 => ("WireLampsModel", "length", "I", false)
  | 7 => ("WireLampsModel", "thrown", "I", false)
  | 8 => ("WireLampsModel", "trial", "I", false)
  | 9 => ("WireLampsModel", "told", "[I", true)
  | 10 => ("WireLampsModel", "toldMany", "I", false)
  | 11 => ("WireLampsModel", "hasGap", "Z", false)
  | _ => ("WireLampsModel", "spot", "I", false)
def tyX5 : Nat → FieldType := fun k => match k with
  | 0 => .array .int
  | 1 => .array .int
  | 2 => .int
  | 3 => .array .int
  | 4 => .array .boolean
  | 5 => .array .int
  | 6 => .int
  | 7 => .int
  | 8 => .int
  | 9 => .array .int
  | 10 => .int
  | 11 => .boolean
  | _ => .int
abbrev wsX50 : List Cond := u_ws RX5 TX5 13
theorem nmX5 : ∀ a, a < 13 → ∀ b, b < 13 → a ≠ b → (TX5 a).2.1 ≠ (TX5 b).2.1 := by decide +kernel
theorem tyX5_ok : ∀ k, k < 13 → parseFieldDescriptor (TX5 k).2.2.1 = some (tyX5 k) := by decide +kernel
abbrev cX5_init : ByteArray := prog_7_method_1_code
def yX5_init : MethodName := ⟨RX5, "<init>", "()V"⟩
abbrev cX5_thrown : ByteArray := prog_7_method_2_code
def yX5_thrown : MethodName := ⟨RX5, "thrown", "()I"⟩
abbrev cX5_refused : ByteArray := prog_7_method_3_code
def yX5_refused : MethodName := ⟨RX5, "refused", "(I)Z"⟩
abbrev cX5_in : ByteArray := prog_7_method_4_code
def yX5_in : MethodName := ⟨RX5, "in", "(III)Z"⟩
abbrev cX5_isLamp : ByteArray := prog_7_method_5_code
def yX5_isLamp : MethodName := ⟨RX5, "isLamp", "(I)Z"⟩
abbrev cX5_copyState : ByteArray := prog_7_method_6_code
def yX5_copyState : MethodName := ⟨RX5, "copyState", "([II[II)V"⟩
abbrev cX5_saveState : ByteArray := prog_7_method_7_code
def yX5_saveState : MethodName := ⟨RX5, "saveState", "()V"⟩
abbrev cX5_change : ByteArray := prog_7_method_8_code
def yX5_change : MethodName := ⟨RX5, "change", "(II)I"⟩
abbrev cX5_mode : ByteArray := prog_7_method_9_code
def yX5_mode : MethodName := ⟨RX5, "mode", "(II)I"⟩
abbrev cX5_loss : ByteArray := prog_7_method_10_code
def yX5_loss : MethodName := ⟨RX5, "loss", "(II)I"⟩
abbrev cX5_isValue : ByteArray := prog_7_method_11_code
def yX5_isValue : MethodName := ⟨RX5, "isValue", "(II)Z"⟩
abbrev cX5_set : ByteArray := prog_7_method_12_code
def yX5_set : MethodName := ⟨RX5, "set", "(II)I"⟩
abbrev cX5_pulses : ByteArray := prog_7_method_13_code
def yX5_pulses : MethodName := ⟨RX5, "pulses", "()I"⟩
abbrev cX5_pulseOf : ByteArray := prog_7_method_14_code
def yX5_pulseOf : MethodName := ⟨RX5, "pulseOf", "(II)I"⟩
abbrev cX5_lengthOf : ByteArray := prog_7_method_15_code
def yX5_lengthOf : MethodName := ⟨RX5, "lengthOf", "(I)I"⟩
abbrev cX5_isTaker : ByteArray := prog_7_method_16_code
def yX5_isTaker : MethodName := ⟨RX5, "isTaker", "(I)Z"⟩
abbrev cX5_isCut : ByteArray := prog_7_method_17_code
def yX5_isCut : MethodName := ⟨RX5, "isCut", "(I)Z"⟩
abbrev cX5_takersAhead : ByteArray := prog_7_method_18_code
def yX5_takersAhead : MethodName := ⟨RX5, "takersAhead", "(I)I"⟩
abbrev cX5_comes : ByteArray := prog_7_method_19_code
def yX5_comes : MethodName := ⟨RX5, "comes", "(I)I"⟩
abbrev cX5_arrives : ByteArray := prog_7_method_20_code
def yX5_arrives : MethodName := ⟨RX5, "arrives", "(II)I"⟩
abbrev cX5_takes : ByteArray := prog_7_method_21_code
def yX5_takes : MethodName := ⟨RX5, "takes", "(I)Z"⟩
abbrev cX5_wordBehind : ByteArray := prog_7_method_22_code
def yX5_wordBehind : MethodName := ⟨RX5, "wordBehind", "(I)I"⟩
abbrev cX5_takers : ByteArray := prog_7_method_23_code
def yX5_takers : MethodName := ⟨RX5, "takers", "()I"⟩
abbrev cX5_addPulse : ByteArray := prog_7_method_24_code
def yX5_addPulse : MethodName := ⟨RX5, "addPulse", "(I)V"⟩
abbrev cX5_sendNow : ByteArray := prog_7_method_25_code
def yX5_sendNow : MethodName := ⟨RX5, "sendNow", "(I)V"⟩
abbrev cX5_emptyFrame : ByteArray := prog_7_method_26_code
def yX5_emptyFrame : MethodName := ⟨RX5, "emptyFrame", "()V"⟩
abbrev cX5_gapNow : ByteArray := prog_7_method_27_code
def yX5_gapNow : MethodName := ⟨RX5, "gapNow", "()I"⟩
abbrev cX5_pulse : ByteArray := prog_7_method_28_code
def yX5_pulse : MethodName := ⟨RX5, "pulse", "(I)I"⟩
abbrev cX5_send : ByteArray := prog_7_method_29_code
def yX5_send : MethodName := ⟨RX5, "send", "(I)I"⟩
abbrev cX5_gap : ByteArray := prog_7_method_30_code
def yX5_gap : MethodName := ⟨RX5, "gap", "()I"⟩
abbrev cX5_drop : ByteArray := prog_7_method_31_code
def yX5_drop : MethodName := ⟨RX5, "drop", "()I"⟩
abbrev cX5_append : ByteArray := prog_7_method_32_code
def yX5_append : MethodName := ⟨RX5, "append", "(I)I"⟩
abbrev cX5_clearBuffer : ByteArray := prog_7_method_33_code
def yX5_clearBuffer : MethodName := ⟨RX5, "clearBuffer", "()I"⟩
abbrev cX5_takesSign : ByteArray := prog_7_method_34_code
def yX5_takesSign : MethodName := ⟨RX5, "takesSign", "(I)Z"⟩
abbrev cX5_digit : ByteArray := prog_7_method_35_code
def yX5_digit : MethodName := ⟨RX5, "digit", "(I)I"⟩
abbrev cX5_readWord : ByteArray := prog_7_method_36_code
def yX5_readWord : MethodName := ⟨RX5, "readWord", "()Z"⟩
abbrev cX5_readText : ByteArray := prog_7_method_37_code
def yX5_readText : MethodName := ⟨RX5, "readText", "()Z"⟩
abbrev cX5_firstError : ByteArray := prog_7_method_38_code
def yX5_firstError : MethodName := ⟨RX5, "firstError", "()I"⟩
abbrev cX5_load : ByteArray := prog_7_method_39_code
def yX5_load : MethodName := ⟨RX5, "load", "()I"⟩
abbrev cX5_keep : ByteArray := prog_7_method_40_code
def yX5_keep : MethodName := ⟨RX5, "keep", "(I)I"⟩
abbrev cX5_goBack : ByteArray := prog_7_method_41_code
def yX5_goBack : MethodName := ⟨RX5, "goBack", "(I)I"⟩
abbrev cX5_undo : ByteArray := prog_7_method_42_code
def yX5_undo : MethodName := ⟨RX5, "undo", "()I"⟩
abbrev cX5_colour : ByteArray := prog_7_method_43_code
def yX5_colour : MethodName := ⟨RX5, "colour", "(II)I"⟩
abbrev cX5_wanted : ByteArray := prog_7_method_44_code
def yX5_wanted : MethodName := ⟨RX5, "wanted", "()I"⟩
abbrev cX5_shown : ByteArray := prog_7_method_45_code
def yX5_shown : MethodName := ⟨RX5, "shown", "(II)I"⟩
abbrev cX5_allShown : ByteArray := prog_7_method_46_code
def yX5_allShown : MethodName := ⟨RX5, "allShown", "()I"⟩
abbrev cX5_shining : ByteArray := prog_7_method_47_code
def yX5_shining : MethodName := ⟨RX5, "shining", "()I"⟩
abbrev cX5_aboutLamp : ByteArray := prog_7_method_48_code
def yX5_aboutLamp : MethodName := ⟨RX5, "aboutLamp", "(II)I"⟩
abbrev cX5_lampOf : ByteArray := prog_7_method_49_code
def yX5_lampOf : MethodName := ⟨RX5, "lampOf", "(II)I"⟩
abbrev cX5_pulseAt : ByteArray := prog_7_method_50_code
def yX5_pulseAt : MethodName := ⟨RX5, "pulseAt", "(I)I"⟩
abbrev cX5_number : ByteArray := prog_7_method_51_code
def yX5_number : MethodName := ⟨RX5, "number", "(I)I"⟩
abbrev cX5_count : ByteArray := prog_7_method_52_code
def yX5_count : MethodName := ⟨RX5, "count", "(I)I"⟩
abbrev cX5_setting : ByteArray := prog_7_method_53_code
def yX5_setting : MethodName := ⟨RX5, "setting", "(I)I"⟩
abbrev cX5_ifGap : ByteArray := prog_7_method_54_code
def yX5_ifGap : MethodName := ⟨RX5, "ifGap", "(II)I"⟩
abbrev cX5_wrongOnes : ByteArray := prog_7_method_55_code
def yX5_wrongOnes : MethodName := ⟨RX5, "wrongOnes", "(I)I"⟩
abbrev cX5_wrong : ByteArray := prog_7_method_56_code
def yX5_wrong : MethodName := ⟨RX5, "wrong", "(I)I"⟩
abbrev cX5_greatestLoss : ByteArray := prog_7_method_57_code
def yX5_greatestLoss : MethodName := ⟨RX5, "greatestLoss", "(I)I"⟩
abbrev cX5_bears : ByteArray := prog_7_method_58_code
def yX5_bears : MethodName := ⟨RX5, "bears", "(I)I"⟩
abbrev cX5_brokenAt : ByteArray := prog_7_method_59_code
def yX5_brokenAt : MethodName := ⟨RX5, "brokenAt", "()I"⟩
abbrev cX5_fewestWords : ByteArray := prog_7_method_60_code
def yX5_fewestWords : MethodName := ⟨RX5, "fewestWords", "(I)I"⟩
abbrev cX5_wordsTo : ByteArray := prog_7_method_61_code
def yX5_wordsTo : MethodName := ⟨RX5, "wordsTo", "(I)I"⟩
abbrev cX5_brightness : ByteArray := prog_7_method_62_code
def yX5_brightness : MethodName := ⟨RX5, "brightness", "()D"⟩
abbrev cX5_digest : ByteArray := prog_7_method_63_code
def yX5_digest : MethodName := ⟨RX5, "digest", "()J"⟩
def RJxe99ae : String := "java/lang/Double"
def TJxe99ae : u_T := fun k => match k with
  | _ => ("", "", "", false)
def tyJxe99ae : Nat → FieldType := fun k => match k with
  | _ => .int
abbrev wsJxe99ae0 : List Cond := u_ws RJxe99ae TJxe99ae 0
theorem nmJxe99ae : ∀ a, a < 0 → ∀ b, b < 0 → a ≠ b → (TJxe99ae a).2.1 ≠ (TJxe99ae b).2.1 := by decide +kernel
theorem tyJxe99ae_ok : ∀ k, k < 0 → parseFieldDescriptor (TJxe99ae k).2.2.1 = some (tyJxe99ae k) := by decide +kernel
abbrev cJxe99ae_isNaN_b9ae7 : ByteArray := prog_8_method_6_code
def yJxe99ae_isNaN_b9ae7 : MethodName := ⟨RJxe99ae, "isNaN", "(D)Z"⟩
abbrev cJxe99ae_doubleToLongBits_ccdee : ByteArray := prog_8_method_23_code
def yJxe99ae_doubleToLongBits_ccdee : MethodName := ⟨RJxe99ae, "doubleToLongBits", "(D)J"⟩
def RJ0 : String := "java/lang/String"
def TJ0 : u_T := fun k => match k with
  | _ => ("", "", "", false)
def tyJ0 : Nat → FieldType := fun k => match k with
  | _ => .int
abbrev wsJ00 : List Cond := u_ws RJ0 TJ0 0
theorem nmJ0 : ∀ a, a < 0 → ∀ b, b < 0 → a ≠ b → (TJ0 a).2.1 ≠ (TJ0 b).2.1 := by decide +kernel
theorem tyJ0_ok : ∀ k, k < 0 → parseFieldDescriptor (TJ0 k).2.2.1 = some (tyJ0 k) := by decide +kernel
def RJ10 : String := "java/lang/System"
def TJ10 : u_T := fun k => match k with
  | _ => ("", "", "", false)
def tyJ10 : Nat → FieldType := fun k => match k with
  | _ => .int
abbrev wsJ100 : List Cond := u_ws RJ10 TJ10 0
theorem nmJ10 : ∀ a, a < 0 → ∀ b, b < 0 → a ≠ b → (TJ10 a).2.1 ≠ (TJ10 b).2.1 := by decide +kernel
theorem tyJ10_ok : ∀ k, k < 0 → parseFieldDescriptor (TJ10 k).2.2.1 = some (tyJ10 k) := by decide +kernel
def RL : String := "WireLampsLaw"
abbrev cL_mode : ByteArray := method_3_code
def yL_mode : MethodName := ⟨RL, "mode", "(LWireLamps;II[J)I"⟩
abbrev cL_loss : ByteArray := method_4_code
def yL_loss : MethodName := ⟨RL, "loss", "(LWireLamps;II[J)I"⟩
abbrev cL_set : ByteArray := method_5_code
def yL_set : MethodName := ⟨RL, "set", "(LWireLamps;II[J)I"⟩
abbrev cL_pulse : ByteArray := method_6_code
def yL_pulse : MethodName := ⟨RL, "pulse", "(LWireLamps;I[J)I"⟩
abbrev cL_send : ByteArray := method_7_code
def yL_send : MethodName := ⟨RL, "send", "(LWireLamps;I[J)I"⟩
abbrev cL_append : ByteArray := method_8_code
def yL_append : MethodName := ⟨RL, "append", "(LWireLamps;I[J)I"⟩
abbrev cL_load : ByteArray := method_9_code
def yL_load : MethodName := ⟨RL, "load", "(LWireLamps;[J)I"⟩
abbrev cL_keep : ByteArray := method_10_code
def yL_keep : MethodName := ⟨RL, "keep", "(LWireLamps;I[J)I"⟩
abbrev cL_goBack : ByteArray := method_11_code
def yL_goBack : MethodName := ⟨RL, "goBack", "(LWireLamps;I[J)I"⟩
abbrev cL_undo : ByteArray := method_12_code
def yL_undo : MethodName := ⟨RL, "undo", "(LWireLamps;[J)I"⟩
abbrev cL_lampOf : ByteArray := method_13_code
def yL_lampOf : MethodName := ⟨RL, "lampOf", "(LWireLamps;II[J)I"⟩
abbrev cL_pulseAt : ByteArray := method_14_code
def yL_pulseAt : MethodName := ⟨RL, "pulseAt", "(LWireLamps;I[J)I"⟩
abbrev cL_count : ByteArray := method_15_code
def yL_count : MethodName := ⟨RL, "count", "(LWireLamps;I[J)I"⟩
abbrev cL_setting : ByteArray := method_16_code
def yL_setting : MethodName := ⟨RL, "setting", "(LWireLamps;I[J)I"⟩
abbrev cL_ifGap : ByteArray := method_17_code
def yL_ifGap : MethodName := ⟨RL, "ifGap", "(LWireLamps;II[J)I"⟩
abbrev cL_wrong : ByteArray := method_18_code
def yL_wrong : MethodName := ⟨RL, "wrong", "(LWireLamps;I[J)I"⟩
abbrev cL_bears : ByteArray := method_19_code
def yL_bears : MethodName := ⟨RL, "bears", "(LWireLamps;I[J)I"⟩
abbrev cL_wordsTo : ByteArray := method_20_code
def yL_wordsTo : MethodName := ⟨RL, "wordsTo", "(LWireLamps;I[J)I"⟩
abbrev cL_law : ByteArray := code
def yL_law : MethodName := ⟨RL, "law", "([I)Z"⟩
def wsX0_init : List Cond := .code yX0_init cX0_init 1 none :: ([.methodLink RX0 3 objectInit, .instanceMethod objectInit, .code objectInit ⟨#[0xb1]⟩ 1 none, .classLink RX0 9 RX2, .fieldLink RX0 11 "WireLamps$History" "states" "[LWireLamps$State;"] ++ wsX00)
def wsX0_dropOldest : List Cond := .code yX0_dropOldest cX0_dropOldest 3 none :: ([.fieldLink RX0 11 "WireLamps$History" "states" "[LWireLamps$State;", .fieldLink RX0 17 "WireLamps$History" "size" "I"] ++ wsX00)
def wsX2_init : List Cond := .code yX2_init cX2_init 1 none :: ([.methodLink RX2 3 objectInit, .instanceMethod objectInit, .code objectInit ⟨#[0xb1]⟩ 1 none, .arrayClass .int, .fieldLink RX2 9 "WireLamps$State" "modes" "[I", .fieldLink RX2 15 "WireLamps$State" "losses" "[I", .fieldLink RX2 18 "WireLamps$State" "known" "[I", .fieldLink RX2 21 "WireLamps$State" "shining" "[I", .fieldLink RX2 24 "WireLamps$State" "came" "[I", .fieldLink RX2 27 "WireLamps$State" "settings" "[I", .fieldLink RX2 30 "WireLamps$State" "pulses" "[I"] ++ wsX20)
def wsX2_copyFrom : List Cond := .code yX2_copyFrom cX2_copyFrom 2 none :: ([.fieldLink RX2 9 "WireLamps$State" "modes" "[I", .methodLink RX2 33 arraycopyName, .native arraycopyName, .static arraycopyName, .initialized "java/lang/System", .fieldLink RX2 15 "WireLamps$State" "losses" "[I", .fieldLink RX2 18 "WireLamps$State" "known" "[I", .fieldLink RX2 21 "WireLamps$State" "shining" "[I", .fieldLink RX2 24 "WireLamps$State" "came" "[I", .fieldLink RX2 27 "WireLamps$State" "settings" "[I", .fieldLink RX2 30 "WireLamps$State" "pulses" "[I", .fieldLink RX2 39 "WireLamps$State" "pulseCount" "I", .fieldLink RX2 43 "WireLamps$State" "gaps" "I", .fieldLink RX2 46 "WireLamps$State" "taken" "I", .fieldLink RX2 49 "WireLamps$State" "lost" "I", .fieldLink RX2 52 "WireLamps$State" "dropped" "I", .fieldLink RX2 55 "WireLamps$State" "refused" "I"] ++ wsX20)
def wsX0_save_r1 : List Cond := [Cond.fieldLink RX0 17 "WireLamps$History" "size" "I", Cond.fieldLink RX0 11 "WireLamps$History" "states" "[LWireLamps$State;", Cond.classLink RX0 9 RX2, Cond.instantiable RX2 13, Cond.initialized RX2, Cond.methodLink RX0 21 yX0_dropOldest, Cond.instanceMethod yX0_dropOldest, Cond.selects RX0 yX0_dropOldest yX0_dropOldest, Cond.initialized RX0, Cond.code yX0_dropOldest cX0_dropOldest 3 none, Cond.instanceMethod yX2_init, Cond.code yX2_init cX2_init 1 none, Cond.methodLink RX2 3 objectInit, Cond.instanceMethod objectInit, Cond.code objectInit ⟨#[0xb1]⟩ 1 none, Cond.arrayClass .int, Cond.fieldLink RX2 9 "WireLamps$State" "modes" "[I", Cond.fieldLink RX2 15 "WireLamps$State" "losses" "[I", Cond.fieldLink RX2 18 "WireLamps$State" "known" "[I", Cond.fieldLink RX2 21 "WireLamps$State" "shining" "[I", Cond.fieldLink RX2 24 "WireLamps$State" "came" "[I", Cond.fieldLink RX2 27 "WireLamps$State" "settings" "[I", Cond.fieldLink RX2 30 "WireLamps$State" "pulses" "[I", Cond.methodLink RX0 25 yX2_copyFrom]
def wsX0_save_r2 : List Cond := [Cond.instanceMethod yX2_copyFrom, Cond.selects RX2 yX2_copyFrom yX2_copyFrom, Cond.code yX2_copyFrom cX2_copyFrom 2 none, Cond.methodLink RX2 33 arraycopyName, Cond.native arraycopyName, Cond.static arraycopyName, Cond.initialized "java/lang/System", Cond.fieldLink RX2 39 "WireLamps$State" "pulseCount" "I", Cond.fieldLink RX2 43 "WireLamps$State" "gaps" "I", Cond.fieldLink RX2 46 "WireLamps$State" "taken" "I", Cond.fieldLink RX2 49 "WireLamps$State" "lost" "I", Cond.fieldLink RX2 52 "WireLamps$State" "dropped" "I", Cond.fieldLink RX2 55 "WireLamps$State" "refused" "I"]
def wsX0_save : List Cond := .code yX0_save cX0_save 3 none :: ((wsX0_save_r1 ++ wsX0_save_r2) ++ wsX00 ++ wsX20)
def wsX0_latest : List Cond := .code yX0_latest cX0_latest 1 (some (.object "WireLamps$State")) :: ([.fieldLink RX0 17 "WireLamps$History" "size" "I", .fieldLink RX0 11 "WireLamps$History" "states" "[LWireLamps$State;"] ++ wsX00)
def wsX0_forgetLatest : List Cond := .code yX0_forgetLatest cX0_forgetLatest 1 none :: ([.fieldLink RX0 17 "WireLamps$History" "size" "I"] ++ wsX00)
def wsX1_init : List Cond := .code yX1_init cX1_init 1 none :: ([.methodLink RX1 3 objectInit, .instanceMethod objectInit, .code objectInit ⟨#[0xb1]⟩ 1 none, .arrayClass .int, .fieldLink RX1 9 "WireLamps$Journey" "came" "[I", .fieldLink RX1 15 "WireLamps$Journey" "words" "[I", .fieldLink RX1 18 "WireLamps$Journey" "pulses" "[I"] ++ wsX10)
def wsX2_shortened : List Cond := .code yX2_shortened cX2_shortened 2 (some .int) :: ([])
def wsX1_passWire : List Cond := .code yX1_passWire cX1_passWire 3 none :: ([.fieldLink RX1 30 "WireLamps$Journey" "first" "I", .fieldLink RX1 37 "WireLamps$Journey" "end" "I", .fieldLink RX1 18 "WireLamps$Journey" "pulses" "[I", .methodLink RX1 64 yX2_shortened, .static yX2_shortened, .initialized RX2, .code yX2_shortened cX2_shortened 2 (some .int)] ++ wsX10)
def wsX2_takesWords : List Cond := .code yX2_takesWords cX2_takesWords 2 (some .boolean) :: ([.fieldLink RX2 9 "WireLamps$State" "modes" "[I"] ++ wsX20)
def wsX2_isReadAs1 : List Cond := .code yX2_isReadAs1 cX2_isReadAs1 2 (some .boolean) :: ([.fieldLink RX2 27 "WireLamps$State" "settings" "[I"] ++ wsX20)
def wsX1_takeWord : List Cond := .code yX1_takeWord cX1_takeWord 5 (some .int) :: ([.fieldLink RX1 30 "WireLamps$Journey" "first" "I", .fieldLink RX1 18 "WireLamps$Journey" "pulses" "[I", .fieldLink RX1 40 "WireLamps$Journey" "taken" "I", .methodLink RX1 76 yX2_isReadAs1, .instanceMethod yX2_isReadAs1, .selects RX2 yX2_isReadAs1 yX2_isReadAs1, .initialized RX2, .code yX2_isReadAs1 cX2_isReadAs1 2 (some .boolean), .fieldLink RX2 27 "WireLamps$State" "settings" "[I"] ++ wsX10 ++ wsX20)
def wsX2_lengthFor : List Cond := .code yX2_lengthFor cX2_lengthFor 1 (some .int) :: ([])
def wsX2_handedOn : List Cond := .code yX2_handedOn cX2_handedOn 2 (some .int) :: ([.fieldLink RX2 27 "WireLamps$State" "settings" "[I", .methodLink RX2 66 yX2_isReadAs1, .instanceMethod yX2_isReadAs1, .selects RX2 yX2_isReadAs1 yX2_isReadAs1, .initialized RX2, .code yX2_isReadAs1 cX2_isReadAs1 2 (some .boolean), .methodLink RX2 58 yX2_lengthFor, .static yX2_lengthFor, .code yX2_lengthFor cX2_lengthFor 1 (some .int)] ++ wsX20)
def wsX1_passTaker : List Cond := .code yX1_passTaker cX1_passTaker 4 none :: ([.fieldLink RX1 37 "WireLamps$Journey" "end" "I", .fieldLink RX1 30 "WireLamps$Journey" "first" "I", .fieldLink RX1 15 "WireLamps$Journey" "words" "[I", .fieldLink RX1 18 "WireLamps$Journey" "pulses" "[I", .methodLink RX1 68 yX1_takeWord, .instanceMethod yX1_takeWord, .selects RX1 yX1_takeWord yX1_takeWord, .initialized RX1, .code yX1_takeWord cX1_takeWord 5 (some .int), .fieldLink RX1 40 "WireLamps$Journey" "taken" "I", .methodLink RX1 76 yX2_isReadAs1, .instanceMethod yX2_isReadAs1, .selects RX2 yX2_isReadAs1 yX2_isReadAs1, .initialized RX2, .code yX2_isReadAs1 cX2_isReadAs1 2 (some .boolean), .fieldLink RX2 27 "WireLamps$State" "settings" "[I", .methodLink RX1 72 yX2_handedOn, .instanceMethod yX2_handedOn, .selects RX2 yX2_handedOn yX2_handedOn, .code yX2_handedOn cX2_handedOn 2 (some .int), .methodLink RX2 66 yX2_isReadAs1, .methodLink RX2 58 yX2_lengthFor, .static yX2_lengthFor, .code yX2_lengthFor cX2_lengthFor 1 (some .int)] ++ wsX10 ++ wsX20)
def wsX1_goThrough_r1 : List Cond := [Cond.fieldLink RX1 21 "WireLamps$State" "pulses" "[I", Cond.fieldLink RX1 18 "WireLamps$Journey" "pulses" "[I", Cond.methodLink RX1 24 arraycopyName, Cond.native arraycopyName, Cond.static arraycopyName, Cond.initialized "java/lang/System", Cond.fieldLink RX1 30 "WireLamps$Journey" "first" "I", Cond.fieldLink RX1 34 "WireLamps$State" "pulseCount" "I", Cond.fieldLink RX1 37 "WireLamps$Journey" "end" "I", Cond.fieldLink RX1 40 "WireLamps$Journey" "taken" "I", Cond.fieldLink RX1 43 "WireLamps$State" "losses" "[I", Cond.fieldLink RX1 9 "WireLamps$Journey" "came" "[I", Cond.fieldLink RX1 15 "WireLamps$Journey" "words" "[I", Cond.fieldLink RX1 50 "WireLamps$State" "known" "[I", Cond.fieldLink RX1 61 "WireLamps$State" "modes" "[I", Cond.methodLink RX1 46 yX1_passWire, Cond.instanceMethod yX1_passWire, Cond.selects RX1 yX1_passWire yX1_passWire, Cond.initialized RX1, Cond.code yX1_passWire cX1_passWire 3 none, Cond.methodLink RX1 64 yX2_shortened, Cond.static yX2_shortened, Cond.initialized RX2, Cond.code yX2_shortened cX2_shortened 2 (some .int)]
def wsX1_goThrough_r2 : List Cond := [Cond.methodLink RX1 53 yX2_takesWords, Cond.instanceMethod yX2_takesWords, Cond.selects RX2 yX2_takesWords yX2_takesWords, Cond.code yX2_takesWords cX2_takesWords 2 (some .boolean), Cond.fieldLink RX2 9 "WireLamps$State" "modes" "[I", Cond.methodLink RX1 57 yX1_passTaker, Cond.instanceMethod yX1_passTaker, Cond.selects RX1 yX1_passTaker yX1_passTaker, Cond.code yX1_passTaker cX1_passTaker 4 none, Cond.methodLink RX1 68 yX1_takeWord, Cond.instanceMethod yX1_takeWord, Cond.selects RX1 yX1_takeWord yX1_takeWord, Cond.code yX1_takeWord cX1_takeWord 5 (some .int), Cond.methodLink RX1 76 yX2_isReadAs1, Cond.instanceMethod yX2_isReadAs1, Cond.selects RX2 yX2_isReadAs1 yX2_isReadAs1, Cond.code yX2_isReadAs1 cX2_isReadAs1 2 (some .boolean), Cond.fieldLink RX2 27 "WireLamps$State" "settings" "[I", Cond.methodLink RX1 72 yX2_handedOn, Cond.instanceMethod yX2_handedOn, Cond.selects RX2 yX2_handedOn yX2_handedOn, Cond.code yX2_handedOn cX2_handedOn 2 (some .int), Cond.methodLink RX2 66 yX2_isReadAs1, Cond.methodLink RX2 58 yX2_lengthFor]
def wsX1_goThrough_r3 : List Cond := [Cond.static yX2_lengthFor, Cond.code yX2_lengthFor cX2_lengthFor 1 (some .int)]
def wsX1_goThrough : List Cond := .code yX1_goThrough cX1_goThrough 3 none :: ((wsX1_goThrough_r1 ++ (wsX1_goThrough_r2 ++ wsX1_goThrough_r3)) ++ wsX20 ++ wsX10)
def wsX2_hasRoomFor : List Cond := .code yX2_hasRoomFor cX2_hasRoomFor 2 (some .boolean) :: ([.fieldLink RX2 39 "WireLamps$State" "pulseCount" "I"] ++ wsX20)
def wsX2_addPulse : List Cond := .code yX2_addPulse cX2_addPulse 2 none :: ([.fieldLink RX2 39 "WireLamps$State" "pulseCount" "I", .fieldLink RX2 30 "WireLamps$State" "pulses" "[I"] ++ wsX20)
def wsX2_addWord : List Cond := .code yX2_addWord cX2_addWord 3 none :: ([.methodLink RX2 58 yX2_lengthFor, .static yX2_lengthFor, .initialized RX2, .code yX2_lengthFor cX2_lengthFor 1 (some .int), .methodLink RX2 62 yX2_addPulse, .instanceMethod yX2_addPulse, .selects RX2 yX2_addPulse yX2_addPulse, .code yX2_addPulse cX2_addPulse 2 none, .fieldLink RX2 39 "WireLamps$State" "pulseCount" "I", .fieldLink RX2 30 "WireLamps$State" "pulses" "[I"] ++ wsX20)
def wsX2_brightnessOf : List Cond := .code yX2_brightnessOf cX2_brightnessOf 2 (some .int) :: ([])
def wsX2_currentWanted : List Cond := .code yX2_currentWanted cX2_currentWanted 4 (some .int) :: ([.fieldLink RX2 21 "WireLamps$State" "shining" "[I", .methodLink RX2 70 yX2_brightnessOf, .static yX2_brightnessOf, .initialized RX2, .code yX2_brightnessOf cX2_brightnessOf 2 (some .int)] ++ wsX20)
def wsX2_shown : List Cond := .code yX2_shown cX2_shown 3 (some .int) :: ([.fieldLink RX2 27 "WireLamps$State" "settings" "[I"] ++ wsX20)
def wsX2_shownTogether : List Cond := .code yX2_shownTogether cX2_shownTogether 5 (some .int) :: ([.fieldLink RX2 21 "WireLamps$State" "shining" "[I", .methodLink RX2 74 yX2_currentWanted, .instanceMethod yX2_currentWanted, .selects RX2 yX2_currentWanted yX2_currentWanted, .initialized RX2, .code yX2_currentWanted cX2_currentWanted 4 (some .int), .methodLink RX2 70 yX2_brightnessOf, .static yX2_brightnessOf, .code yX2_brightnessOf cX2_brightnessOf 2 (some .int), .methodLink RX2 78 yX2_shown, .instanceMethod yX2_shown, .selects RX2 yX2_shown yX2_shown, .code yX2_shown cX2_shown 3 (some .int), .fieldLink RX2 27 "WireLamps$State" "settings" "[I"] ++ wsX20)
def wsX2_lampsThatShine : List Cond := .code yX2_lampsThatShine cX2_lampsThatShine 3 (some .int) :: ([.fieldLink RX2 21 "WireLamps$State" "shining" "[I"] ++ wsX20)
def wsX2_wordsUpTo : List Cond := .code yX2_wordsUpTo cX2_wordsUpTo 4 (some .int) :: ([.fieldLink RX2 9 "WireLamps$State" "modes" "[I", .methodLink RX2 81 yX2_takesWords, .instanceMethod yX2_takesWords, .selects RX2 yX2_takesWords yX2_takesWords, .initialized RX2, .code yX2_takesWords cX2_takesWords 2 (some .boolean)] ++ wsX20)
def wsX2_lengthAt : List Cond := .code yX2_lengthAt cX2_lengthAt 5 (some .int) :: ([.fieldLink RX2 15 "WireLamps$State" "losses" "[I", .methodLink RX2 91 yX2_shortened, .static yX2_shortened, .initialized RX2, .code yX2_shortened cX2_shortened 2 (some .int), .methodLink RX2 81 yX2_takesWords, .instanceMethod yX2_takesWords, .selects RX2 yX2_takesWords yX2_takesWords, .code yX2_takesWords cX2_takesWords 2 (some .boolean), .fieldLink RX2 9 "WireLamps$State" "modes" "[I", .methodLink RX2 94 yX2_handedOn, .instanceMethod yX2_handedOn, .selects RX2 yX2_handedOn yX2_handedOn, .code yX2_handedOn cX2_handedOn 2 (some .int), .fieldLink RX2 27 "WireLamps$State" "settings" "[I", .methodLink RX2 66 yX2_isReadAs1, .instanceMethod yX2_isReadAs1, .selects RX2 yX2_isReadAs1 yX2_isReadAs1, .code yX2_isReadAs1 cX2_isReadAs1 2 (some .boolean), .methodLink RX2 58 yX2_lengthFor, .static yX2_lengthFor, .code yX2_lengthFor cX2_lengthFor 1 (some .int)] ++ wsX20)
def wsX2_wordByPlace_r1 : List Cond := [Cond.fieldLink RX2 39 "WireLamps$State" "pulseCount" "I", Cond.fieldLink RX2 18 "WireLamps$State" "known" "[I", Cond.fieldLink RX2 30 "WireLamps$State" "pulses" "[I", Cond.methodLink RX2 84 yX2_wordsUpTo, Cond.instanceMethod yX2_wordsUpTo, Cond.selects RX2 yX2_wordsUpTo yX2_wordsUpTo, Cond.initialized RX2, Cond.code yX2_wordsUpTo cX2_wordsUpTo 4 (some .int), Cond.fieldLink RX2 9 "WireLamps$State" "modes" "[I", Cond.methodLink RX2 81 yX2_takesWords, Cond.instanceMethod yX2_takesWords, Cond.selects RX2 yX2_takesWords yX2_takesWords, Cond.code yX2_takesWords cX2_takesWords 2 (some .boolean), Cond.methodLink RX2 88 yX2_lengthAt, Cond.instanceMethod yX2_lengthAt, Cond.selects RX2 yX2_lengthAt yX2_lengthAt, Cond.code yX2_lengthAt cX2_lengthAt 5 (some .int), Cond.fieldLink RX2 15 "WireLamps$State" "losses" "[I", Cond.methodLink RX2 91 yX2_shortened, Cond.static yX2_shortened, Cond.code yX2_shortened cX2_shortened 2 (some .int), Cond.methodLink RX2 94 yX2_handedOn, Cond.instanceMethod yX2_handedOn, Cond.selects RX2 yX2_handedOn yX2_handedOn]
def wsX2_wordByPlace_r2 : List Cond := [Cond.code yX2_handedOn cX2_handedOn 2 (some .int), Cond.fieldLink RX2 27 "WireLamps$State" "settings" "[I", Cond.methodLink RX2 66 yX2_isReadAs1, Cond.instanceMethod yX2_isReadAs1, Cond.selects RX2 yX2_isReadAs1 yX2_isReadAs1, Cond.code yX2_isReadAs1 cX2_isReadAs1 2 (some .boolean), Cond.methodLink RX2 58 yX2_lengthFor, Cond.static yX2_lengthFor, Cond.code yX2_lengthFor cX2_lengthFor 1 (some .int)]
def wsX2_wordByPlace : List Cond := .code yX2_wordByPlace cX2_wordByPlace 6 (some .int) :: ((wsX2_wordByPlace_r1 ++ wsX2_wordByPlace_r2) ++ wsX20)
def wsX2_wrongWith : List Cond := .code yX2_wrongWith cX2_wrongWith 11 (some .int) :: ([.fieldLink RX2 15 "WireLamps$State" "losses" "[I", .fieldLink RX2 18 "WireLamps$State" "known" "[I", .fieldLink RX2 9 "WireLamps$State" "modes" "[I", .methodLink RX2 91 yX2_shortened, .static yX2_shortened, .initialized RX2, .code yX2_shortened cX2_shortened 2 (some .int), .methodLink RX2 81 yX2_takesWords, .instanceMethod yX2_takesWords, .selects RX2 yX2_takesWords yX2_takesWords, .code yX2_takesWords cX2_takesWords 2 (some .boolean), .methodLink RX2 66 yX2_isReadAs1, .instanceMethod yX2_isReadAs1, .selects RX2 yX2_isReadAs1 yX2_isReadAs1, .code yX2_isReadAs1 cX2_isReadAs1 2 (some .boolean), .fieldLink RX2 27 "WireLamps$State" "settings" "[I", .methodLink RX2 94 yX2_handedOn, .instanceMethod yX2_handedOn, .selects RX2 yX2_handedOn yX2_handedOn, .code yX2_handedOn cX2_handedOn 2 (some .int), .methodLink RX2 58 yX2_lengthFor, .static yX2_lengthFor, .code yX2_lengthFor cX2_lengthFor 1 (some .int)] ++ wsX20)
def wsX3_init : List Cond := .code yX3_init cX3_init 1 none :: ([.methodLink RX3 3 objectInit, .instanceMethod objectInit, .code objectInit ⟨#[0xb1]⟩ 1 none, .arrayClass .char, .fieldLink RX3 9 "WireLamps$Text" "signs" "[C"] ++ wsX30)
def wsX3_add : List Cond := .code yX3_add cX3_add 2 none :: ([.fieldLink RX3 15 "WireLamps$Text" "length" "I", .fieldLink RX3 9 "WireLamps$Text" "signs" "[C"] ++ wsX30)
def wsX3_empty : List Cond := .code yX3_empty cX3_empty 1 none :: ([.fieldLink RX3 15 "WireLamps$Text" "length" "I"] ++ wsX30)
def wsX3_signAt : List Cond := .code yX3_signAt cX3_signAt 2 (some .char) :: ([.fieldLink RX3 15 "WireLamps$Text" "length" "I", .fieldLink RX3 9 "WireLamps$Text" "signs" "[C"] ++ wsX30)
def wsX3_digitOf : List Cond := .code yX3_digitOf cX3_digitOf 1 (some .int) :: ([])
def wsX3_fits : List Cond := .code yX3_fits cX3_fits 4 (some .boolean) :: ([.methodLink RX3 23 yX3_signAt, .instanceMethod yX3_signAt, .selects RX3 yX3_signAt yX3_signAt, .initialized RX3, .code yX3_signAt cX3_signAt 2 (some .char), .fieldLink RX3 15 "WireLamps$Text" "length" "I", .fieldLink RX3 9 "WireLamps$Text" "signs" "[C", .methodLink RX3 27 yX3_digitOf, .static yX3_digitOf, .code yX3_digitOf cX3_digitOf 1 (some .int)] ++ wsX30)
def wsX3_errorPlace : List Cond := .code yX3_errorPlace cX3_errorPlace 2 (some .int) :: ([.fieldLink RX3 15 "WireLamps$Text" "length" "I", .methodLink RX3 19 yX3_fits, .instanceMethod yX3_fits, .selects RX3 yX3_fits yX3_fits, .initialized RX3, .code yX3_fits cX3_fits 4 (some .boolean), .methodLink RX3 23 yX3_signAt, .instanceMethod yX3_signAt, .selects RX3 yX3_signAt yX3_signAt, .code yX3_signAt cX3_signAt 2 (some .char), .fieldLink RX3 9 "WireLamps$Text" "signs" "[C", .methodLink RX3 27 yX3_digitOf, .static yX3_digitOf, .code yX3_digitOf cX3_digitOf 1 (some .int)] ++ wsX30)
def wsX3_endsWithGap : List Cond := .code yX3_endsWithGap cX3_endsWithGap 1 (some .boolean) :: ([.fieldLink RX3 15 "WireLamps$Text" "length" "I", .methodLink RX3 23 yX3_signAt, .instanceMethod yX3_signAt, .selects RX3 yX3_signAt yX3_signAt, .initialized RX3, .code yX3_signAt cX3_signAt 2 (some .char), .fieldLink RX3 9 "WireLamps$Text" "signs" "[C"] ++ wsX30)
def wsX3_wordsTold : List Cond := .code yX3_wordsTold cX3_wordsTold 2 (some .int) :: ([.fieldLink RX3 15 "WireLamps$Text" "length" "I", .methodLink RX3 31 yX3_endsWithGap, .instanceMethod yX3_endsWithGap, .selects RX3 yX3_endsWithGap yX3_endsWithGap, .initialized RX3, .code yX3_endsWithGap cX3_endsWithGap 1 (some .boolean), .methodLink RX3 23 yX3_signAt, .instanceMethod yX3_signAt, .selects RX3 yX3_signAt yX3_signAt, .code yX3_signAt cX3_signAt 2 (some .char), .fieldLink RX3 9 "WireLamps$Text" "signs" "[C", .methodLink RX3 35 yX3_errorPlace, .instanceMethod yX3_errorPlace, .selects RX3 yX3_errorPlace yX3_errorPlace, .code yX3_errorPlace cX3_errorPlace 2 (some .int), .methodLink RX3 19 yX3_fits, .instanceMethod yX3_fits, .selects RX3 yX3_fits yX3_fits, .code yX3_fits cX3_fits 4 (some .boolean), .methodLink RX3 27 yX3_digitOf, .static yX3_digitOf, .code yX3_digitOf cX3_digitOf 1 (some .int)] ++ wsX30)
def wsX3_wordAt : List Cond := .code yX3_wordAt cX3_wordAt 4 (some .int) :: ([.methodLink RX3 23 yX3_signAt, .instanceMethod yX3_signAt, .selects RX3 yX3_signAt yX3_signAt, .initialized RX3, .code yX3_signAt cX3_signAt 2 (some .char), .fieldLink RX3 15 "WireLamps$Text" "length" "I", .fieldLink RX3 9 "WireLamps$Text" "signs" "[C", .methodLink RX3 27 yX3_digitOf, .static yX3_digitOf, .code yX3_digitOf cX3_digitOf 1 (some .int)] ++ wsX30)
def wsX4_init_r1 : List Cond := [Cond.methodLink RX4 1 objectInit, Cond.instanceMethod objectInit, Cond.code objectInit ⟨#[0xb1]⟩ 1 none, Cond.classLink RX4 7 RX2, Cond.instantiable RX2 13, Cond.initialized RX2, Cond.fieldLink RX4 10 "WireLamps" "state" "LWireLamps$State;", Cond.classLink RX4 16 RX1, Cond.instantiable RX1 6, Cond.initialized RX1, Cond.fieldLink RX4 19 "WireLamps" "journey" "LWireLamps$Journey;", Cond.classLink RX4 23 RX3, Cond.instantiable RX3 2, Cond.initialized RX3, Cond.fieldLink RX4 26 "WireLamps" "text" "LWireLamps$Text;", Cond.classLink RX4 30 RX0, Cond.instantiable RX0 2, Cond.initialized RX0, Cond.fieldLink RX4 33 "WireLamps" "history" "LWireLamps$History;", Cond.fieldLink RX4 37 "WireLamps" "slots" "[LWireLamps$State;", Cond.instanceMethod yX2_init, Cond.code yX2_init cX2_init 1 none, Cond.methodLink RX2 3 objectInit, Cond.arrayClass .int]
def wsX4_init_r2 : List Cond := [Cond.fieldLink RX2 9 "WireLamps$State" "modes" "[I", Cond.fieldLink RX2 15 "WireLamps$State" "losses" "[I", Cond.fieldLink RX2 18 "WireLamps$State" "known" "[I", Cond.fieldLink RX2 21 "WireLamps$State" "shining" "[I", Cond.fieldLink RX2 24 "WireLamps$State" "came" "[I", Cond.fieldLink RX2 27 "WireLamps$State" "settings" "[I", Cond.fieldLink RX2 30 "WireLamps$State" "pulses" "[I", Cond.instanceMethod yX1_init, Cond.code yX1_init cX1_init 1 none, Cond.methodLink RX1 3 objectInit, Cond.fieldLink RX1 9 "WireLamps$Journey" "came" "[I", Cond.fieldLink RX1 15 "WireLamps$Journey" "words" "[I", Cond.fieldLink RX1 18 "WireLamps$Journey" "pulses" "[I", Cond.instanceMethod yX3_init, Cond.code yX3_init cX3_init 1 none, Cond.methodLink RX3 3 objectInit, Cond.arrayClass .char, Cond.fieldLink RX3 9 "WireLamps$Text" "signs" "[C", Cond.instanceMethod yX0_init, Cond.code yX0_init cX0_init 1 none, Cond.methodLink RX0 3 objectInit, Cond.classLink RX0 9 RX2, Cond.fieldLink RX0 11 "WireLamps$History" "states" "[LWireLamps$State;"]
def wsX4_init : List Cond := .code yX4_init cX4_init 1 none :: ((wsX4_init_r1 ++ wsX4_init_r2) ++ wsX20 ++ wsX40 ++ wsX10 ++ wsX30 ++ wsX00)
def wsX4_isLamp : List Cond := .code yX4_isLamp cX4_isLamp 1 (some .boolean) :: ([])
def wsX4_mode_r1 : List Cond := [Cond.classLink RX4 45 "java/lang/IndexOutOfBoundsException", Cond.initialized "java/lang/IndexOutOfBoundsException", Cond.classLink RX4 52 "java/lang/IllegalArgumentException", Cond.initialized "java/lang/IllegalArgumentException", Cond.fieldLink RX4 33 "WireLamps" "history" "LWireLamps$History;", Cond.fieldLink RX4 10 "WireLamps" "state" "LWireLamps$State;", Cond.fieldLink RX4 61 "WireLamps$State" "modes" "[I", Cond.methodLink RX4 41 yX4_isLamp, Cond.static yX4_isLamp, Cond.initialized RX4, Cond.code yX4_isLamp cX4_isLamp 1 (some .boolean), Cond.methodLink RX4 57 yX0_save, Cond.instanceMethod yX0_save, Cond.selects RX0 yX0_save yX0_save, Cond.initialized RX0, Cond.code yX0_save cX0_save 3 none, Cond.fieldLink RX0 17 "WireLamps$History" "size" "I", Cond.fieldLink RX0 11 "WireLamps$History" "states" "[LWireLamps$State;", Cond.classLink RX0 9 RX2, Cond.instantiable RX2 13, Cond.initialized RX2, Cond.methodLink RX0 21 yX0_dropOldest, Cond.instanceMethod yX0_dropOldest, Cond.selects RX0 yX0_dropOldest yX0_dropOldest]
def wsX4_mode_r2 : List Cond := [Cond.code yX0_dropOldest cX0_dropOldest 3 none, Cond.instanceMethod yX2_init, Cond.code yX2_init cX2_init 1 none, Cond.methodLink RX2 3 objectInit, Cond.instanceMethod objectInit, Cond.code objectInit ⟨#[0xb1]⟩ 1 none, Cond.arrayClass .int, Cond.fieldLink RX2 9 "WireLamps$State" "modes" "[I", Cond.fieldLink RX2 15 "WireLamps$State" "losses" "[I", Cond.fieldLink RX2 18 "WireLamps$State" "known" "[I", Cond.fieldLink RX2 21 "WireLamps$State" "shining" "[I", Cond.fieldLink RX2 24 "WireLamps$State" "came" "[I", Cond.fieldLink RX2 27 "WireLamps$State" "settings" "[I", Cond.fieldLink RX2 30 "WireLamps$State" "pulses" "[I", Cond.methodLink RX0 25 yX2_copyFrom, Cond.instanceMethod yX2_copyFrom, Cond.selects RX2 yX2_copyFrom yX2_copyFrom, Cond.code yX2_copyFrom cX2_copyFrom 2 none, Cond.methodLink RX2 33 arraycopyName, Cond.native arraycopyName, Cond.static arraycopyName, Cond.initialized "java/lang/System", Cond.fieldLink RX2 39 "WireLamps$State" "pulseCount" "I", Cond.fieldLink RX2 43 "WireLamps$State" "gaps" "I"]
def wsX4_mode_r3 : List Cond := [Cond.fieldLink RX2 46 "WireLamps$State" "taken" "I", Cond.fieldLink RX2 49 "WireLamps$State" "lost" "I", Cond.fieldLink RX2 52 "WireLamps$State" "dropped" "I", Cond.fieldLink RX2 55 "WireLamps$State" "refused" "I"]
def wsX4_mode : List Cond := .code yX4_mode cX4_mode 4 (some .int) :: ((wsX4_mode_r1 ++ (wsX4_mode_r2 ++ wsX4_mode_r3)) ++ wsX40 ++ wsX20 ++ wsX00 ++ (vx_atS RX4 49 "java/lang/IndexOutOfBoundsException" ["java/lang/RuntimeException", "java/lang/Exception"]).filter goodWord ++ (vx_atS RX4 56 "java/lang/IllegalArgumentException" ["java/lang/RuntimeException", "java/lang/Exception"]).filter goodWord)
def wsX4_loss_r1 : List Cond := [Cond.classLink RX4 45 "java/lang/IndexOutOfBoundsException", Cond.initialized "java/lang/IndexOutOfBoundsException", Cond.classLink RX4 52 "java/lang/IllegalArgumentException", Cond.initialized "java/lang/IllegalArgumentException", Cond.fieldLink RX4 33 "WireLamps" "history" "LWireLamps$History;", Cond.fieldLink RX4 10 "WireLamps" "state" "LWireLamps$State;", Cond.fieldLink RX4 67 "WireLamps$State" "losses" "[I", Cond.methodLink RX4 41 yX4_isLamp, Cond.static yX4_isLamp, Cond.initialized RX4, Cond.code yX4_isLamp cX4_isLamp 1 (some .boolean), Cond.methodLink RX4 57 yX0_save, Cond.instanceMethod yX0_save, Cond.selects RX0 yX0_save yX0_save, Cond.initialized RX0, Cond.code yX0_save cX0_save 3 none, Cond.fieldLink RX0 17 "WireLamps$History" "size" "I", Cond.fieldLink RX0 11 "WireLamps$History" "states" "[LWireLamps$State;", Cond.classLink RX0 9 RX2, Cond.instantiable RX2 13, Cond.initialized RX2, Cond.methodLink RX0 21 yX0_dropOldest, Cond.instanceMethod yX0_dropOldest, Cond.selects RX0 yX0_dropOldest yX0_dropOldest]
def wsX4_loss_r2 : List Cond := [Cond.code yX0_dropOldest cX0_dropOldest 3 none, Cond.instanceMethod yX2_init, Cond.code yX2_init cX2_init 1 none, Cond.methodLink RX2 3 objectInit, Cond.instanceMethod objectInit, Cond.code objectInit ⟨#[0xb1]⟩ 1 none, Cond.arrayClass .int, Cond.fieldLink RX2 9 "WireLamps$State" "modes" "[I", Cond.fieldLink RX2 15 "WireLamps$State" "losses" "[I", Cond.fieldLink RX2 18 "WireLamps$State" "known" "[I", Cond.fieldLink RX2 21 "WireLamps$State" "shining" "[I", Cond.fieldLink RX2 24 "WireLamps$State" "came" "[I", Cond.fieldLink RX2 27 "WireLamps$State" "settings" "[I", Cond.fieldLink RX2 30 "WireLamps$State" "pulses" "[I", Cond.methodLink RX0 25 yX2_copyFrom, Cond.instanceMethod yX2_copyFrom, Cond.selects RX2 yX2_copyFrom yX2_copyFrom, Cond.code yX2_copyFrom cX2_copyFrom 2 none, Cond.methodLink RX2 33 arraycopyName, Cond.native arraycopyName, Cond.static arraycopyName, Cond.initialized "java/lang/System", Cond.fieldLink RX2 39 "WireLamps$State" "pulseCount" "I", Cond.fieldLink RX2 43 "WireLamps$State" "gaps" "I"]
def wsX4_loss_r3 : List Cond := [Cond.fieldLink RX2 46 "WireLamps$State" "taken" "I", Cond.fieldLink RX2 49 "WireLamps$State" "lost" "I", Cond.fieldLink RX2 52 "WireLamps$State" "dropped" "I", Cond.fieldLink RX2 55 "WireLamps$State" "refused" "I"]
def wsX4_loss : List Cond := .code yX4_loss cX4_loss 4 (some .int) :: ((wsX4_loss_r1 ++ (wsX4_loss_r2 ++ wsX4_loss_r3)) ++ wsX40 ++ wsX20 ++ wsX00 ++ (vx_atS RX4 49 "java/lang/IndexOutOfBoundsException" ["java/lang/RuntimeException", "java/lang/Exception"]).filter goodWord ++ (vx_atS RX4 56 "java/lang/IllegalArgumentException" ["java/lang/RuntimeException", "java/lang/Exception"]).filter goodWord)
def wsX4_isSetting : List Cond := .code yX4_isSetting cX4_isSetting 1 (some .boolean) :: ([])
def wsX4_set_r1 : List Cond := [Cond.classLink RX4 45 "java/lang/IndexOutOfBoundsException", Cond.initialized "java/lang/IndexOutOfBoundsException", Cond.classLink RX4 52 "java/lang/IllegalArgumentException", Cond.initialized "java/lang/IllegalArgumentException", Cond.fieldLink RX4 75 "WireLamps" "LOWEST_VALUE" "[I", Cond.fieldLink RX4 78 "WireLamps" "HIGHEST_VALUE" "[I", Cond.fieldLink RX4 33 "WireLamps" "history" "LWireLamps$History;", Cond.fieldLink RX4 10 "WireLamps" "state" "LWireLamps$State;", Cond.fieldLink RX4 83 "WireLamps$State" "settings" "[I", Cond.methodLink RX4 70 yX4_isSetting, Cond.static yX4_isSetting, Cond.initialized RX4, Cond.code yX4_isSetting cX4_isSetting 1 (some .boolean), Cond.methodLink RX4 57 yX0_save, Cond.instanceMethod yX0_save, Cond.selects RX0 yX0_save yX0_save, Cond.initialized RX0, Cond.code yX0_save cX0_save 3 none, Cond.fieldLink RX0 17 "WireLamps$History" "size" "I", Cond.fieldLink RX0 11 "WireLamps$History" "states" "[LWireLamps$State;", Cond.classLink RX0 9 RX2, Cond.instantiable RX2 13, Cond.initialized RX2, Cond.methodLink RX0 21 yX0_dropOldest]
def wsX4_set_r2 : List Cond := [Cond.instanceMethod yX0_dropOldest, Cond.selects RX0 yX0_dropOldest yX0_dropOldest, Cond.code yX0_dropOldest cX0_dropOldest 3 none, Cond.instanceMethod yX2_init, Cond.code yX2_init cX2_init 1 none, Cond.methodLink RX2 3 objectInit, Cond.instanceMethod objectInit, Cond.code objectInit ⟨#[0xb1]⟩ 1 none, Cond.arrayClass .int, Cond.fieldLink RX2 9 "WireLamps$State" "modes" "[I", Cond.fieldLink RX2 15 "WireLamps$State" "losses" "[I", Cond.fieldLink RX2 18 "WireLamps$State" "known" "[I", Cond.fieldLink RX2 21 "WireLamps$State" "shining" "[I", Cond.fieldLink RX2 24 "WireLamps$State" "came" "[I", Cond.fieldLink RX2 27 "WireLamps$State" "settings" "[I", Cond.fieldLink RX2 30 "WireLamps$State" "pulses" "[I", Cond.methodLink RX0 25 yX2_copyFrom, Cond.instanceMethod yX2_copyFrom, Cond.selects RX2 yX2_copyFrom yX2_copyFrom, Cond.code yX2_copyFrom cX2_copyFrom 2 none, Cond.methodLink RX2 33 arraycopyName, Cond.native arraycopyName, Cond.static arraycopyName, Cond.initialized "java/lang/System"]
def wsX4_set_r3 : List Cond := [Cond.fieldLink RX2 39 "WireLamps$State" "pulseCount" "I", Cond.fieldLink RX2 43 "WireLamps$State" "gaps" "I", Cond.fieldLink RX2 46 "WireLamps$State" "taken" "I", Cond.fieldLink RX2 49 "WireLamps$State" "lost" "I", Cond.fieldLink RX2 52 "WireLamps$State" "dropped" "I", Cond.fieldLink RX2 55 "WireLamps$State" "refused" "I"]
def wsX4_set : List Cond := .code yX4_set cX4_set 4 (some .int) :: ((wsX4_set_r1 ++ (wsX4_set_r2 ++ wsX4_set_r3)) ++ wsX40 ++ wsX20 ++ wsX00 ++ (vx_atS RX4 49 "java/lang/IndexOutOfBoundsException" ["java/lang/RuntimeException", "java/lang/Exception"]).filter goodWord ++ (vx_atS RX4 56 "java/lang/IllegalArgumentException" ["java/lang/RuntimeException", "java/lang/Exception"]).filter goodWord)
def wsX4_refuse : List Cond := .code yX4_refuse cX4_refuse 1 (some .int) :: ([.fieldLink RX4 10 "WireLamps" "state" "LWireLamps$State;", .fieldLink RX4 213 "WireLamps$State" "refused" "I"] ++ wsX40 ++ wsX20)
def wsX4_pulse_r1 : List Cond := [Cond.classLink RX4 52 "java/lang/IllegalArgumentException", Cond.initialized "java/lang/IllegalArgumentException", Cond.fieldLink RX4 33 "WireLamps" "history" "LWireLamps$History;", Cond.fieldLink RX4 10 "WireLamps" "state" "LWireLamps$State;", Cond.fieldLink RX4 99 "WireLamps$State" "pulseCount" "I", Cond.methodLink RX4 57 yX0_save, Cond.instanceMethod yX0_save, Cond.selects RX0 yX0_save yX0_save, Cond.initialized RX0, Cond.code yX0_save cX0_save 3 none, Cond.fieldLink RX0 17 "WireLamps$History" "size" "I", Cond.fieldLink RX0 11 "WireLamps$History" "states" "[LWireLamps$State;", Cond.classLink RX0 9 RX2, Cond.instantiable RX2 13, Cond.initialized RX2, Cond.methodLink RX0 21 yX0_dropOldest, Cond.instanceMethod yX0_dropOldest, Cond.selects RX0 yX0_dropOldest yX0_dropOldest, Cond.code yX0_dropOldest cX0_dropOldest 3 none, Cond.instanceMethod yX2_init, Cond.code yX2_init cX2_init 1 none, Cond.methodLink RX2 3 objectInit, Cond.instanceMethod objectInit, Cond.code objectInit ⟨#[0xb1]⟩ 1 none]
def wsX4_pulse_r2 : List Cond := [Cond.arrayClass .int, Cond.fieldLink RX2 9 "WireLamps$State" "modes" "[I", Cond.fieldLink RX2 15 "WireLamps$State" "losses" "[I", Cond.fieldLink RX2 18 "WireLamps$State" "known" "[I", Cond.fieldLink RX2 21 "WireLamps$State" "shining" "[I", Cond.fieldLink RX2 24 "WireLamps$State" "came" "[I", Cond.fieldLink RX2 27 "WireLamps$State" "settings" "[I", Cond.fieldLink RX2 30 "WireLamps$State" "pulses" "[I", Cond.methodLink RX0 25 yX2_copyFrom, Cond.instanceMethod yX2_copyFrom, Cond.selects RX2 yX2_copyFrom yX2_copyFrom, Cond.code yX2_copyFrom cX2_copyFrom 2 none, Cond.methodLink RX2 33 arraycopyName, Cond.native arraycopyName, Cond.static arraycopyName, Cond.initialized "java/lang/System", Cond.fieldLink RX2 39 "WireLamps$State" "pulseCount" "I", Cond.fieldLink RX2 43 "WireLamps$State" "gaps" "I", Cond.fieldLink RX2 46 "WireLamps$State" "taken" "I", Cond.fieldLink RX2 49 "WireLamps$State" "lost" "I", Cond.fieldLink RX2 52 "WireLamps$State" "dropped" "I", Cond.fieldLink RX2 55 "WireLamps$State" "refused" "I", Cond.methodLink RX4 88 yX2_hasRoomFor, Cond.instanceMethod yX2_hasRoomFor]
def wsX4_pulse_r3 : List Cond := [Cond.selects RX2 yX2_hasRoomFor yX2_hasRoomFor, Cond.code yX2_hasRoomFor cX2_hasRoomFor 2 (some .boolean), Cond.methodLink RX4 91 yX4_refuse, Cond.instanceMethod yX4_refuse, Cond.selects RX4 yX4_refuse yX4_refuse, Cond.initialized RX4, Cond.code yX4_refuse cX4_refuse 1 (some .int), Cond.fieldLink RX4 213 "WireLamps$State" "refused" "I", Cond.methodLink RX4 95 yX2_addPulse, Cond.instanceMethod yX2_addPulse, Cond.selects RX2 yX2_addPulse yX2_addPulse, Cond.code yX2_addPulse cX2_addPulse 2 none]
def wsX4_pulse : List Cond := .code yX4_pulse cX4_pulse 2 (some .int) :: ((wsX4_pulse_r1 ++ (wsX4_pulse_r2 ++ wsX4_pulse_r3)) ++ wsX40 ++ wsX20 ++ wsX00 ++ (vx_atS RX4 56 "java/lang/IllegalArgumentException" ["java/lang/RuntimeException", "java/lang/Exception"]).filter goodWord)
def wsX4_isWord : List Cond := .code yX4_isWord cX4_isWord 1 (some .boolean) :: ([])
def wsX4_send_r1 : List Cond := [Cond.classLink RX4 52 "java/lang/IllegalArgumentException", Cond.initialized "java/lang/IllegalArgumentException", Cond.fieldLink RX4 33 "WireLamps" "history" "LWireLamps$History;", Cond.fieldLink RX4 10 "WireLamps" "state" "LWireLamps$State;", Cond.fieldLink RX4 99 "WireLamps$State" "pulseCount" "I", Cond.methodLink RX4 103 yX4_isWord, Cond.static yX4_isWord, Cond.initialized RX4, Cond.code yX4_isWord cX4_isWord 1 (some .boolean), Cond.methodLink RX4 57 yX0_save, Cond.instanceMethod yX0_save, Cond.selects RX0 yX0_save yX0_save, Cond.initialized RX0, Cond.code yX0_save cX0_save 3 none, Cond.fieldLink RX0 17 "WireLamps$History" "size" "I", Cond.fieldLink RX0 11 "WireLamps$History" "states" "[LWireLamps$State;", Cond.classLink RX0 9 RX2, Cond.instantiable RX2 13, Cond.initialized RX2, Cond.methodLink RX0 21 yX0_dropOldest, Cond.instanceMethod yX0_dropOldest, Cond.selects RX0 yX0_dropOldest yX0_dropOldest, Cond.code yX0_dropOldest cX0_dropOldest 3 none, Cond.instanceMethod yX2_init]
def wsX4_send_r2 : List Cond := [Cond.code yX2_init cX2_init 1 none, Cond.methodLink RX2 3 objectInit, Cond.instanceMethod objectInit, Cond.code objectInit ⟨#[0xb1]⟩ 1 none, Cond.arrayClass .int, Cond.fieldLink RX2 9 "WireLamps$State" "modes" "[I", Cond.fieldLink RX2 15 "WireLamps$State" "losses" "[I", Cond.fieldLink RX2 18 "WireLamps$State" "known" "[I", Cond.fieldLink RX2 21 "WireLamps$State" "shining" "[I", Cond.fieldLink RX2 24 "WireLamps$State" "came" "[I", Cond.fieldLink RX2 27 "WireLamps$State" "settings" "[I", Cond.fieldLink RX2 30 "WireLamps$State" "pulses" "[I", Cond.methodLink RX0 25 yX2_copyFrom, Cond.instanceMethod yX2_copyFrom, Cond.selects RX2 yX2_copyFrom yX2_copyFrom, Cond.code yX2_copyFrom cX2_copyFrom 2 none, Cond.methodLink RX2 33 arraycopyName, Cond.native arraycopyName, Cond.static arraycopyName, Cond.initialized "java/lang/System", Cond.fieldLink RX2 39 "WireLamps$State" "pulseCount" "I", Cond.fieldLink RX2 43 "WireLamps$State" "gaps" "I", Cond.fieldLink RX2 46 "WireLamps$State" "taken" "I", Cond.fieldLink RX2 49 "WireLamps$State" "lost" "I"]
def wsX4_send_r3 : List Cond := [Cond.fieldLink RX2 52 "WireLamps$State" "dropped" "I", Cond.fieldLink RX2 55 "WireLamps$State" "refused" "I", Cond.methodLink RX4 88 yX2_hasRoomFor, Cond.instanceMethod yX2_hasRoomFor, Cond.selects RX2 yX2_hasRoomFor yX2_hasRoomFor, Cond.code yX2_hasRoomFor cX2_hasRoomFor 2 (some .boolean), Cond.methodLink RX4 91 yX4_refuse, Cond.instanceMethod yX4_refuse, Cond.selects RX4 yX4_refuse yX4_refuse, Cond.code yX4_refuse cX4_refuse 1 (some .int), Cond.fieldLink RX4 213 "WireLamps$State" "refused" "I", Cond.methodLink RX4 108 yX2_addWord, Cond.instanceMethod yX2_addWord, Cond.selects RX2 yX2_addWord yX2_addWord, Cond.code yX2_addWord cX2_addWord 3 none, Cond.methodLink RX2 58 yX2_lengthFor, Cond.static yX2_lengthFor, Cond.code yX2_lengthFor cX2_lengthFor 1 (some .int), Cond.methodLink RX2 62 yX2_addPulse, Cond.instanceMethod yX2_addPulse, Cond.selects RX2 yX2_addPulse yX2_addPulse, Cond.code yX2_addPulse cX2_addPulse 2 none]
def wsX4_send : List Cond := .code yX4_send cX4_send 2 (some .int) :: ((wsX4_send_r1 ++ (wsX4_send_r2 ++ wsX4_send_r3)) ++ wsX40 ++ wsX20 ++ wsX00 ++ (vx_atS RX4 56 "java/lang/IllegalArgumentException" ["java/lang/RuntimeException", "java/lang/Exception"]).filter goodWord)
def wsX4_letGapBe_r1 : List Cond := [Cond.fieldLink RX4 19 "WireLamps" "journey" "LWireLamps$Journey;", Cond.fieldLink RX4 10 "WireLamps" "state" "LWireLamps$State;", Cond.fieldLink RX4 172 "WireLamps$State" "known" "[I", Cond.fieldLink RX4 226 "WireLamps$Journey" "words" "[I", Cond.fieldLink RX4 188 "WireLamps$State" "came" "[I", Cond.fieldLink RX4 273 "WireLamps$Journey" "came" "[I", Cond.fieldLink RX4 175 "WireLamps$State" "shining" "[I", Cond.fieldLink RX4 61 "WireLamps$State" "modes" "[I", Cond.fieldLink RX4 198 "WireLamps$State" "gaps" "I", Cond.fieldLink RX4 201 "WireLamps$State" "taken" "I", Cond.fieldLink RX4 274 "WireLamps$Journey" "taken" "I", Cond.fieldLink RX4 204 "WireLamps$State" "lost" "I", Cond.fieldLink RX4 99 "WireLamps$State" "pulseCount" "I", Cond.methodLink RX4 223 yX1_goThrough, Cond.instanceMethod yX1_goThrough, Cond.selects RX1 yX1_goThrough yX1_goThrough, Cond.initialized RX1, Cond.code yX1_goThrough cX1_goThrough 3 none, Cond.fieldLink RX1 21 "WireLamps$State" "pulses" "[I", Cond.fieldLink RX1 18 "WireLamps$Journey" "pulses" "[I", Cond.methodLink RX1 24 arraycopyName, Cond.native arraycopyName, Cond.static arraycopyName, Cond.initialized "java/lang/System"]
def wsX4_letGapBe_r2 : List Cond := [Cond.fieldLink RX1 30 "WireLamps$Journey" "first" "I", Cond.fieldLink RX1 34 "WireLamps$State" "pulseCount" "I", Cond.fieldLink RX1 37 "WireLamps$Journey" "end" "I", Cond.fieldLink RX1 40 "WireLamps$Journey" "taken" "I", Cond.fieldLink RX1 43 "WireLamps$State" "losses" "[I", Cond.fieldLink RX1 9 "WireLamps$Journey" "came" "[I", Cond.fieldLink RX1 15 "WireLamps$Journey" "words" "[I", Cond.fieldLink RX1 50 "WireLamps$State" "known" "[I", Cond.fieldLink RX1 61 "WireLamps$State" "modes" "[I", Cond.methodLink RX1 46 yX1_passWire, Cond.instanceMethod yX1_passWire, Cond.selects RX1 yX1_passWire yX1_passWire, Cond.code yX1_passWire cX1_passWire 3 none, Cond.methodLink RX1 64 yX2_shortened, Cond.static yX2_shortened, Cond.initialized RX2, Cond.code yX2_shortened cX2_shortened 2 (some .int), Cond.methodLink RX1 53 yX2_takesWords, Cond.instanceMethod yX2_takesWords, Cond.selects RX2 yX2_takesWords yX2_takesWords, Cond.code yX2_takesWords cX2_takesWords 2 (some .boolean), Cond.fieldLink RX2 9 "WireLamps$State" "modes" "[I", Cond.methodLink RX1 57 yX1_passTaker, Cond.instanceMethod yX1_passTaker]
def wsX4_letGapBe_r3 : List Cond := [Cond.selects RX1 yX1_passTaker yX1_passTaker, Cond.code yX1_passTaker cX1_passTaker 4 none, Cond.methodLink RX1 68 yX1_takeWord, Cond.instanceMethod yX1_takeWord, Cond.selects RX1 yX1_takeWord yX1_takeWord, Cond.code yX1_takeWord cX1_takeWord 5 (some .int), Cond.methodLink RX1 76 yX2_isReadAs1, Cond.instanceMethod yX2_isReadAs1, Cond.selects RX2 yX2_isReadAs1 yX2_isReadAs1, Cond.code yX2_isReadAs1 cX2_isReadAs1 2 (some .boolean), Cond.fieldLink RX2 27 "WireLamps$State" "settings" "[I", Cond.methodLink RX1 72 yX2_handedOn, Cond.instanceMethod yX2_handedOn, Cond.selects RX2 yX2_handedOn yX2_handedOn, Cond.code yX2_handedOn cX2_handedOn 2 (some .int), Cond.methodLink RX2 66 yX2_isReadAs1, Cond.methodLink RX2 58 yX2_lengthFor, Cond.static yX2_lengthFor, Cond.code yX2_lengthFor cX2_lengthFor 1 (some .int)]
def wsX4_letGapBe : List Cond := .code yX4_letGapBe cX4_letGapBe 3 (some .int) :: ((wsX4_letGapBe_r1 ++ (wsX4_letGapBe_r2 ++ wsX4_letGapBe_r3)) ++ wsX40 ++ wsX20 ++ wsX10)
def wsX4_gap_r1 : List Cond := [Cond.fieldLink RX4 33 "WireLamps" "history" "LWireLamps$History;", Cond.fieldLink RX4 10 "WireLamps" "state" "LWireLamps$State;", Cond.methodLink RX4 57 yX0_save, Cond.instanceMethod yX0_save, Cond.selects RX0 yX0_save yX0_save, Cond.initialized RX0, Cond.code yX0_save cX0_save 3 none, Cond.fieldLink RX0 17 "WireLamps$History" "size" "I", Cond.fieldLink RX0 11 "WireLamps$History" "states" "[LWireLamps$State;", Cond.classLink RX0 9 RX2, Cond.instantiable RX2 13, Cond.initialized RX2, Cond.methodLink RX0 21 yX0_dropOldest, Cond.instanceMethod yX0_dropOldest, Cond.selects RX0 yX0_dropOldest yX0_dropOldest, Cond.code yX0_dropOldest cX0_dropOldest 3 none, Cond.instanceMethod yX2_init, Cond.code yX2_init cX2_init 1 none, Cond.methodLink RX2 3 objectInit, Cond.instanceMethod objectInit, Cond.code objectInit ⟨#[0xb1]⟩ 1 none, Cond.arrayClass .int, Cond.fieldLink RX2 9 "WireLamps$State" "modes" "[I", Cond.fieldLink RX2 15 "WireLamps$State" "losses" "[I"]
def wsX4_gap_r2 : List Cond := [Cond.fieldLink RX2 18 "WireLamps$State" "known" "[I", Cond.fieldLink RX2 21 "WireLamps$State" "shining" "[I", Cond.fieldLink RX2 24 "WireLamps$State" "came" "[I", Cond.fieldLink RX2 27 "WireLamps$State" "settings" "[I", Cond.fieldLink RX2 30 "WireLamps$State" "pulses" "[I", Cond.methodLink RX0 25 yX2_copyFrom, Cond.instanceMethod yX2_copyFrom, Cond.selects RX2 yX2_copyFrom yX2_copyFrom, Cond.code yX2_copyFrom cX2_copyFrom 2 none, Cond.methodLink RX2 33 arraycopyName, Cond.native arraycopyName, Cond.static arraycopyName, Cond.initialized "java/lang/System", Cond.fieldLink RX2 39 "WireLamps$State" "pulseCount" "I", Cond.fieldLink RX2 43 "WireLamps$State" "gaps" "I", Cond.fieldLink RX2 46 "WireLamps$State" "taken" "I", Cond.fieldLink RX2 49 "WireLamps$State" "lost" "I", Cond.fieldLink RX2 52 "WireLamps$State" "dropped" "I", Cond.fieldLink RX2 55 "WireLamps$State" "refused" "I", Cond.methodLink RX4 111 yX4_letGapBe, Cond.instanceMethod yX4_letGapBe, Cond.selects RX4 yX4_letGapBe yX4_letGapBe, Cond.initialized RX4, Cond.code yX4_letGapBe cX4_letGapBe 3 (some .int)]
def wsX4_gap_r3 : List Cond := [Cond.fieldLink RX4 19 "WireLamps" "journey" "LWireLamps$Journey;", Cond.fieldLink RX4 172 "WireLamps$State" "known" "[I", Cond.fieldLink RX4 226 "WireLamps$Journey" "words" "[I", Cond.fieldLink RX4 188 "WireLamps$State" "came" "[I", Cond.fieldLink RX4 273 "WireLamps$Journey" "came" "[I", Cond.fieldLink RX4 175 "WireLamps$State" "shining" "[I", Cond.fieldLink RX4 61 "WireLamps$State" "modes" "[I", Cond.fieldLink RX4 198 "WireLamps$State" "gaps" "I", Cond.fieldLink RX4 201 "WireLamps$State" "taken" "I", Cond.fieldLink RX4 274 "WireLamps$Journey" "taken" "I", Cond.fieldLink RX4 204 "WireLamps$State" "lost" "I", Cond.fieldLink RX4 99 "WireLamps$State" "pulseCount" "I", Cond.methodLink RX4 223 yX1_goThrough, Cond.instanceMethod yX1_goThrough, Cond.selects RX1 yX1_goThrough yX1_goThrough, Cond.initialized RX1, Cond.code yX1_goThrough cX1_goThrough 3 none, Cond.fieldLink RX1 21 "WireLamps$State" "pulses" "[I", Cond.fieldLink RX1 18 "WireLamps$Journey" "pulses" "[I", Cond.methodLink RX1 24 arraycopyName, Cond.fieldLink RX1 30 "WireLamps$Journey" "first" "I", Cond.fieldLink RX1 34 "WireLamps$State" "pulseCount" "I", Cond.fieldLink RX1 37 "WireLamps$Journey" "end" "I", Cond.fieldLink RX1 40 "WireLamps$Journey" "taken" "I"]
def wsX4_gap_r4 : List Cond := [Cond.fieldLink RX1 43 "WireLamps$State" "losses" "[I", Cond.fieldLink RX1 9 "WireLamps$Journey" "came" "[I", Cond.fieldLink RX1 15 "WireLamps$Journey" "words" "[I", Cond.fieldLink RX1 50 "WireLamps$State" "known" "[I", Cond.fieldLink RX1 61 "WireLamps$State" "modes" "[I", Cond.methodLink RX1 46 yX1_passWire, Cond.instanceMethod yX1_passWire, Cond.selects RX1 yX1_passWire yX1_passWire, Cond.code yX1_passWire cX1_passWire 3 none, Cond.methodLink RX1 64 yX2_shortened, Cond.static yX2_shortened, Cond.code yX2_shortened cX2_shortened 2 (some .int), Cond.methodLink RX1 53 yX2_takesWords, Cond.instanceMethod yX2_takesWords, Cond.selects RX2 yX2_takesWords yX2_takesWords, Cond.code yX2_takesWords cX2_takesWords 2 (some .boolean), Cond.methodLink RX1 57 yX1_passTaker, Cond.instanceMethod yX1_passTaker, Cond.selects RX1 yX1_passTaker yX1_passTaker, Cond.code yX1_passTaker cX1_passTaker 4 none, Cond.methodLink RX1 68 yX1_takeWord, Cond.instanceMethod yX1_takeWord, Cond.selects RX1 yX1_takeWord yX1_takeWord, Cond.code yX1_takeWord cX1_takeWord 5 (some .int)]
def wsX4_gap_r5 : List Cond := [Cond.methodLink RX1 76 yX2_isReadAs1, Cond.instanceMethod yX2_isReadAs1, Cond.selects RX2 yX2_isReadAs1 yX2_isReadAs1, Cond.code yX2_isReadAs1 cX2_isReadAs1 2 (some .boolean), Cond.methodLink RX1 72 yX2_handedOn, Cond.instanceMethod yX2_handedOn, Cond.selects RX2 yX2_handedOn yX2_handedOn, Cond.code yX2_handedOn cX2_handedOn 2 (some .int), Cond.methodLink RX2 66 yX2_isReadAs1, Cond.methodLink RX2 58 yX2_lengthFor, Cond.static yX2_lengthFor, Cond.code yX2_lengthFor cX2_lengthFor 1 (some .int)]
def wsX4_gap : List Cond := .code yX4_gap cX4_gap 1 (some .int) :: ((wsX4_gap_r1 ++ (wsX4_gap_r2 ++ (wsX4_gap_r3 ++ (wsX4_gap_r4 ++ wsX4_gap_r5)))) ++ wsX40 ++ wsX00 ++ wsX20 ++ wsX10)
def wsX4_drop_r1 : List Cond := [Cond.fieldLink RX4 33 "WireLamps" "history" "LWireLamps$History;", Cond.fieldLink RX4 10 "WireLamps" "state" "LWireLamps$State;", Cond.fieldLink RX4 99 "WireLamps$State" "pulseCount" "I", Cond.fieldLink RX4 114 "WireLamps$State" "dropped" "I", Cond.methodLink RX4 57 yX0_save, Cond.instanceMethod yX0_save, Cond.selects RX0 yX0_save yX0_save, Cond.initialized RX0, Cond.code yX0_save cX0_save 3 none, Cond.fieldLink RX0 17 "WireLamps$History" "size" "I", Cond.fieldLink RX0 11 "WireLamps$History" "states" "[LWireLamps$State;", Cond.classLink RX0 9 RX2, Cond.instantiable RX2 13, Cond.initialized RX2, Cond.methodLink RX0 21 yX0_dropOldest, Cond.instanceMethod yX0_dropOldest, Cond.selects RX0 yX0_dropOldest yX0_dropOldest, Cond.code yX0_dropOldest cX0_dropOldest 3 none, Cond.instanceMethod yX2_init, Cond.code yX2_init cX2_init 1 none, Cond.methodLink RX2 3 objectInit, Cond.instanceMethod objectInit, Cond.code objectInit ⟨#[0xb1]⟩ 1 none, Cond.arrayClass .int]
def wsX4_drop_r2 : List Cond := [Cond.fieldLink RX2 9 "WireLamps$State" "modes" "[I", Cond.fieldLink RX2 15 "WireLamps$State" "losses" "[I", Cond.fieldLink RX2 18 "WireLamps$State" "known" "[I", Cond.fieldLink RX2 21 "WireLamps$State" "shining" "[I", Cond.fieldLink RX2 24 "WireLamps$State" "came" "[I", Cond.fieldLink RX2 27 "WireLamps$State" "settings" "[I", Cond.fieldLink RX2 30 "WireLamps$State" "pulses" "[I", Cond.methodLink RX0 25 yX2_copyFrom, Cond.instanceMethod yX2_copyFrom, Cond.selects RX2 yX2_copyFrom yX2_copyFrom, Cond.code yX2_copyFrom cX2_copyFrom 2 none, Cond.methodLink RX2 33 arraycopyName, Cond.native arraycopyName, Cond.static arraycopyName, Cond.initialized "java/lang/System", Cond.fieldLink RX2 39 "WireLamps$State" "pulseCount" "I", Cond.fieldLink RX2 43 "WireLamps$State" "gaps" "I", Cond.fieldLink RX2 46 "WireLamps$State" "taken" "I", Cond.fieldLink RX2 49 "WireLamps$State" "lost" "I", Cond.fieldLink RX2 52 "WireLamps$State" "dropped" "I", Cond.fieldLink RX2 55 "WireLamps$State" "refused" "I"]
def wsX4_drop : List Cond := .code yX4_drop cX4_drop 2 (some .int) :: ((wsX4_drop_r1 ++ wsX4_drop_r2) ++ wsX40 ++ wsX20 ++ wsX00)
def wsX4_append : List Cond := .code yX4_append cX4_append 2 (some .int) :: ([.classLink RX4 52 "java/lang/IllegalArgumentException", .initialized "java/lang/IllegalArgumentException", .classLink RX4 122 "java/lang/IllegalStateException", .initialized "java/lang/IllegalStateException", .fieldLink RX4 26 "WireLamps" "text" "LWireLamps$Text;", .fieldLink RX4 119 "WireLamps$Text" "length" "I", .methodLink RX4 127 yX3_add, .instanceMethod yX3_add, .selects RX3 yX3_add yX3_add, .initialized RX3, .code yX3_add cX3_add 2 none, .fieldLink RX3 15 "WireLamps$Text" "length" "I", .fieldLink RX3 9 "WireLamps$Text" "signs" "[C"] ++ wsX40 ++ wsX30 ++ (vx_atS RX4 56 "java/lang/IllegalArgumentException" ["java/lang/RuntimeException", "java/lang/Exception"]).filter goodWord ++ (vx_atS RX4 126 "java/lang/IllegalStateException" ["java/lang/RuntimeException", "java/lang/Exception"]).filter goodWord)
def wsX4_clearBuffer : List Cond := .code yX4_clearBuffer cX4_clearBuffer 2 (some .int) :: ([.fieldLink RX4 26 "WireLamps" "text" "LWireLamps$Text;", .fieldLink RX4 119 "WireLamps$Text" "length" "I", .methodLink RX4 131 yX3_empty, .instanceMethod yX3_empty, .selects RX3 yX3_empty yX3_empty, .initialized RX3, .code yX3_empty cX3_empty 1 none, .fieldLink RX3 15 "WireLamps$Text" "length" "I"] ++ wsX40 ++ wsX30)
def wsX4_firstError : List Cond := .code yX4_firstError cX4_firstError 1 (some .int) :: ([.fieldLink RX4 26 "WireLamps" "text" "LWireLamps$Text;", .methodLink RX4 134 yX3_errorPlace, .instanceMethod yX3_errorPlace, .selects RX3 yX3_errorPlace yX3_errorPlace, .initialized RX3, .code yX3_errorPlace cX3_errorPlace 2 (some .int), .fieldLink RX3 15 "WireLamps$Text" "length" "I", .methodLink RX3 19 yX3_fits, .instanceMethod yX3_fits, .selects RX3 yX3_fits yX3_fits, .code yX3_fits cX3_fits 4 (some .boolean), .methodLink RX3 23 yX3_signAt, .instanceMethod yX3_signAt, .selects RX3 yX3_signAt yX3_signAt, .code yX3_signAt cX3_signAt 2 (some .char), .fieldLink RX3 9 "WireLamps$Text" "signs" "[C", .methodLink RX3 27 yX3_digitOf, .static yX3_digitOf, .code yX3_digitOf cX3_digitOf 1 (some .int)] ++ wsX40 ++ wsX30)
def wsX4_load_r1 : List Cond := [Cond.classLink RX4 52 "java/lang/IllegalArgumentException", Cond.initialized "java/lang/IllegalArgumentException", Cond.fieldLink RX4 26 "WireLamps" "text" "LWireLamps$Text;", Cond.fieldLink RX4 33 "WireLamps" "history" "LWireLamps$History;", Cond.fieldLink RX4 10 "WireLamps" "state" "LWireLamps$State;", Cond.methodLink RX4 137 yX3_wordsTold, Cond.instanceMethod yX3_wordsTold, Cond.selects RX3 yX3_wordsTold yX3_wordsTold, Cond.initialized RX3, Cond.code yX3_wordsTold cX3_wordsTold 2 (some .int), Cond.fieldLink RX3 15 "WireLamps$Text" "length" "I", Cond.methodLink RX3 31 yX3_endsWithGap, Cond.instanceMethod yX3_endsWithGap, Cond.selects RX3 yX3_endsWithGap yX3_endsWithGap, Cond.code yX3_endsWithGap cX3_endsWithGap 1 (some .boolean), Cond.methodLink RX3 23 yX3_signAt, Cond.instanceMethod yX3_signAt, Cond.selects RX3 yX3_signAt yX3_signAt, Cond.code yX3_signAt cX3_signAt 2 (some .char), Cond.fieldLink RX3 9 "WireLamps$Text" "signs" "[C", Cond.methodLink RX3 35 yX3_errorPlace, Cond.instanceMethod yX3_errorPlace, Cond.selects RX3 yX3_errorPlace yX3_errorPlace, Cond.code yX3_errorPlace cX3_errorPlace 2 (some .int)]
def wsX4_load_r2 : List Cond := [Cond.methodLink RX3 19 yX3_fits, Cond.instanceMethod yX3_fits, Cond.selects RX3 yX3_fits yX3_fits, Cond.code yX3_fits cX3_fits 4 (some .boolean), Cond.methodLink RX3 27 yX3_digitOf, Cond.static yX3_digitOf, Cond.code yX3_digitOf cX3_digitOf 1 (some .int), Cond.methodLink RX4 57 yX0_save, Cond.instanceMethod yX0_save, Cond.selects RX0 yX0_save yX0_save, Cond.initialized RX0, Cond.code yX0_save cX0_save 3 none, Cond.fieldLink RX0 17 "WireLamps$History" "size" "I", Cond.fieldLink RX0 11 "WireLamps$History" "states" "[LWireLamps$State;", Cond.classLink RX0 9 RX2, Cond.instantiable RX2 13, Cond.initialized RX2, Cond.methodLink RX0 21 yX0_dropOldest, Cond.instanceMethod yX0_dropOldest, Cond.selects RX0 yX0_dropOldest yX0_dropOldest, Cond.code yX0_dropOldest cX0_dropOldest 3 none, Cond.instanceMethod yX2_init, Cond.code yX2_init cX2_init 1 none, Cond.methodLink RX2 3 objectInit]
def wsX4_load_r3 : List Cond := [Cond.instanceMethod objectInit, Cond.code objectInit ⟨#[0xb1]⟩ 1 none, Cond.arrayClass .int, Cond.fieldLink RX2 9 "WireLamps$State" "modes" "[I", Cond.fieldLink RX2 15 "WireLamps$State" "losses" "[I", Cond.fieldLink RX2 18 "WireLamps$State" "known" "[I", Cond.fieldLink RX2 21 "WireLamps$State" "shining" "[I", Cond.fieldLink RX2 24 "WireLamps$State" "came" "[I", Cond.fieldLink RX2 27 "WireLamps$State" "settings" "[I", Cond.fieldLink RX2 30 "WireLamps$State" "pulses" "[I", Cond.methodLink RX0 25 yX2_copyFrom, Cond.instanceMethod yX2_copyFrom, Cond.selects RX2 yX2_copyFrom yX2_copyFrom, Cond.code yX2_copyFrom cX2_copyFrom 2 none, Cond.methodLink RX2 33 arraycopyName, Cond.native arraycopyName, Cond.static arraycopyName, Cond.initialized "java/lang/System", Cond.fieldLink RX2 39 "WireLamps$State" "pulseCount" "I", Cond.fieldLink RX2 43 "WireLamps$State" "gaps" "I", Cond.fieldLink RX2 46 "WireLamps$State" "taken" "I", Cond.fieldLink RX2 49 "WireLamps$State" "lost" "I", Cond.fieldLink RX2 52 "WireLamps$State" "dropped" "I", Cond.fieldLink RX2 55 "WireLamps$State" "refused" "I"]
def wsX4_load_r4 : List Cond := [Cond.methodLink RX4 88 yX2_hasRoomFor, Cond.instanceMethod yX2_hasRoomFor, Cond.selects RX2 yX2_hasRoomFor yX2_hasRoomFor, Cond.code yX2_hasRoomFor cX2_hasRoomFor 2 (some .boolean), Cond.methodLink RX4 131 yX3_empty, Cond.instanceMethod yX3_empty, Cond.selects RX3 yX3_empty yX3_empty, Cond.code yX3_empty cX3_empty 1 none, Cond.methodLink RX4 91 yX4_refuse, Cond.instanceMethod yX4_refuse, Cond.selects RX4 yX4_refuse yX4_refuse, Cond.initialized RX4, Cond.code yX4_refuse cX4_refuse 1 (some .int), Cond.fieldLink RX4 213 "WireLamps$State" "refused" "I", Cond.methodLink RX4 142 yX3_wordAt, Cond.instanceMethod yX3_wordAt, Cond.selects RX3 yX3_wordAt yX3_wordAt, Cond.code yX3_wordAt cX3_wordAt 4 (some .int), Cond.methodLink RX4 108 yX2_addWord, Cond.instanceMethod yX2_addWord, Cond.selects RX2 yX2_addWord yX2_addWord, Cond.code yX2_addWord cX2_addWord 3 none, Cond.methodLink RX2 58 yX2_lengthFor, Cond.static yX2_lengthFor]
def wsX4_load_r5 : List Cond := [Cond.code yX2_lengthFor cX2_lengthFor 1 (some .int), Cond.methodLink RX2 62 yX2_addPulse, Cond.instanceMethod yX2_addPulse, Cond.selects RX2 yX2_addPulse yX2_addPulse, Cond.code yX2_addPulse cX2_addPulse 2 none, Cond.methodLink RX4 146 yX3_endsWithGap, Cond.methodLink RX4 111 yX4_letGapBe, Cond.instanceMethod yX4_letGapBe, Cond.selects RX4 yX4_letGapBe yX4_letGapBe, Cond.code yX4_letGapBe cX4_letGapBe 3 (some .int), Cond.fieldLink RX4 19 "WireLamps" "journey" "LWireLamps$Journey;", Cond.fieldLink RX4 172 "WireLamps$State" "known" "[I", Cond.fieldLink RX4 226 "WireLamps$Journey" "words" "[I", Cond.fieldLink RX4 188 "WireLamps$State" "came" "[I", Cond.fieldLink RX4 273 "WireLamps$Journey" "came" "[I", Cond.fieldLink RX4 175 "WireLamps$State" "shining" "[I", Cond.fieldLink RX4 61 "WireLamps$State" "modes" "[I", Cond.fieldLink RX4 198 "WireLamps$State" "gaps" "I", Cond.fieldLink RX4 201 "WireLamps$State" "taken" "I", Cond.fieldLink RX4 274 "WireLamps$Journey" "taken" "I", Cond.fieldLink RX4 204 "WireLamps$State" "lost" "I", Cond.fieldLink RX4 99 "WireLamps$State" "pulseCount" "I", Cond.methodLink RX4 223 yX1_goThrough, Cond.instanceMethod yX1_goThrough]
def wsX4_load_r6 : List Cond := [Cond.selects RX1 yX1_goThrough yX1_goThrough, Cond.initialized RX1, Cond.code yX1_goThrough cX1_goThrough 3 none, Cond.fieldLink RX1 21 "WireLamps$State" "pulses" "[I", Cond.fieldLink RX1 18 "WireLamps$Journey" "pulses" "[I", Cond.methodLink RX1 24 arraycopyName, Cond.fieldLink RX1 30 "WireLamps$Journey" "first" "I", Cond.fieldLink RX1 34 "WireLamps$State" "pulseCount" "I", Cond.fieldLink RX1 37 "WireLamps$Journey" "end" "I", Cond.fieldLink RX1 40 "WireLamps$Journey" "taken" "I", Cond.fieldLink RX1 43 "WireLamps$State" "losses" "[I", Cond.fieldLink RX1 9 "WireLamps$Journey" "came" "[I", Cond.fieldLink RX1 15 "WireLamps$Journey" "words" "[I", Cond.fieldLink RX1 50 "WireLamps$State" "known" "[I", Cond.fieldLink RX1 61 "WireLamps$State" "modes" "[I", Cond.methodLink RX1 46 yX1_passWire, Cond.instanceMethod yX1_passWire, Cond.selects RX1 yX1_passWire yX1_passWire, Cond.code yX1_passWire cX1_passWire 3 none, Cond.methodLink RX1 64 yX2_shortened, Cond.static yX2_shortened, Cond.code yX2_shortened cX2_shortened 2 (some .int), Cond.methodLink RX1 53 yX2_takesWords, Cond.instanceMethod yX2_takesWords]
def wsX4_load_r7 : List Cond := [Cond.selects RX2 yX2_takesWords yX2_takesWords, Cond.code yX2_takesWords cX2_takesWords 2 (some .boolean), Cond.methodLink RX1 57 yX1_passTaker, Cond.instanceMethod yX1_passTaker, Cond.selects RX1 yX1_passTaker yX1_passTaker, Cond.code yX1_passTaker cX1_passTaker 4 none, Cond.methodLink RX1 68 yX1_takeWord, Cond.instanceMethod yX1_takeWord, Cond.selects RX1 yX1_takeWord yX1_takeWord, Cond.code yX1_takeWord cX1_takeWord 5 (some .int), Cond.methodLink RX1 76 yX2_isReadAs1, Cond.instanceMethod yX2_isReadAs1, Cond.selects RX2 yX2_isReadAs1 yX2_isReadAs1, Cond.code yX2_isReadAs1 cX2_isReadAs1 2 (some .boolean), Cond.methodLink RX1 72 yX2_handedOn, Cond.instanceMethod yX2_handedOn, Cond.selects RX2 yX2_handedOn yX2_handedOn, Cond.code yX2_handedOn cX2_handedOn 2 (some .int), Cond.methodLink RX2 66 yX2_isReadAs1]
def wsX4_load : List Cond := .code yX4_load cX4_load 3 (some .int) :: ((wsX4_load_r1 ++ (wsX4_load_r2 ++ (wsX4_load_r3 ++ (wsX4_load_r4 ++ (wsX4_load_r5 ++ (wsX4_load_r6 ++ wsX4_load_r7)))))) ++ wsX40 ++ wsX30 ++ wsX00 ++ wsX20 ++ wsX10 ++ (vx_atS RX4 56 "java/lang/IllegalArgumentException" ["java/lang/RuntimeException", "java/lang/Exception"]).filter goodWord)
def wsX4_isSlot : List Cond := .code yX4_isSlot cX4_isSlot 1 (some .boolean) :: ([])
def wsX4_keep_r1 : List Cond := [Cond.classLink RX4 52 "java/lang/IllegalArgumentException", Cond.initialized "java/lang/IllegalArgumentException", Cond.fieldLink RX4 37 "WireLamps" "slots" "[LWireLamps$State;", Cond.classLink RX4 7 RX2, Cond.instantiable RX2 13, Cond.initialized RX2, Cond.fieldLink RX4 10 "WireLamps" "state" "LWireLamps$State;", Cond.fieldLink RX4 99 "WireLamps$State" "pulseCount" "I", Cond.methodLink RX4 150 yX4_isSlot, Cond.static yX4_isSlot, Cond.initialized RX4, Cond.code yX4_isSlot cX4_isSlot 1 (some .boolean), Cond.instanceMethod yX2_init, Cond.code yX2_init cX2_init 1 none, Cond.methodLink RX2 3 objectInit, Cond.instanceMethod objectInit, Cond.code objectInit ⟨#[0xb1]⟩ 1 none, Cond.arrayClass .int, Cond.fieldLink RX2 9 "WireLamps$State" "modes" "[I", Cond.fieldLink RX2 15 "WireLamps$State" "losses" "[I", Cond.fieldLink RX2 18 "WireLamps$State" "known" "[I", Cond.fieldLink RX2 21 "WireLamps$State" "shining" "[I", Cond.fieldLink RX2 24 "WireLamps$State" "came" "[I", Cond.fieldLink RX2 27 "WireLamps$State" "settings" "[I"]
def wsX4_keep_r2 : List Cond := [Cond.fieldLink RX2 30 "WireLamps$State" "pulses" "[I", Cond.methodLink RX4 155 yX2_copyFrom, Cond.instanceMethod yX2_copyFrom, Cond.selects RX2 yX2_copyFrom yX2_copyFrom, Cond.code yX2_copyFrom cX2_copyFrom 2 none, Cond.methodLink RX2 33 arraycopyName, Cond.native arraycopyName, Cond.static arraycopyName, Cond.initialized "java/lang/System", Cond.fieldLink RX2 39 "WireLamps$State" "pulseCount" "I", Cond.fieldLink RX2 43 "WireLamps$State" "gaps" "I", Cond.fieldLink RX2 46 "WireLamps$State" "taken" "I", Cond.fieldLink RX2 49 "WireLamps$State" "lost" "I", Cond.fieldLink RX2 52 "WireLamps$State" "dropped" "I", Cond.fieldLink RX2 55 "WireLamps$State" "refused" "I"]
def wsX4_keep : List Cond := .code yX4_keep cX4_keep 3 (some .int) :: ((wsX4_keep_r1 ++ wsX4_keep_r2) ++ wsX40 ++ wsX20 ++ (vx_atS RX4 56 "java/lang/IllegalArgumentException" ["java/lang/RuntimeException", "java/lang/Exception"]).filter goodWord)
def wsX4_goBack_r1 : List Cond := [Cond.classLink RX4 52 "java/lang/IllegalArgumentException", Cond.initialized "java/lang/IllegalArgumentException", Cond.classLink RX4 122 "java/lang/IllegalStateException", Cond.initialized "java/lang/IllegalStateException", Cond.fieldLink RX4 37 "WireLamps" "slots" "[LWireLamps$State;", Cond.fieldLink RX4 33 "WireLamps" "history" "LWireLamps$History;", Cond.fieldLink RX4 10 "WireLamps" "state" "LWireLamps$State;", Cond.fieldLink RX4 99 "WireLamps$State" "pulseCount" "I", Cond.methodLink RX4 150 yX4_isSlot, Cond.static yX4_isSlot, Cond.initialized RX4, Cond.code yX4_isSlot cX4_isSlot 1 (some .boolean), Cond.methodLink RX4 57 yX0_save, Cond.instanceMethod yX0_save, Cond.selects RX0 yX0_save yX0_save, Cond.initialized RX0, Cond.code yX0_save cX0_save 3 none, Cond.fieldLink RX0 17 "WireLamps$History" "size" "I", Cond.fieldLink RX0 11 "WireLamps$History" "states" "[LWireLamps$State;", Cond.classLink RX0 9 RX2, Cond.instantiable RX2 13, Cond.initialized RX2, Cond.methodLink RX0 21 yX0_dropOldest, Cond.instanceMethod yX0_dropOldest]
def wsX4_goBack_r2 : List Cond := [Cond.selects RX0 yX0_dropOldest yX0_dropOldest, Cond.code yX0_dropOldest cX0_dropOldest 3 none, Cond.instanceMethod yX2_init, Cond.code yX2_init cX2_init 1 none, Cond.methodLink RX2 3 objectInit, Cond.instanceMethod objectInit, Cond.code objectInit ⟨#[0xb1]⟩ 1 none, Cond.arrayClass .int, Cond.fieldLink RX2 9 "WireLamps$State" "modes" "[I", Cond.fieldLink RX2 15 "WireLamps$State" "losses" "[I", Cond.fieldLink RX2 18 "WireLamps$State" "known" "[I", Cond.fieldLink RX2 21 "WireLamps$State" "shining" "[I", Cond.fieldLink RX2 24 "WireLamps$State" "came" "[I", Cond.fieldLink RX2 27 "WireLamps$State" "settings" "[I", Cond.fieldLink RX2 30 "WireLamps$State" "pulses" "[I", Cond.methodLink RX0 25 yX2_copyFrom, Cond.instanceMethod yX2_copyFrom, Cond.selects RX2 yX2_copyFrom yX2_copyFrom, Cond.code yX2_copyFrom cX2_copyFrom 2 none, Cond.methodLink RX2 33 arraycopyName, Cond.native arraycopyName, Cond.static arraycopyName, Cond.initialized "java/lang/System", Cond.fieldLink RX2 39 "WireLamps$State" "pulseCount" "I"]
def wsX4_goBack_r3 : List Cond := [Cond.fieldLink RX2 43 "WireLamps$State" "gaps" "I", Cond.fieldLink RX2 46 "WireLamps$State" "taken" "I", Cond.fieldLink RX2 49 "WireLamps$State" "lost" "I", Cond.fieldLink RX2 52 "WireLamps$State" "dropped" "I", Cond.fieldLink RX2 55 "WireLamps$State" "refused" "I", Cond.methodLink RX4 155 yX2_copyFrom]
def wsX4_goBack : List Cond := .code yX4_goBack cX4_goBack 3 (some .int) :: ((wsX4_goBack_r1 ++ (wsX4_goBack_r2 ++ wsX4_goBack_r3)) ++ wsX40 ++ wsX20 ++ wsX00 ++ (vx_atS RX4 56 "java/lang/IllegalArgumentException" ["java/lang/RuntimeException", "java/lang/Exception"]).filter goodWord ++ (vx_atS RX4 126 "java/lang/IllegalStateException" ["java/lang/RuntimeException", "java/lang/Exception"]).filter goodWord)
def wsX4_undo_r1 : List Cond := [Cond.classLink RX4 122 "java/lang/IllegalStateException", Cond.initialized "java/lang/IllegalStateException", Cond.fieldLink RX4 33 "WireLamps" "history" "LWireLamps$History;", Cond.fieldLink RX4 10 "WireLamps" "state" "LWireLamps$State;", Cond.fieldLink RX4 169 "WireLamps$History" "size" "I", Cond.methodLink RX4 160 yX0_latest, Cond.instanceMethod yX0_latest, Cond.selects RX0 yX0_latest yX0_latest, Cond.initialized RX0, Cond.code yX0_latest cX0_latest 1 (some (.object "WireLamps$State")), Cond.fieldLink RX0 17 "WireLamps$History" "size" "I", Cond.fieldLink RX0 11 "WireLamps$History" "states" "[LWireLamps$State;", Cond.methodLink RX4 155 yX2_copyFrom, Cond.instanceMethod yX2_copyFrom, Cond.selects RX2 yX2_copyFrom yX2_copyFrom, Cond.initialized RX2, Cond.code yX2_copyFrom cX2_copyFrom 2 none, Cond.fieldLink RX2 9 "WireLamps$State" "modes" "[I", Cond.methodLink RX2 33 arraycopyName, Cond.native arraycopyName, Cond.static arraycopyName, Cond.initialized "java/lang/System", Cond.fieldLink RX2 15 "WireLamps$State" "losses" "[I", Cond.fieldLink RX2 18 "WireLamps$State" "known" "[I"]
def wsX4_undo_r2 : List Cond := [Cond.fieldLink RX2 21 "WireLamps$State" "shining" "[I", Cond.fieldLink RX2 24 "WireLamps$State" "came" "[I", Cond.fieldLink RX2 27 "WireLamps$State" "settings" "[I", Cond.fieldLink RX2 30 "WireLamps$State" "pulses" "[I", Cond.fieldLink RX2 39 "WireLamps$State" "pulseCount" "I", Cond.fieldLink RX2 43 "WireLamps$State" "gaps" "I", Cond.fieldLink RX2 46 "WireLamps$State" "taken" "I", Cond.fieldLink RX2 49 "WireLamps$State" "lost" "I", Cond.fieldLink RX2 52 "WireLamps$State" "dropped" "I", Cond.fieldLink RX2 55 "WireLamps$State" "refused" "I", Cond.methodLink RX4 166 yX0_forgetLatest, Cond.instanceMethod yX0_forgetLatest, Cond.selects RX0 yX0_forgetLatest yX0_forgetLatest, Cond.code yX0_forgetLatest cX0_forgetLatest 1 none]
def wsX4_undo : List Cond := .code yX4_undo cX4_undo 2 (some .int) :: ((wsX4_undo_r1 ++ wsX4_undo_r2) ++ wsX40 ++ wsX00 ++ wsX20 ++ (vx_atS RX4 126 "java/lang/IllegalStateException" ["java/lang/RuntimeException", "java/lang/Exception"]).filter goodWord)
def wsX4_lampOf_r1 : List Cond := [Cond.classLink RX4 45 "java/lang/IndexOutOfBoundsException", Cond.initialized "java/lang/IndexOutOfBoundsException", Cond.classLink RX4 52 "java/lang/IllegalArgumentException", Cond.initialized "java/lang/IllegalArgumentException", Cond.fieldLink RX4 10 "WireLamps" "state" "LWireLamps$State;", Cond.fieldLink RX4 61 "WireLamps$State" "modes" "[I", Cond.fieldLink RX4 67 "WireLamps$State" "losses" "[I", Cond.fieldLink RX4 172 "WireLamps$State" "known" "[I", Cond.fieldLink RX4 175 "WireLamps$State" "shining" "[I", Cond.fieldLink RX4 188 "WireLamps$State" "came" "[I", Cond.methodLink RX4 41 yX4_isLamp, Cond.static yX4_isLamp, Cond.initialized RX4, Cond.code yX4_isLamp cX4_isLamp 1 (some .boolean), Cond.methodLink RX4 178 yX2_brightnessOf, Cond.static yX2_brightnessOf, Cond.initialized RX2, Cond.code yX2_brightnessOf cX2_brightnessOf 2 (some .int), Cond.methodLink RX4 182 yX2_currentWanted, Cond.instanceMethod yX2_currentWanted, Cond.selects RX2 yX2_currentWanted yX2_currentWanted, Cond.code yX2_currentWanted cX2_currentWanted 4 (some .int), Cond.fieldLink RX2 21 "WireLamps$State" "shining" "[I", Cond.methodLink RX2 70 yX2_brightnessOf]
def wsX4_lampOf_r2 : List Cond := [Cond.methodLink RX4 185 yX2_shown, Cond.instanceMethod yX2_shown, Cond.selects RX2 yX2_shown yX2_shown, Cond.code yX2_shown cX2_shown 3 (some .int), Cond.fieldLink RX2 27 "WireLamps$State" "settings" "[I"]
def wsX4_lampOf : List Cond := .code yX4_lampOf cX4_lampOf 3 (some .int) :: ((wsX4_lampOf_r1 ++ wsX4_lampOf_r2) ++ wsX40 ++ wsX20 ++ (vx_atS RX4 49 "java/lang/IndexOutOfBoundsException" ["java/lang/RuntimeException", "java/lang/Exception"]).filter goodWord ++ (vx_atS RX4 56 "java/lang/IllegalArgumentException" ["java/lang/RuntimeException", "java/lang/Exception"]).filter goodWord)
def wsX4_pulseAt : List Cond := .code yX4_pulseAt cX4_pulseAt 2 (some .int) :: ([.classLink RX4 52 "java/lang/IllegalArgumentException", .initialized "java/lang/IllegalArgumentException", .fieldLink RX4 10 "WireLamps" "state" "LWireLamps$State;", .fieldLink RX4 99 "WireLamps$State" "pulseCount" "I", .fieldLink RX4 195 "WireLamps$State" "pulses" "[I"] ++ wsX40 ++ wsX20 ++ (vx_atS RX4 56 "java/lang/IllegalArgumentException" ["java/lang/RuntimeException", "java/lang/Exception"]).filter goodWord)
def wsX4_count_r1 : List Cond := [Cond.classLink RX4 52 "java/lang/IllegalArgumentException", Cond.initialized "java/lang/IllegalArgumentException", Cond.fieldLink RX4 10 "WireLamps" "state" "LWireLamps$State;", Cond.fieldLink RX4 99 "WireLamps$State" "pulseCount" "I", Cond.fieldLink RX4 198 "WireLamps$State" "gaps" "I", Cond.fieldLink RX4 201 "WireLamps$State" "taken" "I", Cond.fieldLink RX4 204 "WireLamps$State" "lost" "I", Cond.fieldLink RX4 114 "WireLamps$State" "dropped" "I", Cond.fieldLink RX4 213 "WireLamps$State" "refused" "I", Cond.fieldLink RX4 33 "WireLamps" "history" "LWireLamps$History;", Cond.fieldLink RX4 169 "WireLamps$History" "size" "I", Cond.methodLink RX4 182 yX2_currentWanted, Cond.instanceMethod yX2_currentWanted, Cond.selects RX2 yX2_currentWanted yX2_currentWanted, Cond.initialized RX2, Cond.code yX2_currentWanted cX2_currentWanted 4 (some .int), Cond.fieldLink RX2 21 "WireLamps$State" "shining" "[I", Cond.methodLink RX2 70 yX2_brightnessOf, Cond.static yX2_brightnessOf, Cond.code yX2_brightnessOf cX2_brightnessOf 2 (some .int), Cond.methodLink RX4 207 yX2_shownTogether, Cond.instanceMethod yX2_shownTogether, Cond.selects RX2 yX2_shownTogether yX2_shownTogether, Cond.code yX2_shownTogether cX2_shownTogether 5 (some .int)]
def wsX4_count_r2 : List Cond := [Cond.methodLink RX2 74 yX2_currentWanted, Cond.methodLink RX2 78 yX2_shown, Cond.instanceMethod yX2_shown, Cond.selects RX2 yX2_shown yX2_shown, Cond.code yX2_shown cX2_shown 3 (some .int), Cond.fieldLink RX2 27 "WireLamps$State" "settings" "[I", Cond.methodLink RX4 210 yX2_lampsThatShine, Cond.instanceMethod yX2_lampsThatShine, Cond.selects RX2 yX2_lampsThatShine yX2_lampsThatShine, Cond.code yX2_lampsThatShine cX2_lampsThatShine 3 (some .int)]
def wsX4_count : List Cond := .code yX4_count cX4_count 2 (some .int) :: ((wsX4_count_r1 ++ wsX4_count_r2) ++ wsX40 ++ wsX20 ++ wsX00 ++ (vx_atS RX4 56 "java/lang/IllegalArgumentException" ["java/lang/RuntimeException", "java/lang/Exception"]).filter goodWord)
def wsX4_setting : List Cond := .code yX4_setting cX4_setting 2 (some .int) :: ([.classLink RX4 45 "java/lang/IndexOutOfBoundsException", .initialized "java/lang/IndexOutOfBoundsException", .fieldLink RX4 10 "WireLamps" "state" "LWireLamps$State;", .fieldLink RX4 83 "WireLamps$State" "settings" "[I", .methodLink RX4 70 yX4_isSetting, .static yX4_isSetting, .initialized RX4, .code yX4_isSetting cX4_isSetting 1 (some .boolean)] ++ wsX40 ++ wsX20 ++ (vx_atS RX4 49 "java/lang/IndexOutOfBoundsException" ["java/lang/RuntimeException", "java/lang/Exception"]).filter goodWord)
def wsX4_ifGap_r1 : List Cond := [Cond.classLink RX4 45 "java/lang/IndexOutOfBoundsException", Cond.initialized "java/lang/IndexOutOfBoundsException", Cond.classLink RX4 52 "java/lang/IllegalArgumentException", Cond.initialized "java/lang/IllegalArgumentException", Cond.fieldLink RX4 10 "WireLamps" "state" "LWireLamps$State;", Cond.fieldLink RX4 19 "WireLamps" "journey" "LWireLamps$Journey;", Cond.fieldLink RX4 226 "WireLamps$Journey" "words" "[I", Cond.methodLink RX4 41 yX4_isLamp, Cond.static yX4_isLamp, Cond.initialized RX4, Cond.code yX4_isLamp cX4_isLamp 1 (some .boolean), Cond.methodLink RX4 220 yX2_wordByPlace, Cond.instanceMethod yX2_wordByPlace, Cond.selects RX2 yX2_wordByPlace yX2_wordByPlace, Cond.initialized RX2, Cond.code yX2_wordByPlace cX2_wordByPlace 6 (some .int), Cond.fieldLink RX2 39 "WireLamps$State" "pulseCount" "I", Cond.fieldLink RX2 18 "WireLamps$State" "known" "[I", Cond.fieldLink RX2 30 "WireLamps$State" "pulses" "[I", Cond.methodLink RX2 84 yX2_wordsUpTo, Cond.instanceMethod yX2_wordsUpTo, Cond.selects RX2 yX2_wordsUpTo yX2_wordsUpTo, Cond.code yX2_wordsUpTo cX2_wordsUpTo 4 (some .int), Cond.fieldLink RX2 9 "WireLamps$State" "modes" "[I"]
def wsX4_ifGap_r2 : List Cond := [Cond.methodLink RX2 81 yX2_takesWords, Cond.instanceMethod yX2_takesWords, Cond.selects RX2 yX2_takesWords yX2_takesWords, Cond.code yX2_takesWords cX2_takesWords 2 (some .boolean), Cond.methodLink RX2 88 yX2_lengthAt, Cond.instanceMethod yX2_lengthAt, Cond.selects RX2 yX2_lengthAt yX2_lengthAt, Cond.code yX2_lengthAt cX2_lengthAt 5 (some .int), Cond.fieldLink RX2 15 "WireLamps$State" "losses" "[I", Cond.methodLink RX2 91 yX2_shortened, Cond.static yX2_shortened, Cond.code yX2_shortened cX2_shortened 2 (some .int), Cond.methodLink RX2 94 yX2_handedOn, Cond.instanceMethod yX2_handedOn, Cond.selects RX2 yX2_handedOn yX2_handedOn, Cond.code yX2_handedOn cX2_handedOn 2 (some .int), Cond.fieldLink RX2 27 "WireLamps$State" "settings" "[I", Cond.methodLink RX2 66 yX2_isReadAs1, Cond.instanceMethod yX2_isReadAs1, Cond.selects RX2 yX2_isReadAs1 yX2_isReadAs1, Cond.code yX2_isReadAs1 cX2_isReadAs1 2 (some .boolean), Cond.methodLink RX2 58 yX2_lengthFor, Cond.static yX2_lengthFor, Cond.code yX2_lengthFor cX2_lengthFor 1 (some .int)]
def wsX4_ifGap_r3 : List Cond := [Cond.methodLink RX4 223 yX1_goThrough, Cond.instanceMethod yX1_goThrough, Cond.selects RX1 yX1_goThrough yX1_goThrough, Cond.initialized RX1, Cond.code yX1_goThrough cX1_goThrough 3 none, Cond.fieldLink RX1 21 "WireLamps$State" "pulses" "[I", Cond.fieldLink RX1 18 "WireLamps$Journey" "pulses" "[I", Cond.methodLink RX1 24 arraycopyName, Cond.native arraycopyName, Cond.static arraycopyName, Cond.initialized "java/lang/System", Cond.fieldLink RX1 30 "WireLamps$Journey" "first" "I", Cond.fieldLink RX1 34 "WireLamps$State" "pulseCount" "I", Cond.fieldLink RX1 37 "WireLamps$Journey" "end" "I", Cond.fieldLink RX1 40 "WireLamps$Journey" "taken" "I", Cond.fieldLink RX1 43 "WireLamps$State" "losses" "[I", Cond.fieldLink RX1 9 "WireLamps$Journey" "came" "[I", Cond.fieldLink RX1 15 "WireLamps$Journey" "words" "[I", Cond.fieldLink RX1 50 "WireLamps$State" "known" "[I", Cond.fieldLink RX1 61 "WireLamps$State" "modes" "[I", Cond.methodLink RX1 46 yX1_passWire, Cond.instanceMethod yX1_passWire, Cond.selects RX1 yX1_passWire yX1_passWire, Cond.code yX1_passWire cX1_passWire 3 none]
def wsX4_ifGap_r4 : List Cond := [Cond.methodLink RX1 64 yX2_shortened, Cond.methodLink RX1 53 yX2_takesWords, Cond.methodLink RX1 57 yX1_passTaker, Cond.instanceMethod yX1_passTaker, Cond.selects RX1 yX1_passTaker yX1_passTaker, Cond.code yX1_passTaker cX1_passTaker 4 none, Cond.methodLink RX1 68 yX1_takeWord, Cond.instanceMethod yX1_takeWord, Cond.selects RX1 yX1_takeWord yX1_takeWord, Cond.code yX1_takeWord cX1_takeWord 5 (some .int), Cond.methodLink RX1 76 yX2_isReadAs1, Cond.methodLink RX1 72 yX2_handedOn]
def wsX4_ifGap : List Cond := .code yX4_ifGap cX4_ifGap 3 (some .int) :: ((wsX4_ifGap_r1 ++ (wsX4_ifGap_r2 ++ (wsX4_ifGap_r3 ++ wsX4_ifGap_r4))) ++ wsX40 ++ wsX10 ++ wsX20 ++ (vx_atS RX4 49 "java/lang/IndexOutOfBoundsException" ["java/lang/RuntimeException", "java/lang/Exception"]).filter goodWord ++ (vx_atS RX4 56 "java/lang/IllegalArgumentException" ["java/lang/RuntimeException", "java/lang/Exception"]).filter goodWord)
def wsX4_wrong_r1 : List Cond := [Cond.classLink RX4 52 "java/lang/IllegalArgumentException", Cond.initialized "java/lang/IllegalArgumentException", Cond.fieldLink RX4 10 "WireLamps" "state" "LWireLamps$State;", Cond.methodLink RX4 103 yX4_isWord, Cond.static yX4_isWord, Cond.initialized RX4, Cond.code yX4_isWord cX4_isWord 1 (some .boolean), Cond.methodLink RX4 229 yX2_wrongWith, Cond.instanceMethod yX2_wrongWith, Cond.selects RX2 yX2_wrongWith yX2_wrongWith, Cond.initialized RX2, Cond.code yX2_wrongWith cX2_wrongWith 11 (some .int), Cond.fieldLink RX2 15 "WireLamps$State" "losses" "[I", Cond.fieldLink RX2 18 "WireLamps$State" "known" "[I", Cond.fieldLink RX2 9 "WireLamps$State" "modes" "[I", Cond.methodLink RX2 91 yX2_shortened, Cond.static yX2_shortened, Cond.code yX2_shortened cX2_shortened 2 (some .int), Cond.methodLink RX2 81 yX2_takesWords, Cond.instanceMethod yX2_takesWords, Cond.selects RX2 yX2_takesWords yX2_takesWords, Cond.code yX2_takesWords cX2_takesWords 2 (some .boolean), Cond.methodLink RX2 66 yX2_isReadAs1, Cond.instanceMethod yX2_isReadAs1]
def wsX4_wrong_r2 : List Cond := [Cond.selects RX2 yX2_isReadAs1 yX2_isReadAs1, Cond.code yX2_isReadAs1 cX2_isReadAs1 2 (some .boolean), Cond.fieldLink RX2 27 "WireLamps$State" "settings" "[I", Cond.methodLink RX2 94 yX2_handedOn, Cond.instanceMethod yX2_handedOn, Cond.selects RX2 yX2_handedOn yX2_handedOn, Cond.code yX2_handedOn cX2_handedOn 2 (some .int), Cond.methodLink RX2 58 yX2_lengthFor, Cond.static yX2_lengthFor, Cond.code yX2_lengthFor cX2_lengthFor 1 (some .int)]
def wsX4_wrong : List Cond := .code yX4_wrong cX4_wrong 2 (some .int) :: ((wsX4_wrong_r1 ++ wsX4_wrong_r2) ++ wsX40 ++ wsX20 ++ (vx_atS RX4 56 "java/lang/IllegalArgumentException" ["java/lang/RuntimeException", "java/lang/Exception"]).filter goodWord)
def wsX4_bears_r1 : List Cond := [Cond.classLink RX4 45 "java/lang/IndexOutOfBoundsException", Cond.initialized "java/lang/IndexOutOfBoundsException", Cond.fieldLink RX4 10 "WireLamps" "state" "LWireLamps$State;", Cond.methodLink RX4 41 yX4_isLamp, Cond.static yX4_isLamp, Cond.initialized RX4, Cond.code yX4_isLamp cX4_isLamp 1 (some .boolean), Cond.methodLink RX4 229 yX2_wrongWith, Cond.instanceMethod yX2_wrongWith, Cond.selects RX2 yX2_wrongWith yX2_wrongWith, Cond.initialized RX2, Cond.code yX2_wrongWith cX2_wrongWith 11 (some .int), Cond.fieldLink RX2 15 "WireLamps$State" "losses" "[I", Cond.fieldLink RX2 18 "WireLamps$State" "known" "[I", Cond.fieldLink RX2 9 "WireLamps$State" "modes" "[I", Cond.methodLink RX2 91 yX2_shortened, Cond.static yX2_shortened, Cond.code yX2_shortened cX2_shortened 2 (some .int), Cond.methodLink RX2 81 yX2_takesWords, Cond.instanceMethod yX2_takesWords, Cond.selects RX2 yX2_takesWords yX2_takesWords, Cond.code yX2_takesWords cX2_takesWords 2 (some .boolean), Cond.methodLink RX2 66 yX2_isReadAs1, Cond.instanceMethod yX2_isReadAs1]
def wsX4_bears_r2 : List Cond := [Cond.selects RX2 yX2_isReadAs1 yX2_isReadAs1, Cond.code yX2_isReadAs1 cX2_isReadAs1 2 (some .boolean), Cond.fieldLink RX2 27 "WireLamps$State" "settings" "[I", Cond.methodLink RX2 94 yX2_handedOn, Cond.instanceMethod yX2_handedOn, Cond.selects RX2 yX2_handedOn yX2_handedOn, Cond.code yX2_handedOn cX2_handedOn 2 (some .int), Cond.methodLink RX2 58 yX2_lengthFor, Cond.static yX2_lengthFor, Cond.code yX2_lengthFor cX2_lengthFor 1 (some .int)]
def wsX4_bears : List Cond := .code yX4_bears cX4_bears 3 (some .int) :: ((wsX4_bears_r1 ++ wsX4_bears_r2) ++ wsX40 ++ wsX20 ++ (vx_atS RX4 49 "java/lang/IndexOutOfBoundsException" ["java/lang/RuntimeException", "java/lang/Exception"]).filter goodWord)
def wsX4_brokenAt : List Cond := .code yX4_brokenAt cX4_brokenAt 2 (some .int) :: ([.fieldLink RX4 10 "WireLamps" "state" "LWireLamps$State;", .fieldLink RX4 61 "WireLamps$State" "modes" "[I"] ++ wsX40 ++ wsX20)
def wsX4_wordsTo : List Cond := .code yX4_wordsTo cX4_wordsTo 2 (some .int) :: ([.classLink RX4 45 "java/lang/IndexOutOfBoundsException", .initialized "java/lang/IndexOutOfBoundsException", .fieldLink RX4 10 "WireLamps" "state" "LWireLamps$State;", .methodLink RX4 41 yX4_isLamp, .static yX4_isLamp, .initialized RX4, .code yX4_isLamp cX4_isLamp 1 (some .boolean), .methodLink RX4 233 yX2_wordsUpTo, .instanceMethod yX2_wordsUpTo, .selects RX2 yX2_wordsUpTo yX2_wordsUpTo, .initialized RX2, .code yX2_wordsUpTo cX2_wordsUpTo 4 (some .int), .fieldLink RX2 9 "WireLamps$State" "modes" "[I", .methodLink RX2 81 yX2_takesWords, .instanceMethod yX2_takesWords, .selects RX2 yX2_takesWords yX2_takesWords, .code yX2_takesWords cX2_takesWords 2 (some .boolean)] ++ wsX40 ++ wsX20 ++ (vx_atS RX4 49 "java/lang/IndexOutOfBoundsException" ["java/lang/RuntimeException", "java/lang/Exception"]).filter goodWord)
def wsX4_brightness : List Cond := .code yX4_brightness cX4_brightness 1 (some .double) :: ([.fieldLink RX4 10 "WireLamps" "state" "LWireLamps$State;", .constantDouble RX4 236 (4645040803167600640), .methodLink RX4 207 yX2_shownTogether, .instanceMethod yX2_shownTogether, .selects RX2 yX2_shownTogether yX2_shownTogether, .initialized RX2, .code yX2_shownTogether cX2_shownTogether 5 (some .int), .fieldLink RX2 21 "WireLamps$State" "shining" "[I", .methodLink RX2 74 yX2_currentWanted, .instanceMethod yX2_currentWanted, .selects RX2 yX2_currentWanted yX2_currentWanted, .code yX2_currentWanted cX2_currentWanted 4 (some .int), .methodLink RX2 70 yX2_brightnessOf, .static yX2_brightnessOf, .code yX2_brightnessOf cX2_brightnessOf 2 (some .int), .methodLink RX2 78 yX2_shown, .instanceMethod yX2_shown, .selects RX2 yX2_shown yX2_shown, .code yX2_shown cX2_shown 3 (some .int), .fieldLink RX2 27 "WireLamps$State" "settings" "[I"] ++ wsX40 ++ wsX20)
def wsX4_withLamps_r1 : List Cond := [Cond.fieldLink RX4 19 "WireLamps" "journey" "LWireLamps$Journey;", Cond.fieldLink RX4 10 "WireLamps" "state" "LWireLamps$State;", Cond.constantLong RX4 240 (31), Cond.fieldLink RX4 226 "WireLamps$Journey" "words" "[I", Cond.methodLink RX4 223 yX1_goThrough, Cond.instanceMethod yX1_goThrough, Cond.selects RX1 yX1_goThrough yX1_goThrough, Cond.initialized RX1, Cond.code yX1_goThrough cX1_goThrough 3 none, Cond.fieldLink RX1 21 "WireLamps$State" "pulses" "[I", Cond.fieldLink RX1 18 "WireLamps$Journey" "pulses" "[I", Cond.methodLink RX1 24 arraycopyName, Cond.native arraycopyName, Cond.static arraycopyName, Cond.initialized "java/lang/System", Cond.fieldLink RX1 30 "WireLamps$Journey" "first" "I", Cond.fieldLink RX1 34 "WireLamps$State" "pulseCount" "I", Cond.fieldLink RX1 37 "WireLamps$Journey" "end" "I", Cond.fieldLink RX1 40 "WireLamps$Journey" "taken" "I", Cond.fieldLink RX1 43 "WireLamps$State" "losses" "[I", Cond.fieldLink RX1 9 "WireLamps$Journey" "came" "[I", Cond.fieldLink RX1 15 "WireLamps$Journey" "words" "[I", Cond.fieldLink RX1 50 "WireLamps$State" "known" "[I", Cond.fieldLink RX1 61 "WireLamps$State" "modes" "[I"]
def wsX4_withLamps_r2 : List Cond := [Cond.methodLink RX1 46 yX1_passWire, Cond.instanceMethod yX1_passWire, Cond.selects RX1 yX1_passWire yX1_passWire, Cond.code yX1_passWire cX1_passWire 3 none, Cond.methodLink RX1 64 yX2_shortened, Cond.static yX2_shortened, Cond.initialized RX2, Cond.code yX2_shortened cX2_shortened 2 (some .int), Cond.methodLink RX1 53 yX2_takesWords, Cond.instanceMethod yX2_takesWords, Cond.selects RX2 yX2_takesWords yX2_takesWords, Cond.code yX2_takesWords cX2_takesWords 2 (some .boolean), Cond.fieldLink RX2 9 "WireLamps$State" "modes" "[I", Cond.methodLink RX1 57 yX1_passTaker, Cond.instanceMethod yX1_passTaker, Cond.selects RX1 yX1_passTaker yX1_passTaker, Cond.code yX1_passTaker cX1_passTaker 4 none, Cond.methodLink RX1 68 yX1_takeWord, Cond.instanceMethod yX1_takeWord, Cond.selects RX1 yX1_takeWord yX1_takeWord, Cond.code yX1_takeWord cX1_takeWord 5 (some .int), Cond.methodLink RX1 76 yX2_isReadAs1, Cond.instanceMethod yX2_isReadAs1, Cond.selects RX2 yX2_isReadAs1 yX2_isReadAs1]
def wsX4_withLamps_r3 : List Cond := [Cond.code yX2_isReadAs1 cX2_isReadAs1 2 (some .boolean), Cond.fieldLink RX2 27 "WireLamps$State" "settings" "[I", Cond.methodLink RX1 72 yX2_handedOn, Cond.instanceMethod yX2_handedOn, Cond.selects RX2 yX2_handedOn yX2_handedOn, Cond.code yX2_handedOn cX2_handedOn 2 (some .int), Cond.methodLink RX2 66 yX2_isReadAs1, Cond.methodLink RX2 58 yX2_lengthFor, Cond.static yX2_lengthFor, Cond.code yX2_lengthFor cX2_lengthFor 1 (some .int), Cond.methodLink RX4 267 yX4_lampOf, Cond.instanceMethod yX4_lampOf, Cond.selects RX4 yX4_lampOf yX4_lampOf, Cond.initialized RX4, Cond.code yX4_lampOf cX4_lampOf 3 (some .int), Cond.classLink RX4 45 "java/lang/IndexOutOfBoundsException", Cond.initialized "java/lang/IndexOutOfBoundsException", Cond.classLink RX4 52 "java/lang/IllegalArgumentException", Cond.initialized "java/lang/IllegalArgumentException", Cond.fieldLink RX4 61 "WireLamps$State" "modes" "[I", Cond.fieldLink RX4 67 "WireLamps$State" "losses" "[I", Cond.fieldLink RX4 172 "WireLamps$State" "known" "[I", Cond.fieldLink RX4 175 "WireLamps$State" "shining" "[I", Cond.fieldLink RX4 188 "WireLamps$State" "came" "[I"]
def wsX4_withLamps_r4 : List Cond := [Cond.methodLink RX4 41 yX4_isLamp, Cond.static yX4_isLamp, Cond.code yX4_isLamp cX4_isLamp 1 (some .boolean), Cond.methodLink RX4 178 yX2_brightnessOf, Cond.static yX2_brightnessOf, Cond.code yX2_brightnessOf cX2_brightnessOf 2 (some .int), Cond.methodLink RX4 182 yX2_currentWanted, Cond.instanceMethod yX2_currentWanted, Cond.selects RX2 yX2_currentWanted yX2_currentWanted, Cond.code yX2_currentWanted cX2_currentWanted 4 (some .int), Cond.fieldLink RX2 21 "WireLamps$State" "shining" "[I", Cond.methodLink RX2 70 yX2_brightnessOf, Cond.methodLink RX4 185 yX2_shown, Cond.instanceMethod yX2_shown, Cond.selects RX2 yX2_shown yX2_shown, Cond.code yX2_shown cX2_shown 3 (some .int), Cond.methodLink RX4 220 yX2_wordByPlace, Cond.instanceMethod yX2_wordByPlace, Cond.selects RX2 yX2_wordByPlace yX2_wordByPlace, Cond.code yX2_wordByPlace cX2_wordByPlace 6 (some .int), Cond.fieldLink RX2 39 "WireLamps$State" "pulseCount" "I", Cond.fieldLink RX2 18 "WireLamps$State" "known" "[I", Cond.fieldLink RX2 30 "WireLamps$State" "pulses" "[I", Cond.methodLink RX2 84 yX2_wordsUpTo]
def wsX4_withLamps_r5 : List Cond := [Cond.instanceMethod yX2_wordsUpTo, Cond.selects RX2 yX2_wordsUpTo yX2_wordsUpTo, Cond.code yX2_wordsUpTo cX2_wordsUpTo 4 (some .int), Cond.methodLink RX2 81 yX2_takesWords, Cond.methodLink RX2 88 yX2_lengthAt, Cond.instanceMethod yX2_lengthAt, Cond.selects RX2 yX2_lengthAt yX2_lengthAt, Cond.code yX2_lengthAt cX2_lengthAt 5 (some .int), Cond.fieldLink RX2 15 "WireLamps$State" "losses" "[I", Cond.methodLink RX2 91 yX2_shortened, Cond.methodLink RX2 94 yX2_handedOn, Cond.methodLink RX4 270 yX4_bears, Cond.instanceMethod yX4_bears, Cond.selects RX4 yX4_bears yX4_bears, Cond.code yX4_bears cX4_bears 3 (some .int), Cond.methodLink RX4 229 yX2_wrongWith, Cond.instanceMethod yX2_wrongWith, Cond.selects RX2 yX2_wrongWith yX2_wrongWith, Cond.code yX2_wrongWith cX2_wrongWith 11 (some .int), Cond.methodLink RX4 233 yX2_wordsUpTo]
def wsX4_withLamps : List Cond := .code yX4_withLamps cX4_withLamps 7 (some .long) :: ((wsX4_withLamps_r1 ++ (wsX4_withLamps_r2 ++ (wsX4_withLamps_r3 ++ (wsX4_withLamps_r4 ++ wsX4_withLamps_r5)))) ++ wsX40 ++ wsX10 ++ wsX20 ++ (vx_atS RX4 49 "java/lang/IndexOutOfBoundsException" ["java/lang/RuntimeException", "java/lang/Exception"]).filter goodWord ++ (vx_atS RX4 56 "java/lang/IllegalArgumentException" ["java/lang/RuntimeException", "java/lang/Exception"]).filter goodWord)
def wsX4_bitsOf : List Cond := .code yX4_bitsOf cX4_bitsOf 7 (some .long) :: ([.constantDouble RX4 275 (4611686018427387904), .constantDouble RX4 277 (4841369599423283200)])
def wsX4_digest_r1 : List Cond := [Cond.constantLong RX4 238 (3517), Cond.constantLong RX4 240 (31), Cond.fieldLink RX4 10 "WireLamps" "state" "LWireLamps$State;", Cond.fieldLink RX4 83 "WireLamps$State" "settings" "[I", Cond.fieldLink RX4 99 "WireLamps$State" "pulseCount" "I", Cond.fieldLink RX4 195 "WireLamps$State" "pulses" "[I", Cond.fieldLink RX4 37 "WireLamps" "slots" "[LWireLamps$State;", Cond.fieldLink RX4 26 "WireLamps" "text" "LWireLamps$Text;", Cond.fieldLink RX4 119 "WireLamps$Text" "length" "I", Cond.fieldLink RX4 263 "WireLamps$Text" "signs" "[C", Cond.methodLink RX4 242 yX4_count, Cond.instanceMethod yX4_count, Cond.selects RX4 yX4_count yX4_count, Cond.initialized RX4, Cond.code yX4_count cX4_count 2 (some .int), Cond.classLink RX4 52 "java/lang/IllegalArgumentException", Cond.initialized "java/lang/IllegalArgumentException", Cond.fieldLink RX4 198 "WireLamps$State" "gaps" "I", Cond.fieldLink RX4 201 "WireLamps$State" "taken" "I", Cond.fieldLink RX4 204 "WireLamps$State" "lost" "I", Cond.fieldLink RX4 114 "WireLamps$State" "dropped" "I", Cond.fieldLink RX4 213 "WireLamps$State" "refused" "I", Cond.fieldLink RX4 33 "WireLamps" "history" "LWireLamps$History;", Cond.fieldLink RX4 169 "WireLamps$History" "size" "I"]
def wsX4_digest_r2 : List Cond := [Cond.methodLink RX4 182 yX2_currentWanted, Cond.instanceMethod yX2_currentWanted, Cond.selects RX2 yX2_currentWanted yX2_currentWanted, Cond.initialized RX2, Cond.code yX2_currentWanted cX2_currentWanted 4 (some .int), Cond.fieldLink RX2 21 "WireLamps$State" "shining" "[I", Cond.methodLink RX2 70 yX2_brightnessOf, Cond.static yX2_brightnessOf, Cond.code yX2_brightnessOf cX2_brightnessOf 2 (some .int), Cond.methodLink RX4 207 yX2_shownTogether, Cond.instanceMethod yX2_shownTogether, Cond.selects RX2 yX2_shownTogether yX2_shownTogether, Cond.code yX2_shownTogether cX2_shownTogether 5 (some .int), Cond.methodLink RX2 74 yX2_currentWanted, Cond.methodLink RX2 78 yX2_shown, Cond.instanceMethod yX2_shown, Cond.selects RX2 yX2_shown yX2_shown, Cond.code yX2_shown cX2_shown 3 (some .int), Cond.fieldLink RX2 27 "WireLamps$State" "settings" "[I", Cond.methodLink RX4 210 yX2_lampsThatShine, Cond.instanceMethod yX2_lampsThatShine, Cond.selects RX2 yX2_lampsThatShine yX2_lampsThatShine, Cond.code yX2_lampsThatShine cX2_lampsThatShine 3 (some .int), Cond.methodLink RX4 245 yX4_withLamps]
def wsX4_digest_r3 : List Cond := [Cond.instanceMethod yX4_withLamps, Cond.selects RX4 yX4_withLamps yX4_withLamps, Cond.code yX4_withLamps cX4_withLamps 7 (some .long), Cond.fieldLink RX4 19 "WireLamps" "journey" "LWireLamps$Journey;", Cond.fieldLink RX4 226 "WireLamps$Journey" "words" "[I", Cond.methodLink RX4 223 yX1_goThrough, Cond.instanceMethod yX1_goThrough, Cond.selects RX1 yX1_goThrough yX1_goThrough, Cond.initialized RX1, Cond.code yX1_goThrough cX1_goThrough 3 none, Cond.fieldLink RX1 21 "WireLamps$State" "pulses" "[I", Cond.fieldLink RX1 18 "WireLamps$Journey" "pulses" "[I", Cond.methodLink RX1 24 arraycopyName, Cond.native arraycopyName, Cond.static arraycopyName, Cond.initialized "java/lang/System", Cond.fieldLink RX1 30 "WireLamps$Journey" "first" "I", Cond.fieldLink RX1 34 "WireLamps$State" "pulseCount" "I", Cond.fieldLink RX1 37 "WireLamps$Journey" "end" "I", Cond.fieldLink RX1 40 "WireLamps$Journey" "taken" "I", Cond.fieldLink RX1 43 "WireLamps$State" "losses" "[I", Cond.fieldLink RX1 9 "WireLamps$Journey" "came" "[I", Cond.fieldLink RX1 15 "WireLamps$Journey" "words" "[I", Cond.fieldLink RX1 50 "WireLamps$State" "known" "[I"]
def wsX4_digest_r4 : List Cond := [Cond.fieldLink RX1 61 "WireLamps$State" "modes" "[I", Cond.methodLink RX1 46 yX1_passWire, Cond.instanceMethod yX1_passWire, Cond.selects RX1 yX1_passWire yX1_passWire, Cond.code yX1_passWire cX1_passWire 3 none, Cond.methodLink RX1 64 yX2_shortened, Cond.static yX2_shortened, Cond.code yX2_shortened cX2_shortened 2 (some .int), Cond.methodLink RX1 53 yX2_takesWords, Cond.instanceMethod yX2_takesWords, Cond.selects RX2 yX2_takesWords yX2_takesWords, Cond.code yX2_takesWords cX2_takesWords 2 (some .boolean), Cond.fieldLink RX2 9 "WireLamps$State" "modes" "[I", Cond.methodLink RX1 57 yX1_passTaker, Cond.instanceMethod yX1_passTaker, Cond.selects RX1 yX1_passTaker yX1_passTaker, Cond.code yX1_passTaker cX1_passTaker 4 none, Cond.methodLink RX1 68 yX1_takeWord, Cond.instanceMethod yX1_takeWord, Cond.selects RX1 yX1_takeWord yX1_takeWord, Cond.code yX1_takeWord cX1_takeWord 5 (some .int), Cond.methodLink RX1 76 yX2_isReadAs1, Cond.instanceMethod yX2_isReadAs1, Cond.selects RX2 yX2_isReadAs1 yX2_isReadAs1]
def wsX4_digest_r5 : List Cond := [Cond.code yX2_isReadAs1 cX2_isReadAs1 2 (some .boolean), Cond.methodLink RX1 72 yX2_handedOn, Cond.instanceMethod yX2_handedOn, Cond.selects RX2 yX2_handedOn yX2_handedOn, Cond.code yX2_handedOn cX2_handedOn 2 (some .int), Cond.methodLink RX2 66 yX2_isReadAs1, Cond.methodLink RX2 58 yX2_lengthFor, Cond.static yX2_lengthFor, Cond.code yX2_lengthFor cX2_lengthFor 1 (some .int), Cond.methodLink RX4 267 yX4_lampOf, Cond.instanceMethod yX4_lampOf, Cond.selects RX4 yX4_lampOf yX4_lampOf, Cond.code yX4_lampOf cX4_lampOf 3 (some .int), Cond.classLink RX4 45 "java/lang/IndexOutOfBoundsException", Cond.initialized "java/lang/IndexOutOfBoundsException", Cond.fieldLink RX4 61 "WireLamps$State" "modes" "[I", Cond.fieldLink RX4 67 "WireLamps$State" "losses" "[I", Cond.fieldLink RX4 172 "WireLamps$State" "known" "[I", Cond.fieldLink RX4 175 "WireLamps$State" "shining" "[I", Cond.fieldLink RX4 188 "WireLamps$State" "came" "[I", Cond.methodLink RX4 41 yX4_isLamp, Cond.static yX4_isLamp, Cond.code yX4_isLamp cX4_isLamp 1 (some .boolean), Cond.methodLink RX4 178 yX2_brightnessOf]
def wsX4_digest_r6 : List Cond := [Cond.methodLink RX4 185 yX2_shown, Cond.methodLink RX4 220 yX2_wordByPlace, Cond.instanceMethod yX2_wordByPlace, Cond.selects RX2 yX2_wordByPlace yX2_wordByPlace, Cond.code yX2_wordByPlace cX2_wordByPlace 6 (some .int), Cond.fieldLink RX2 39 "WireLamps$State" "pulseCount" "I", Cond.fieldLink RX2 18 "WireLamps$State" "known" "[I", Cond.fieldLink RX2 30 "WireLamps$State" "pulses" "[I", Cond.methodLink RX2 84 yX2_wordsUpTo, Cond.instanceMethod yX2_wordsUpTo, Cond.selects RX2 yX2_wordsUpTo yX2_wordsUpTo, Cond.code yX2_wordsUpTo cX2_wordsUpTo 4 (some .int), Cond.methodLink RX2 81 yX2_takesWords, Cond.methodLink RX2 88 yX2_lengthAt, Cond.instanceMethod yX2_lengthAt, Cond.selects RX2 yX2_lengthAt yX2_lengthAt, Cond.code yX2_lengthAt cX2_lengthAt 5 (some .int), Cond.fieldLink RX2 15 "WireLamps$State" "losses" "[I", Cond.methodLink RX2 91 yX2_shortened, Cond.methodLink RX2 94 yX2_handedOn, Cond.methodLink RX4 270 yX4_bears, Cond.instanceMethod yX4_bears, Cond.selects RX4 yX4_bears yX4_bears, Cond.code yX4_bears cX4_bears 3 (some .int)]
def wsX4_digest_r7 : List Cond := [Cond.methodLink RX4 229 yX2_wrongWith, Cond.instanceMethod yX2_wrongWith, Cond.selects RX2 yX2_wrongWith yX2_wrongWith, Cond.code yX2_wrongWith cX2_wrongWith 11 (some .int), Cond.methodLink RX4 233 yX2_wordsUpTo, Cond.methodLink RX4 249 yX4_wrong, Cond.instanceMethod yX4_wrong, Cond.selects RX4 yX4_wrong yX4_wrong, Cond.code yX4_wrong cX4_wrong 2 (some .int), Cond.methodLink RX4 103 yX4_isWord, Cond.static yX4_isWord, Cond.code yX4_isWord cX4_isWord 1 (some .boolean), Cond.methodLink RX4 252 yX4_brokenAt, Cond.instanceMethod yX4_brokenAt, Cond.selects RX4 yX4_brokenAt yX4_brokenAt, Cond.code yX4_brokenAt cX4_brokenAt 2 (some .int), Cond.methodLink RX4 255 yX4_brightness, Cond.instanceMethod yX4_brightness, Cond.selects RX4 yX4_brightness yX4_brightness, Cond.code yX4_brightness cX4_brightness 1 (some .double), Cond.constantDouble RX4 236 (4645040803167600640), Cond.methodLink RX4 259 yX4_bitsOf, Cond.static yX4_bitsOf, Cond.code yX4_bitsOf cX4_bitsOf 7 (some .long)]
def wsX4_digest_r8 : List Cond := [Cond.constantDouble RX4 275 (4611686018427387904), Cond.constantDouble RX4 277 (4841369599423283200)]
def wsX4_digest : List Cond := .code yX4_digest cX4_digest 4 (some .long) :: ((wsX4_digest_r1 ++ (wsX4_digest_r2 ++ (wsX4_digest_r3 ++ (wsX4_digest_r4 ++ (wsX4_digest_r5 ++ (wsX4_digest_r6 ++ (wsX4_digest_r7 ++ wsX4_digest_r8))))))) ++ wsX40 ++ wsX20 ++ wsX30 ++ wsX00 ++ wsX10 ++ (vx_atS RX4 56 "java/lang/IllegalArgumentException" ["java/lang/RuntimeException", "java/lang/Exception"]).filter goodWord ++ (vx_atS RX4 49 "java/lang/IndexOutOfBoundsException" ["java/lang/RuntimeException", "java/lang/Exception"]).filter goodWord)
def wsX5_init : List Cond := .code yX5_init cX5_init 1 none :: ([.methodLink RX5 1 objectInit, .instanceMethod objectInit, .code objectInit ⟨#[0xb1]⟩ 1 none, .arrayClass .int, .fieldLink RX5 7 "WireLampsModel" "z" "[I", .fieldLink RX5 13 "WireLampsModel" "saved" "[I", .fieldLink RX5 16 "WireLampsModel" "slots" "[I", .arrayClass .boolean, .fieldLink RX5 19 "WireLampsModel" "isKept" "[Z", .fieldLink RX5 23 "WireLampsModel" "text" "[I", .fieldLink RX5 26 "WireLampsModel" "trial" "I", .fieldLink RX5 30 "WireLampsModel" "told" "[I"] ++ wsX50)
def wsX5_thrown : List Cond := .code yX5_thrown cX5_thrown 1 (some .int) :: ([.fieldLink RX5 33 "WireLampsModel" "thrown" "I"] ++ wsX50)
def wsX5_refused : List Cond := .code yX5_refused cX5_refused 2 (some .boolean) :: ([.fieldLink RX5 33 "WireLampsModel" "thrown" "I"] ++ wsX50)
def wsX5_in : List Cond := .code yX5_in cX5_in 3 (some .boolean) :: ([])
def wsX5_isLamp : List Cond := .code yX5_isLamp cX5_isLamp 1 (some .boolean) :: ([.methodLink RX5 36 yX5_in, .static yX5_in, .initialized RX5, .code yX5_in cX5_in 3 (some .boolean)])
def wsX5_copyState : List Cond := .code yX5_copyState cX5_copyState 5 none :: ([])
def wsX5_saveState : List Cond := .code yX5_saveState cX5_saveState 2 none :: ([.fieldLink RX5 40 "WireLampsModel" "savedMany" "I", .fieldLink RX5 13 "WireLampsModel" "saved" "[I", .fieldLink RX5 7 "WireLampsModel" "z" "[I", .methodLink RX5 43 yX5_copyState, .static yX5_copyState, .initialized RX5, .code yX5_copyState cX5_copyState 5 none] ++ wsX50)
def wsX5_change : List Cond := .code yX5_change cX5_change 4 (some .int) :: ([.fieldLink RX5 7 "WireLampsModel" "z" "[I", .methodLink RX5 47 yX5_saveState, .instanceMethod yX5_saveState, .selects RX5 yX5_saveState yX5_saveState, .initialized RX5, .code yX5_saveState cX5_saveState 2 none, .fieldLink RX5 40 "WireLampsModel" "savedMany" "I", .fieldLink RX5 13 "WireLampsModel" "saved" "[I", .methodLink RX5 43 yX5_copyState, .static yX5_copyState, .code yX5_copyState cX5_copyState 5 none] ++ wsX50)
def wsX5_mode_r1 : List Cond := [Cond.methodLink RX5 50 yX5_isLamp, Cond.static yX5_isLamp, Cond.initialized RX5, Cond.code yX5_isLamp cX5_isLamp 1 (some .boolean), Cond.methodLink RX5 36 yX5_in, Cond.static yX5_in, Cond.code yX5_in cX5_in 3 (some .boolean), Cond.methodLink RX5 54 yX5_refused, Cond.instanceMethod yX5_refused, Cond.selects RX5 yX5_refused yX5_refused, Cond.code yX5_refused cX5_refused 2 (some .boolean), Cond.fieldLink RX5 33 "WireLampsModel" "thrown" "I", Cond.methodLink RX5 57 yX5_change, Cond.instanceMethod yX5_change, Cond.selects RX5 yX5_change yX5_change, Cond.code yX5_change cX5_change 4 (some .int), Cond.fieldLink RX5 7 "WireLampsModel" "z" "[I", Cond.methodLink RX5 47 yX5_saveState, Cond.instanceMethod yX5_saveState, Cond.selects RX5 yX5_saveState yX5_saveState, Cond.code yX5_saveState cX5_saveState 2 none, Cond.fieldLink RX5 40 "WireLampsModel" "savedMany" "I", Cond.fieldLink RX5 13 "WireLampsModel" "saved" "[I", Cond.methodLink RX5 43 yX5_copyState]
def wsX5_mode_r2 : List Cond := [Cond.static yX5_copyState, Cond.code yX5_copyState cX5_copyState 5 none]
def wsX5_mode : List Cond := .code yX5_mode cX5_mode 3 (some .int) :: ((wsX5_mode_r1 ++ wsX5_mode_r2) ++ wsX50)
def wsX5_loss_r1 : List Cond := [Cond.methodLink RX5 50 yX5_isLamp, Cond.static yX5_isLamp, Cond.initialized RX5, Cond.code yX5_isLamp cX5_isLamp 1 (some .boolean), Cond.methodLink RX5 36 yX5_in, Cond.static yX5_in, Cond.code yX5_in cX5_in 3 (some .boolean), Cond.methodLink RX5 54 yX5_refused, Cond.instanceMethod yX5_refused, Cond.selects RX5 yX5_refused yX5_refused, Cond.code yX5_refused cX5_refused 2 (some .boolean), Cond.fieldLink RX5 33 "WireLampsModel" "thrown" "I", Cond.methodLink RX5 57 yX5_change, Cond.instanceMethod yX5_change, Cond.selects RX5 yX5_change yX5_change, Cond.code yX5_change cX5_change 4 (some .int), Cond.fieldLink RX5 7 "WireLampsModel" "z" "[I", Cond.methodLink RX5 47 yX5_saveState, Cond.instanceMethod yX5_saveState, Cond.selects RX5 yX5_saveState yX5_saveState, Cond.code yX5_saveState cX5_saveState 2 none, Cond.fieldLink RX5 40 "WireLampsModel" "savedMany" "I", Cond.fieldLink RX5 13 "WireLampsModel" "saved" "[I", Cond.methodLink RX5 43 yX5_copyState]
def wsX5_loss_r2 : List Cond := [Cond.static yX5_copyState, Cond.code yX5_copyState cX5_copyState 5 none]
def wsX5_loss : List Cond := .code yX5_loss cX5_loss 3 (some .int) :: ((wsX5_loss_r1 ++ wsX5_loss_r2) ++ wsX50)
def wsX5_isValue : List Cond := .code yX5_isValue cX5_isValue 2 (some .boolean) :: ([.methodLink RX5 36 yX5_in, .static yX5_in, .initialized RX5, .code yX5_in cX5_in 3 (some .boolean)])
def wsX5_set_r1 : List Cond := [Cond.methodLink RX5 36 yX5_in, Cond.static yX5_in, Cond.initialized RX5, Cond.code yX5_in cX5_in 3 (some .boolean), Cond.methodLink RX5 61 yX5_isValue, Cond.static yX5_isValue, Cond.code yX5_isValue cX5_isValue 2 (some .boolean), Cond.methodLink RX5 54 yX5_refused, Cond.instanceMethod yX5_refused, Cond.selects RX5 yX5_refused yX5_refused, Cond.code yX5_refused cX5_refused 2 (some .boolean), Cond.fieldLink RX5 33 "WireLampsModel" "thrown" "I", Cond.methodLink RX5 57 yX5_change, Cond.instanceMethod yX5_change, Cond.selects RX5 yX5_change yX5_change, Cond.code yX5_change cX5_change 4 (some .int), Cond.fieldLink RX5 7 "WireLampsModel" "z" "[I", Cond.methodLink RX5 47 yX5_saveState, Cond.instanceMethod yX5_saveState, Cond.selects RX5 yX5_saveState yX5_saveState, Cond.code yX5_saveState cX5_saveState 2 none, Cond.fieldLink RX5 40 "WireLampsModel" "savedMany" "I", Cond.fieldLink RX5 13 "WireLampsModel" "saved" "[I", Cond.methodLink RX5 43 yX5_copyState]
def wsX5_set_r2 : List Cond := [Cond.static yX5_copyState, Cond.code yX5_copyState cX5_copyState 5 none]
def wsX5_set : List Cond := .code yX5_set cX5_set 3 (some .int) :: ((wsX5_set_r1 ++ wsX5_set_r2) ++ wsX50)
def wsX5_pulses : List Cond := .code yX5_pulses cX5_pulses 1 (some .int) :: ([.fieldLink RX5 26 "WireLampsModel" "trial" "I", .fieldLink RX5 7 "WireLampsModel" "z" "[I"] ++ wsX50)
def wsX5_pulseOf : List Cond := .code yX5_pulseOf cX5_pulseOf 2 (some .int) :: ([])
def wsX5_lengthOf : List Cond := .code yX5_lengthOf cX5_lengthOf 2 (some .int) :: ([.fieldLink RX5 26 "WireLampsModel" "trial" "I", .fieldLink RX5 7 "WireLampsModel" "z" "[I", .methodLink RX5 65 yX5_pulseOf, .static yX5_pulseOf, .initialized RX5, .code yX5_pulseOf cX5_pulseOf 2 (some .int)] ++ wsX50)
def wsX5_isTaker : List Cond := .code yX5_isTaker cX5_isTaker 2 (some .boolean) :: ([.fieldLink RX5 7 "WireLampsModel" "z" "[I"] ++ wsX50)
def wsX5_isCut : List Cond := .code yX5_isCut cX5_isCut 4 (some .boolean) :: ([.fieldLink RX5 7 "WireLampsModel" "z" "[I"] ++ wsX50)
def wsX5_takersAhead : List Cond := .code yX5_takersAhead cX5_takersAhead 4 (some .int) :: ([.methodLink RX5 68 yX5_isTaker, .instanceMethod yX5_isTaker, .selects RX5 yX5_isTaker yX5_isTaker, .initialized RX5, .code yX5_isTaker cX5_isTaker 2 (some .boolean), .fieldLink RX5 7 "WireLampsModel" "z" "[I"] ++ wsX50)
def wsX5_comes : List Cond := .code yX5_comes cX5_comes 3 (some .int) :: ([.methodLink RX5 71 yX5_pulses, .instanceMethod yX5_pulses, .selects RX5 yX5_pulses yX5_pulses, .initialized RX5, .code yX5_pulses cX5_pulses 1 (some .int), .fieldLink RX5 26 "WireLampsModel" "trial" "I", .fieldLink RX5 7 "WireLampsModel" "z" "[I", .methodLink RX5 75 yX5_takersAhead, .instanceMethod yX5_takersAhead, .selects RX5 yX5_takersAhead yX5_takersAhead, .code yX5_takersAhead cX5_takersAhead 4 (some .int), .methodLink RX5 68 yX5_isTaker, .instanceMethod yX5_isTaker, .selects RX5 yX5_isTaker yX5_isTaker, .code yX5_isTaker cX5_isTaker 2 (some .boolean), .methodLink RX5 79 yX5_isCut, .instanceMethod yX5_isCut, .selects RX5 yX5_isCut yX5_isCut, .code yX5_isCut cX5_isCut 4 (some .boolean)] ++ wsX50)
def wsX5_arrives : List Cond := .code yX5_arrives cX5_arrives 5 (some .int) :: ([.fieldLink RX5 7 "WireLampsModel" "z" "[I", .methodLink RX5 82 yX5_lengthOf, .instanceMethod yX5_lengthOf, .selects RX5 yX5_lengthOf yX5_lengthOf, .initialized RX5, .code yX5_lengthOf cX5_lengthOf 2 (some .int), .fieldLink RX5 26 "WireLampsModel" "trial" "I", .methodLink RX5 65 yX5_pulseOf, .static yX5_pulseOf, .code yX5_pulseOf cX5_pulseOf 2 (some .int), .methodLink RX5 68 yX5_isTaker, .instanceMethod yX5_isTaker, .selects RX5 yX5_isTaker yX5_isTaker, .code yX5_isTaker cX5_isTaker 2 (some .boolean)] ++ wsX50)
def wsX5_takes : List Cond := .code yX5_takes cX5_takes 2 (some .boolean) :: ([.methodLink RX5 68 yX5_isTaker, .instanceMethod yX5_isTaker, .selects RX5 yX5_isTaker yX5_isTaker, .initialized RX5, .code yX5_isTaker cX5_isTaker 2 (some .boolean), .fieldLink RX5 7 "WireLampsModel" "z" "[I", .methodLink RX5 85 yX5_comes, .instanceMethod yX5_comes, .selects RX5 yX5_comes yX5_comes, .code yX5_comes cX5_comes 3 (some .int), .methodLink RX5 71 yX5_pulses, .instanceMethod yX5_pulses, .selects RX5 yX5_pulses yX5_pulses, .code yX5_pulses cX5_pulses 1 (some .int), .fieldLink RX5 26 "WireLampsModel" "trial" "I", .methodLink RX5 75 yX5_takersAhead, .instanceMethod yX5_takersAhead, .selects RX5 yX5_takersAhead yX5_takersAhead, .code yX5_takersAhead cX5_takersAhead 4 (some .int), .methodLink RX5 79 yX5_isCut, .instanceMethod yX5_isCut, .selects RX5 yX5_isCut yX5_isCut, .code yX5_isCut cX5_isCut 4 (some .boolean)] ++ wsX50)
def wsX5_wordBehind_r1 : List Cond := [Cond.fieldLink RX5 7 "WireLampsModel" "z" "[I", Cond.methodLink RX5 88 yX5_takes, Cond.instanceMethod yX5_takes, Cond.selects RX5 yX5_takes yX5_takes, Cond.initialized RX5, Cond.code yX5_takes cX5_takes 2 (some .boolean), Cond.methodLink RX5 68 yX5_isTaker, Cond.instanceMethod yX5_isTaker, Cond.selects RX5 yX5_isTaker yX5_isTaker, Cond.code yX5_isTaker cX5_isTaker 2 (some .boolean), Cond.methodLink RX5 85 yX5_comes, Cond.instanceMethod yX5_comes, Cond.selects RX5 yX5_comes yX5_comes, Cond.code yX5_comes cX5_comes 3 (some .int), Cond.methodLink RX5 71 yX5_pulses, Cond.instanceMethod yX5_pulses, Cond.selects RX5 yX5_pulses yX5_pulses, Cond.code yX5_pulses cX5_pulses 1 (some .int), Cond.fieldLink RX5 26 "WireLampsModel" "trial" "I", Cond.methodLink RX5 75 yX5_takersAhead, Cond.instanceMethod yX5_takersAhead, Cond.selects RX5 yX5_takersAhead yX5_takersAhead, Cond.code yX5_takersAhead cX5_takersAhead 4 (some .int), Cond.methodLink RX5 79 yX5_isCut]
def wsX5_wordBehind_r2 : List Cond := [Cond.instanceMethod yX5_isCut, Cond.selects RX5 yX5_isCut yX5_isCut, Cond.code yX5_isCut cX5_isCut 4 (some .boolean), Cond.methodLink RX5 91 yX5_arrives, Cond.instanceMethod yX5_arrives, Cond.selects RX5 yX5_arrives yX5_arrives, Cond.code yX5_arrives cX5_arrives 5 (some .int), Cond.methodLink RX5 82 yX5_lengthOf, Cond.instanceMethod yX5_lengthOf, Cond.selects RX5 yX5_lengthOf yX5_lengthOf, Cond.code yX5_lengthOf cX5_lengthOf 2 (some .int), Cond.methodLink RX5 65 yX5_pulseOf, Cond.static yX5_pulseOf, Cond.code yX5_pulseOf cX5_pulseOf 2 (some .int)]
def wsX5_wordBehind : List Cond := .code yX5_wordBehind cX5_wordBehind 5 (some .int) :: ((wsX5_wordBehind_r1 ++ wsX5_wordBehind_r2) ++ wsX50)
def wsX5_takers_r1 : List Cond := [Cond.methodLink RX5 88 yX5_takes, Cond.instanceMethod yX5_takes, Cond.selects RX5 yX5_takes yX5_takes, Cond.initialized RX5, Cond.code yX5_takes cX5_takes 2 (some .boolean), Cond.methodLink RX5 68 yX5_isTaker, Cond.instanceMethod yX5_isTaker, Cond.selects RX5 yX5_isTaker yX5_isTaker, Cond.code yX5_isTaker cX5_isTaker 2 (some .boolean), Cond.fieldLink RX5 7 "WireLampsModel" "z" "[I", Cond.methodLink RX5 85 yX5_comes, Cond.instanceMethod yX5_comes, Cond.selects RX5 yX5_comes yX5_comes, Cond.code yX5_comes cX5_comes 3 (some .int), Cond.methodLink RX5 71 yX5_pulses, Cond.instanceMethod yX5_pulses, Cond.selects RX5 yX5_pulses yX5_pulses, Cond.code yX5_pulses cX5_pulses 1 (some .int), Cond.fieldLink RX5 26 "WireLampsModel" "trial" "I", Cond.methodLink RX5 75 yX5_takersAhead, Cond.instanceMethod yX5_takersAhead, Cond.selects RX5 yX5_takersAhead yX5_takersAhead, Cond.code yX5_takersAhead cX5_takersAhead 4 (some .int), Cond.methodLink RX5 79 yX5_isCut]
def wsX5_takers_r2 : List Cond := [Cond.instanceMethod yX5_isCut, Cond.selects RX5 yX5_isCut yX5_isCut, Cond.code yX5_isCut cX5_isCut 4 (some .boolean)]
def wsX5_takers : List Cond := .code yX5_takers cX5_takers 3 (some .int) :: ((wsX5_takers_r1 ++ wsX5_takers_r2) ++ wsX50)
def wsX5_addPulse : List Cond := .code yX5_addPulse cX5_addPulse 2 none :: ([.fieldLink RX5 7 "WireLampsModel" "z" "[I"] ++ wsX50)
def wsX5_sendNow : List Cond := .code yX5_sendNow cX5_sendNow 3 none :: ([.methodLink RX5 65 yX5_pulseOf, .static yX5_pulseOf, .initialized RX5, .code yX5_pulseOf cX5_pulseOf 2 (some .int), .methodLink RX5 94 yX5_addPulse, .instanceMethod yX5_addPulse, .selects RX5 yX5_addPulse yX5_addPulse, .code yX5_addPulse cX5_addPulse 2 none, .fieldLink RX5 7 "WireLampsModel" "z" "[I"] ++ wsX50)
def wsX5_emptyFrame : List Cond := .code yX5_emptyFrame cX5_emptyFrame 2 none :: ([.fieldLink RX5 7 "WireLampsModel" "z" "[I"] ++ wsX50)
def wsX5_gapNow_r1 : List Cond := [Cond.fieldLink RX5 26 "WireLampsModel" "trial" "I", Cond.fieldLink RX5 7 "WireLampsModel" "z" "[I", Cond.methodLink RX5 98 yX5_takers, Cond.instanceMethod yX5_takers, Cond.selects RX5 yX5_takers yX5_takers, Cond.initialized RX5, Cond.code yX5_takers cX5_takers 3 (some .int), Cond.methodLink RX5 88 yX5_takes, Cond.instanceMethod yX5_takes, Cond.selects RX5 yX5_takes yX5_takes, Cond.code yX5_takes cX5_takes 2 (some .boolean), Cond.methodLink RX5 68 yX5_isTaker, Cond.instanceMethod yX5_isTaker, Cond.selects RX5 yX5_isTaker yX5_isTaker, Cond.code yX5_isTaker cX5_isTaker 2 (some .boolean), Cond.methodLink RX5 85 yX5_comes, Cond.instanceMethod yX5_comes, Cond.selects RX5 yX5_comes yX5_comes, Cond.code yX5_comes cX5_comes 3 (some .int), Cond.methodLink RX5 71 yX5_pulses, Cond.instanceMethod yX5_pulses, Cond.selects RX5 yX5_pulses yX5_pulses, Cond.code yX5_pulses cX5_pulses 1 (some .int), Cond.methodLink RX5 75 yX5_takersAhead]
def wsX5_gapNow_r2 : List Cond := [Cond.instanceMethod yX5_takersAhead, Cond.selects RX5 yX5_takersAhead yX5_takersAhead, Cond.code yX5_takersAhead cX5_takersAhead 4 (some .int), Cond.methodLink RX5 79 yX5_isCut, Cond.instanceMethod yX5_isCut, Cond.selects RX5 yX5_isCut yX5_isCut, Cond.code yX5_isCut cX5_isCut 4 (some .boolean), Cond.methodLink RX5 101 yX5_wordBehind, Cond.instanceMethod yX5_wordBehind, Cond.selects RX5 yX5_wordBehind yX5_wordBehind, Cond.code yX5_wordBehind cX5_wordBehind 5 (some .int), Cond.methodLink RX5 91 yX5_arrives, Cond.instanceMethod yX5_arrives, Cond.selects RX5 yX5_arrives yX5_arrives, Cond.code yX5_arrives cX5_arrives 5 (some .int), Cond.methodLink RX5 82 yX5_lengthOf, Cond.instanceMethod yX5_lengthOf, Cond.selects RX5 yX5_lengthOf yX5_lengthOf, Cond.code yX5_lengthOf cX5_lengthOf 2 (some .int), Cond.methodLink RX5 65 yX5_pulseOf, Cond.static yX5_pulseOf, Cond.code yX5_pulseOf cX5_pulseOf 2 (some .int), Cond.methodLink RX5 104 yX5_emptyFrame, Cond.instanceMethod yX5_emptyFrame]
def wsX5_gapNow_r3 : List Cond := [Cond.selects RX5 yX5_emptyFrame yX5_emptyFrame, Cond.code yX5_emptyFrame cX5_emptyFrame 2 none]
def wsX5_gapNow : List Cond := .code yX5_gapNow cX5_gapNow 5 (some .int) :: ((wsX5_gapNow_r1 ++ (wsX5_gapNow_r2 ++ wsX5_gapNow_r3)) ++ wsX50)
def wsX5_pulse : List Cond := .code yX5_pulse cX5_pulse 2 (some .int) :: ([.fieldLink RX5 7 "WireLampsModel" "z" "[I", .methodLink RX5 36 yX5_in, .static yX5_in, .initialized RX5, .code yX5_in cX5_in 3 (some .boolean), .methodLink RX5 54 yX5_refused, .instanceMethod yX5_refused, .selects RX5 yX5_refused yX5_refused, .code yX5_refused cX5_refused 2 (some .boolean), .fieldLink RX5 33 "WireLampsModel" "thrown" "I", .methodLink RX5 47 yX5_saveState, .instanceMethod yX5_saveState, .selects RX5 yX5_saveState yX5_saveState, .code yX5_saveState cX5_saveState 2 none, .fieldLink RX5 40 "WireLampsModel" "savedMany" "I", .fieldLink RX5 13 "WireLampsModel" "saved" "[I", .methodLink RX5 43 yX5_copyState, .static yX5_copyState, .code yX5_copyState cX5_copyState 5 none, .methodLink RX5 94 yX5_addPulse, .instanceMethod yX5_addPulse, .selects RX5 yX5_addPulse yX5_addPulse, .code yX5_addPulse cX5_addPulse 2 none] ++ wsX50)
def wsX5_send_r1 : List Cond := [Cond.fieldLink RX5 7 "WireLampsModel" "z" "[I", Cond.methodLink RX5 36 yX5_in, Cond.static yX5_in, Cond.initialized RX5, Cond.code yX5_in cX5_in 3 (some .boolean), Cond.methodLink RX5 54 yX5_refused, Cond.instanceMethod yX5_refused, Cond.selects RX5 yX5_refused yX5_refused, Cond.code yX5_refused cX5_refused 2 (some .boolean), Cond.fieldLink RX5 33 "WireLampsModel" "thrown" "I", Cond.methodLink RX5 47 yX5_saveState, Cond.instanceMethod yX5_saveState, Cond.selects RX5 yX5_saveState yX5_saveState, Cond.code yX5_saveState cX5_saveState 2 none, Cond.fieldLink RX5 40 "WireLampsModel" "savedMany" "I", Cond.fieldLink RX5 13 "WireLampsModel" "saved" "[I", Cond.methodLink RX5 43 yX5_copyState, Cond.static yX5_copyState, Cond.code yX5_copyState cX5_copyState 5 none, Cond.methodLink RX5 107 yX5_sendNow, Cond.instanceMethod yX5_sendNow, Cond.selects RX5 yX5_sendNow yX5_sendNow, Cond.code yX5_sendNow cX5_sendNow 3 none, Cond.methodLink RX5 65 yX5_pulseOf]
def wsX5_send_r2 : List Cond := [Cond.static yX5_pulseOf, Cond.code yX5_pulseOf cX5_pulseOf 2 (some .int), Cond.methodLink RX5 94 yX5_addPulse, Cond.instanceMethod yX5_addPulse, Cond.selects RX5 yX5_addPulse yX5_addPulse, Cond.code yX5_addPulse cX5_addPulse 2 none]
def wsX5_send : List Cond := .code yX5_send cX5_send 2 (some .int) :: ((wsX5_send_r1 ++ wsX5_send_r2) ++ wsX50)
def wsX5_gap_r1 : List Cond := [Cond.fieldLink RX5 33 "WireLampsModel" "thrown" "I", Cond.methodLink RX5 47 yX5_saveState, Cond.instanceMethod yX5_saveState, Cond.selects RX5 yX5_saveState yX5_saveState, Cond.initialized RX5, Cond.code yX5_saveState cX5_saveState 2 none, Cond.fieldLink RX5 40 "WireLampsModel" "savedMany" "I", Cond.fieldLink RX5 13 "WireLampsModel" "saved" "[I", Cond.fieldLink RX5 7 "WireLampsModel" "z" "[I", Cond.methodLink RX5 43 yX5_copyState, Cond.static yX5_copyState, Cond.code yX5_copyState cX5_copyState 5 none, Cond.methodLink RX5 110 yX5_gapNow, Cond.instanceMethod yX5_gapNow, Cond.selects RX5 yX5_gapNow yX5_gapNow, Cond.code yX5_gapNow cX5_gapNow 5 (some .int), Cond.fieldLink RX5 26 "WireLampsModel" "trial" "I", Cond.methodLink RX5 98 yX5_takers, Cond.instanceMethod yX5_takers, Cond.selects RX5 yX5_takers yX5_takers, Cond.code yX5_takers cX5_takers 3 (some .int), Cond.methodLink RX5 88 yX5_takes, Cond.instanceMethod yX5_takes, Cond.selects RX5 yX5_takes yX5_takes]
def wsX5_gap_r2 : List Cond := [Cond.code yX5_takes cX5_takes 2 (some .boolean), Cond.methodLink RX5 68 yX5_isTaker, Cond.instanceMethod yX5_isTaker, Cond.selects RX5 yX5_isTaker yX5_isTaker, Cond.code yX5_isTaker cX5_isTaker 2 (some .boolean), Cond.methodLink RX5 85 yX5_comes, Cond.instanceMethod yX5_comes, Cond.selects RX5 yX5_comes yX5_comes, Cond.code yX5_comes cX5_comes 3 (some .int), Cond.methodLink RX5 71 yX5_pulses, Cond.instanceMethod yX5_pulses, Cond.selects RX5 yX5_pulses yX5_pulses, Cond.code yX5_pulses cX5_pulses 1 (some .int), Cond.methodLink RX5 75 yX5_takersAhead, Cond.instanceMethod yX5_takersAhead, Cond.selects RX5 yX5_takersAhead yX5_takersAhead, Cond.code yX5_takersAhead cX5_takersAhead 4 (some .int), Cond.methodLink RX5 79 yX5_isCut, Cond.instanceMethod yX5_isCut, Cond.selects RX5 yX5_isCut yX5_isCut, Cond.code yX5_isCut cX5_isCut 4 (some .boolean), Cond.methodLink RX5 101 yX5_wordBehind, Cond.instanceMethod yX5_wordBehind, Cond.selects RX5 yX5_wordBehind yX5_wordBehind]
def wsX5_gap_r3 : List Cond := [Cond.code yX5_wordBehind cX5_wordBehind 5 (some .int), Cond.methodLink RX5 91 yX5_arrives, Cond.instanceMethod yX5_arrives, Cond.selects RX5 yX5_arrives yX5_arrives, Cond.code yX5_arrives cX5_arrives 5 (some .int), Cond.methodLink RX5 82 yX5_lengthOf, Cond.instanceMethod yX5_lengthOf, Cond.selects RX5 yX5_lengthOf yX5_lengthOf, Cond.code yX5_lengthOf cX5_lengthOf 2 (some .int), Cond.methodLink RX5 65 yX5_pulseOf, Cond.static yX5_pulseOf, Cond.code yX5_pulseOf cX5_pulseOf 2 (some .int), Cond.methodLink RX5 104 yX5_emptyFrame, Cond.instanceMethod yX5_emptyFrame, Cond.selects RX5 yX5_emptyFrame yX5_emptyFrame, Cond.code yX5_emptyFrame cX5_emptyFrame 2 none]
def wsX5_gap : List Cond := .code yX5_gap cX5_gap 1 (some .int) :: ((wsX5_gap_r1 ++ (wsX5_gap_r2 ++ wsX5_gap_r3)) ++ wsX50)
def wsX5_drop : List Cond := .code yX5_drop cX5_drop 2 (some .int) :: ([.fieldLink RX5 33 "WireLampsModel" "thrown" "I", .fieldLink RX5 7 "WireLampsModel" "z" "[I", .methodLink RX5 47 yX5_saveState, .instanceMethod yX5_saveState, .selects RX5 yX5_saveState yX5_saveState, .initialized RX5, .code yX5_saveState cX5_saveState 2 none, .fieldLink RX5 40 "WireLampsModel" "savedMany" "I", .fieldLink RX5 13 "WireLampsModel" "saved" "[I", .methodLink RX5 43 yX5_copyState, .static yX5_copyState, .code yX5_copyState cX5_copyState 5 none, .methodLink RX5 104 yX5_emptyFrame, .instanceMethod yX5_emptyFrame, .selects RX5 yX5_emptyFrame yX5_emptyFrame, .code yX5_emptyFrame cX5_emptyFrame 2 none] ++ wsX50)
def wsX5_append : List Cond := .code yX5_append cX5_append 2 (some .int) :: ([.fieldLink RX5 113 "WireLampsModel" "length" "I", .fieldLink RX5 23 "WireLampsModel" "text" "[I", .methodLink RX5 36 yX5_in, .static yX5_in, .initialized RX5, .code yX5_in cX5_in 3 (some .boolean), .methodLink RX5 54 yX5_refused, .instanceMethod yX5_refused, .selects RX5 yX5_refused yX5_refused, .code yX5_refused cX5_refused 2 (some .boolean), .fieldLink RX5 33 "WireLampsModel" "thrown" "I"] ++ wsX50)
def wsX5_clearBuffer : List Cond := .code yX5_clearBuffer cX5_clearBuffer 2 (some .int) :: ([.fieldLink RX5 33 "WireLampsModel" "thrown" "I", .fieldLink RX5 113 "WireLampsModel" "length" "I"] ++ wsX50)
def wsX5_takesSign : List Cond := .code yX5_takesSign cX5_takesSign 3 (some .boolean) :: ([.fieldLink RX5 116 "WireLampsModel" "spot" "I", .fieldLink RX5 113 "WireLampsModel" "length" "I", .fieldLink RX5 23 "WireLampsModel" "text" "[I"] ++ wsX50)
def wsX5_digit : List Cond := .code yX5_digit cX5_digit 1 (some .int) :: ([.methodLink RX5 36 yX5_in, .static yX5_in, .initialized RX5, .code yX5_in cX5_in 3 (some .boolean)])
def wsX5_readWord : List Cond := .code yX5_readWord cX5_readWord 4 (some .boolean) :: ([.fieldLink RX5 116 "WireLampsModel" "spot" "I", .fieldLink RX5 113 "WireLampsModel" "length" "I", .fieldLink RX5 23 "WireLampsModel" "text" "[I", .fieldLink RX5 30 "WireLampsModel" "told" "[I", .fieldLink RX5 122 "WireLampsModel" "toldMany" "I", .methodLink RX5 119 yX5_digit, .static yX5_digit, .initialized RX5, .code yX5_digit cX5_digit 1 (some .int), .methodLink RX5 36 yX5_in, .static yX5_in, .code yX5_in cX5_in 3 (some .boolean)] ++ wsX50)
def wsX5_readText : List Cond := .code yX5_readText cX5_readText 2 (some .boolean) :: ([.fieldLink RX5 116 "WireLampsModel" "spot" "I", .fieldLink RX5 122 "WireLampsModel" "toldMany" "I", .fieldLink RX5 132 "WireLampsModel" "hasGap" "Z", .fieldLink RX5 113 "WireLampsModel" "length" "I", .methodLink RX5 125 yX5_readWord, .instanceMethod yX5_readWord, .selects RX5 yX5_readWord yX5_readWord, .initialized RX5, .code yX5_readWord cX5_readWord 4 (some .boolean), .fieldLink RX5 23 "WireLampsModel" "text" "[I", .fieldLink RX5 30 "WireLampsModel" "told" "[I", .methodLink RX5 119 yX5_digit, .static yX5_digit, .code yX5_digit cX5_digit 1 (some .int), .methodLink RX5 36 yX5_in, .static yX5_in, .code yX5_in cX5_in 3 (some .boolean), .methodLink RX5 129 yX5_takesSign, .instanceMethod yX5_takesSign, .selects RX5 yX5_takesSign yX5_takesSign, .code yX5_takesSign cX5_takesSign 3 (some .boolean)] ++ wsX50)
def wsX5_firstError_r1 : List Cond := [Cond.fieldLink RX5 33 "WireLampsModel" "thrown" "I", Cond.fieldLink RX5 113 "WireLampsModel" "length" "I", Cond.fieldLink RX5 116 "WireLampsModel" "spot" "I", Cond.methodLink RX5 136 yX5_readText, Cond.instanceMethod yX5_readText, Cond.selects RX5 yX5_readText yX5_readText, Cond.initialized RX5, Cond.code yX5_readText cX5_readText 2 (some .boolean), Cond.fieldLink RX5 122 "WireLampsModel" "toldMany" "I", Cond.fieldLink RX5 132 "WireLampsModel" "hasGap" "Z", Cond.methodLink RX5 125 yX5_readWord, Cond.instanceMethod yX5_readWord, Cond.selects RX5 yX5_readWord yX5_readWord, Cond.code yX5_readWord cX5_readWord 4 (some .boolean), Cond.fieldLink RX5 23 "WireLampsModel" "text" "[I", Cond.fieldLink RX5 30 "WireLampsModel" "told" "[I", Cond.methodLink RX5 119 yX5_digit, Cond.static yX5_digit, Cond.code yX5_digit cX5_digit 1 (some .int), Cond.methodLink RX5 36 yX5_in, Cond.static yX5_in, Cond.code yX5_in cX5_in 3 (some .boolean), Cond.methodLink RX5 129 yX5_takesSign, Cond.instanceMethod yX5_takesSign]
def wsX5_firstError_r2 : List Cond := [Cond.selects RX5 yX5_takesSign yX5_takesSign, Cond.code yX5_takesSign cX5_takesSign 3 (some .boolean)]
def wsX5_firstError : List Cond := .code yX5_firstError cX5_firstError 1 (some .int) :: ((wsX5_firstError_r1 ++ wsX5_firstError_r2) ++ wsX50)
def wsX5_load_r1 : List Cond := [Cond.fieldLink RX5 113 "WireLampsModel" "length" "I", Cond.fieldLink RX5 7 "WireLampsModel" "z" "[I", Cond.fieldLink RX5 122 "WireLampsModel" "toldMany" "I", Cond.fieldLink RX5 30 "WireLampsModel" "told" "[I", Cond.fieldLink RX5 132 "WireLampsModel" "hasGap" "Z", Cond.methodLink RX5 136 yX5_readText, Cond.instanceMethod yX5_readText, Cond.selects RX5 yX5_readText yX5_readText, Cond.initialized RX5, Cond.code yX5_readText cX5_readText 2 (some .boolean), Cond.fieldLink RX5 116 "WireLampsModel" "spot" "I", Cond.methodLink RX5 125 yX5_readWord, Cond.instanceMethod yX5_readWord, Cond.selects RX5 yX5_readWord yX5_readWord, Cond.code yX5_readWord cX5_readWord 4 (some .boolean), Cond.fieldLink RX5 23 "WireLampsModel" "text" "[I", Cond.methodLink RX5 119 yX5_digit, Cond.static yX5_digit, Cond.code yX5_digit cX5_digit 1 (some .int), Cond.methodLink RX5 36 yX5_in, Cond.static yX5_in, Cond.code yX5_in cX5_in 3 (some .boolean), Cond.methodLink RX5 129 yX5_takesSign, Cond.instanceMethod yX5_takesSign]
def wsX5_load_r2 : List Cond := [Cond.selects RX5 yX5_takesSign yX5_takesSign, Cond.code yX5_takesSign cX5_takesSign 3 (some .boolean), Cond.methodLink RX5 54 yX5_refused, Cond.instanceMethod yX5_refused, Cond.selects RX5 yX5_refused yX5_refused, Cond.code yX5_refused cX5_refused 2 (some .boolean), Cond.fieldLink RX5 33 "WireLampsModel" "thrown" "I", Cond.methodLink RX5 47 yX5_saveState, Cond.instanceMethod yX5_saveState, Cond.selects RX5 yX5_saveState yX5_saveState, Cond.code yX5_saveState cX5_saveState 2 none, Cond.fieldLink RX5 40 "WireLampsModel" "savedMany" "I", Cond.fieldLink RX5 13 "WireLampsModel" "saved" "[I", Cond.methodLink RX5 43 yX5_copyState, Cond.static yX5_copyState, Cond.code yX5_copyState cX5_copyState 5 none, Cond.methodLink RX5 107 yX5_sendNow, Cond.instanceMethod yX5_sendNow, Cond.selects RX5 yX5_sendNow yX5_sendNow, Cond.code yX5_sendNow cX5_sendNow 3 none, Cond.methodLink RX5 65 yX5_pulseOf, Cond.static yX5_pulseOf, Cond.code yX5_pulseOf cX5_pulseOf 2 (some .int), Cond.methodLink RX5 94 yX5_addPulse]
def wsX5_load_r3 : List Cond := [Cond.instanceMethod yX5_addPulse, Cond.selects RX5 yX5_addPulse yX5_addPulse, Cond.code yX5_addPulse cX5_addPulse 2 none, Cond.methodLink RX5 110 yX5_gapNow, Cond.instanceMethod yX5_gapNow, Cond.selects RX5 yX5_gapNow yX5_gapNow, Cond.code yX5_gapNow cX5_gapNow 5 (some .int), Cond.fieldLink RX5 26 "WireLampsModel" "trial" "I", Cond.methodLink RX5 98 yX5_takers, Cond.instanceMethod yX5_takers, Cond.selects RX5 yX5_takers yX5_takers, Cond.code yX5_takers cX5_takers 3 (some .int), Cond.methodLink RX5 88 yX5_takes, Cond.instanceMethod yX5_takes, Cond.selects RX5 yX5_takes yX5_takes, Cond.code yX5_takes cX5_takes 2 (some .boolean), Cond.methodLink RX5 68 yX5_isTaker, Cond.instanceMethod yX5_isTaker, Cond.selects RX5 yX5_isTaker yX5_isTaker, Cond.code yX5_isTaker cX5_isTaker 2 (some .boolean), Cond.methodLink RX5 85 yX5_comes, Cond.instanceMethod yX5_comes, Cond.selects RX5 yX5_comes yX5_comes, Cond.code yX5_comes cX5_comes 3 (some .int)]
def wsX5_load_r4 : List Cond := [Cond.methodLink RX5 71 yX5_pulses, Cond.instanceMethod yX5_pulses, Cond.selects RX5 yX5_pulses yX5_pulses, Cond.code yX5_pulses cX5_pulses 1 (some .int), Cond.methodLink RX5 75 yX5_takersAhead, Cond.instanceMethod yX5_takersAhead, Cond.selects RX5 yX5_takersAhead yX5_takersAhead, Cond.code yX5_takersAhead cX5_takersAhead 4 (some .int), Cond.methodLink RX5 79 yX5_isCut, Cond.instanceMethod yX5_isCut, Cond.selects RX5 yX5_isCut yX5_isCut, Cond.code yX5_isCut cX5_isCut 4 (some .boolean), Cond.methodLink RX5 101 yX5_wordBehind, Cond.instanceMethod yX5_wordBehind, Cond.selects RX5 yX5_wordBehind yX5_wordBehind, Cond.code yX5_wordBehind cX5_wordBehind 5 (some .int), Cond.methodLink RX5 91 yX5_arrives, Cond.instanceMethod yX5_arrives, Cond.selects RX5 yX5_arrives yX5_arrives, Cond.code yX5_arrives cX5_arrives 5 (some .int), Cond.methodLink RX5 82 yX5_lengthOf, Cond.instanceMethod yX5_lengthOf, Cond.selects RX5 yX5_lengthOf yX5_lengthOf, Cond.code yX5_lengthOf cX5_lengthOf 2 (some .int)]
def wsX5_load_r5 : List Cond := [Cond.methodLink RX5 104 yX5_emptyFrame, Cond.instanceMethod yX5_emptyFrame, Cond.selects RX5 yX5_emptyFrame yX5_emptyFrame, Cond.code yX5_emptyFrame cX5_emptyFrame 2 none]
def wsX5_load : List Cond := .code yX5_load cX5_load 2 (some .int) :: ((wsX5_load_r1 ++ (wsX5_load_r2 ++ (wsX5_load_r3 ++ (wsX5_load_r4 ++ wsX5_load_r5)))) ++ wsX50)
def wsX5_keep : List Cond := .code yX5_keep cX5_keep 2 (some .int) :: ([.fieldLink RX5 7 "WireLampsModel" "z" "[I", .fieldLink RX5 16 "WireLampsModel" "slots" "[I", .fieldLink RX5 19 "WireLampsModel" "isKept" "[Z", .methodLink RX5 36 yX5_in, .static yX5_in, .initialized RX5, .code yX5_in cX5_in 3 (some .boolean), .methodLink RX5 54 yX5_refused, .instanceMethod yX5_refused, .selects RX5 yX5_refused yX5_refused, .code yX5_refused cX5_refused 2 (some .boolean), .fieldLink RX5 33 "WireLampsModel" "thrown" "I", .methodLink RX5 43 yX5_copyState, .static yX5_copyState, .code yX5_copyState cX5_copyState 5 none] ++ wsX50)
def wsX5_goBack : List Cond := .code yX5_goBack cX5_goBack 2 (some .int) :: ([.fieldLink RX5 19 "WireLampsModel" "isKept" "[Z", .fieldLink RX5 16 "WireLampsModel" "slots" "[I", .fieldLink RX5 7 "WireLampsModel" "z" "[I", .methodLink RX5 36 yX5_in, .static yX5_in, .initialized RX5, .code yX5_in cX5_in 3 (some .boolean), .methodLink RX5 54 yX5_refused, .instanceMethod yX5_refused, .selects RX5 yX5_refused yX5_refused, .code yX5_refused cX5_refused 2 (some .boolean), .fieldLink RX5 33 "WireLampsModel" "thrown" "I", .methodLink RX5 47 yX5_saveState, .instanceMethod yX5_saveState, .selects RX5 yX5_saveState yX5_saveState, .code yX5_saveState cX5_saveState 2 none, .fieldLink RX5 40 "WireLampsModel" "savedMany" "I", .fieldLink RX5 13 "WireLampsModel" "saved" "[I", .methodLink RX5 43 yX5_copyState, .static yX5_copyState, .code yX5_copyState cX5_copyState 5 none] ++ wsX50)
def wsX5_undo : List Cond := .code yX5_undo cX5_undo 1 (some .int) :: ([.fieldLink RX5 40 "WireLampsModel" "savedMany" "I", .fieldLink RX5 13 "WireLampsModel" "saved" "[I", .fieldLink RX5 7 "WireLampsModel" "z" "[I", .methodLink RX5 54 yX5_refused, .instanceMethod yX5_refused, .selects RX5 yX5_refused yX5_refused, .initialized RX5, .code yX5_refused cX5_refused 2 (some .boolean), .fieldLink RX5 33 "WireLampsModel" "thrown" "I", .methodLink RX5 43 yX5_copyState, .static yX5_copyState, .code yX5_copyState cX5_copyState 5 none] ++ wsX50)
def wsX5_colour : List Cond := .code yX5_colour cX5_colour 2 (some .int) :: ([])
def wsX5_wanted : List Cond := .code yX5_wanted cX5_wanted 4 (some .int) :: ([.fieldLink RX5 7 "WireLampsModel" "z" "[I", .methodLink RX5 139 yX5_colour, .static yX5_colour, .initialized RX5, .code yX5_colour cX5_colour 2 (some .int)] ++ wsX50)
def wsX5_shown : List Cond := .code yX5_shown cX5_shown 5 (some .int) :: ([.fieldLink RX5 7 "WireLampsModel" "z" "[I", .methodLink RX5 142 yX5_wanted, .instanceMethod yX5_wanted, .selects RX5 yX5_wanted yX5_wanted, .initialized RX5, .code yX5_wanted cX5_wanted 4 (some .int), .methodLink RX5 139 yX5_colour, .static yX5_colour, .code yX5_colour cX5_colour 2 (some .int)] ++ wsX50)
def wsX5_allShown : List Cond := .code yX5_allShown cX5_allShown 4 (some .int) :: ([.methodLink RX5 145 yX5_shown, .instanceMethod yX5_shown, .selects RX5 yX5_shown yX5_shown, .initialized RX5, .code yX5_shown cX5_shown 5 (some .int), .fieldLink RX5 7 "WireLampsModel" "z" "[I", .methodLink RX5 142 yX5_wanted, .instanceMethod yX5_wanted, .selects RX5 yX5_wanted yX5_wanted, .code yX5_wanted cX5_wanted 4 (some .int), .methodLink RX5 139 yX5_colour, .static yX5_colour, .code yX5_colour cX5_colour 2 (some .int)] ++ wsX50)
def wsX5_shining : List Cond := .code yX5_shining cX5_shining 3 (some .int) :: ([.fieldLink RX5 7 "WireLampsModel" "z" "[I"] ++ wsX50)
def wsX5_aboutLamp : List Cond := .code yX5_aboutLamp cX5_aboutLamp 3 (some .int) :: ([.fieldLink RX5 7 "WireLampsModel" "z" "[I", .methodLink RX5 145 yX5_shown, .instanceMethod yX5_shown, .selects RX5 yX5_shown yX5_shown, .initialized RX5, .code yX5_shown cX5_shown 5 (some .int), .methodLink RX5 142 yX5_wanted, .instanceMethod yX5_wanted, .selects RX5 yX5_wanted yX5_wanted, .code yX5_wanted cX5_wanted 4 (some .int), .methodLink RX5 139 yX5_colour, .static yX5_colour, .code yX5_colour cX5_colour 2 (some .int)] ++ wsX50)
def wsX5_lampOf_r1 : List Cond := [Cond.methodLink RX5 50 yX5_isLamp, Cond.static yX5_isLamp, Cond.initialized RX5, Cond.code yX5_isLamp cX5_isLamp 1 (some .boolean), Cond.methodLink RX5 36 yX5_in, Cond.static yX5_in, Cond.code yX5_in cX5_in 3 (some .boolean), Cond.methodLink RX5 54 yX5_refused, Cond.instanceMethod yX5_refused, Cond.selects RX5 yX5_refused yX5_refused, Cond.code yX5_refused cX5_refused 2 (some .boolean), Cond.fieldLink RX5 33 "WireLampsModel" "thrown" "I", Cond.methodLink RX5 148 yX5_aboutLamp, Cond.instanceMethod yX5_aboutLamp, Cond.selects RX5 yX5_aboutLamp yX5_aboutLamp, Cond.code yX5_aboutLamp cX5_aboutLamp 3 (some .int), Cond.fieldLink RX5 7 "WireLampsModel" "z" "[I", Cond.methodLink RX5 145 yX5_shown, Cond.instanceMethod yX5_shown, Cond.selects RX5 yX5_shown yX5_shown, Cond.code yX5_shown cX5_shown 5 (some .int), Cond.methodLink RX5 142 yX5_wanted, Cond.instanceMethod yX5_wanted, Cond.selects RX5 yX5_wanted yX5_wanted]
def wsX5_lampOf_r2 : List Cond := [Cond.code yX5_wanted cX5_wanted 4 (some .int), Cond.methodLink RX5 139 yX5_colour, Cond.static yX5_colour, Cond.code yX5_colour cX5_colour 2 (some .int)]
def wsX5_lampOf : List Cond := .code yX5_lampOf cX5_lampOf 3 (some .int) :: ((wsX5_lampOf_r1 ++ wsX5_lampOf_r2) ++ wsX50)
def wsX5_pulseAt : List Cond := .code yX5_pulseAt cX5_pulseAt 2 (some .int) :: ([.fieldLink RX5 7 "WireLampsModel" "z" "[I", .methodLink RX5 54 yX5_refused, .instanceMethod yX5_refused, .selects RX5 yX5_refused yX5_refused, .initialized RX5, .code yX5_refused cX5_refused 2 (some .boolean), .fieldLink RX5 33 "WireLampsModel" "thrown" "I"] ++ wsX50)
def wsX5_number : List Cond := .code yX5_number cX5_number 2 (some .int) :: ([.fieldLink RX5 7 "WireLampsModel" "z" "[I", .fieldLink RX5 40 "WireLampsModel" "savedMany" "I", .methodLink RX5 142 yX5_wanted, .instanceMethod yX5_wanted, .selects RX5 yX5_wanted yX5_wanted, .initialized RX5, .code yX5_wanted cX5_wanted 4 (some .int), .methodLink RX5 139 yX5_colour, .static yX5_colour, .code yX5_colour cX5_colour 2 (some .int), .methodLink RX5 151 yX5_allShown, .instanceMethod yX5_allShown, .selects RX5 yX5_allShown yX5_allShown, .code yX5_allShown cX5_allShown 4 (some .int), .methodLink RX5 145 yX5_shown, .instanceMethod yX5_shown, .selects RX5 yX5_shown yX5_shown, .code yX5_shown cX5_shown 5 (some .int), .methodLink RX5 154 yX5_shining, .instanceMethod yX5_shining, .selects RX5 yX5_shining yX5_shining, .code yX5_shining cX5_shining 3 (some .int)] ++ wsX50)
def wsX5_count_r1 : List Cond := [Cond.methodLink RX5 36 yX5_in, Cond.static yX5_in, Cond.initialized RX5, Cond.code yX5_in cX5_in 3 (some .boolean), Cond.methodLink RX5 54 yX5_refused, Cond.instanceMethod yX5_refused, Cond.selects RX5 yX5_refused yX5_refused, Cond.code yX5_refused cX5_refused 2 (some .boolean), Cond.fieldLink RX5 33 "WireLampsModel" "thrown" "I", Cond.methodLink RX5 157 yX5_number, Cond.instanceMethod yX5_number, Cond.selects RX5 yX5_number yX5_number, Cond.code yX5_number cX5_number 2 (some .int), Cond.fieldLink RX5 7 "WireLampsModel" "z" "[I", Cond.fieldLink RX5 40 "WireLampsModel" "savedMany" "I", Cond.methodLink RX5 142 yX5_wanted, Cond.instanceMethod yX5_wanted, Cond.selects RX5 yX5_wanted yX5_wanted, Cond.code yX5_wanted cX5_wanted 4 (some .int), Cond.methodLink RX5 139 yX5_colour, Cond.static yX5_colour, Cond.code yX5_colour cX5_colour 2 (some .int), Cond.methodLink RX5 151 yX5_allShown, Cond.instanceMethod yX5_allShown]
def wsX5_count_r2 : List Cond := [Cond.selects RX5 yX5_allShown yX5_allShown, Cond.code yX5_allShown cX5_allShown 4 (some .int), Cond.methodLink RX5 145 yX5_shown, Cond.instanceMethod yX5_shown, Cond.selects RX5 yX5_shown yX5_shown, Cond.code yX5_shown cX5_shown 5 (some .int), Cond.methodLink RX5 154 yX5_shining, Cond.instanceMethod yX5_shining, Cond.selects RX5 yX5_shining yX5_shining, Cond.code yX5_shining cX5_shining 3 (some .int)]
def wsX5_count : List Cond := .code yX5_count cX5_count 2 (some .int) :: ((wsX5_count_r1 ++ wsX5_count_r2) ++ wsX50)
def wsX5_setting : List Cond := .code yX5_setting cX5_setting 2 (some .int) :: ([.fieldLink RX5 7 "WireLampsModel" "z" "[I", .methodLink RX5 36 yX5_in, .static yX5_in, .initialized RX5, .code yX5_in cX5_in 3 (some .boolean), .methodLink RX5 54 yX5_refused, .instanceMethod yX5_refused, .selects RX5 yX5_refused yX5_refused, .code yX5_refused cX5_refused 2 (some .boolean), .fieldLink RX5 33 "WireLampsModel" "thrown" "I"] ++ wsX50)
def wsX5_ifGap_r1 : List Cond := [Cond.fieldLink RX5 26 "WireLampsModel" "trial" "I", Cond.methodLink RX5 50 yX5_isLamp, Cond.static yX5_isLamp, Cond.initialized RX5, Cond.code yX5_isLamp cX5_isLamp 1 (some .boolean), Cond.methodLink RX5 36 yX5_in, Cond.static yX5_in, Cond.code yX5_in cX5_in 3 (some .boolean), Cond.methodLink RX5 54 yX5_refused, Cond.instanceMethod yX5_refused, Cond.selects RX5 yX5_refused yX5_refused, Cond.code yX5_refused cX5_refused 2 (some .boolean), Cond.fieldLink RX5 33 "WireLampsModel" "thrown" "I", Cond.methodLink RX5 101 yX5_wordBehind, Cond.instanceMethod yX5_wordBehind, Cond.selects RX5 yX5_wordBehind yX5_wordBehind, Cond.code yX5_wordBehind cX5_wordBehind 5 (some .int), Cond.fieldLink RX5 7 "WireLampsModel" "z" "[I", Cond.methodLink RX5 88 yX5_takes, Cond.instanceMethod yX5_takes, Cond.selects RX5 yX5_takes yX5_takes, Cond.code yX5_takes cX5_takes 2 (some .boolean), Cond.methodLink RX5 68 yX5_isTaker, Cond.instanceMethod yX5_isTaker]
def wsX5_ifGap_r2 : List Cond := [Cond.selects RX5 yX5_isTaker yX5_isTaker, Cond.code yX5_isTaker cX5_isTaker 2 (some .boolean), Cond.methodLink RX5 85 yX5_comes, Cond.instanceMethod yX5_comes, Cond.selects RX5 yX5_comes yX5_comes, Cond.code yX5_comes cX5_comes 3 (some .int), Cond.methodLink RX5 71 yX5_pulses, Cond.instanceMethod yX5_pulses, Cond.selects RX5 yX5_pulses yX5_pulses, Cond.code yX5_pulses cX5_pulses 1 (some .int), Cond.methodLink RX5 75 yX5_takersAhead, Cond.instanceMethod yX5_takersAhead, Cond.selects RX5 yX5_takersAhead yX5_takersAhead, Cond.code yX5_takersAhead cX5_takersAhead 4 (some .int), Cond.methodLink RX5 79 yX5_isCut, Cond.instanceMethod yX5_isCut, Cond.selects RX5 yX5_isCut yX5_isCut, Cond.code yX5_isCut cX5_isCut 4 (some .boolean), Cond.methodLink RX5 91 yX5_arrives, Cond.instanceMethod yX5_arrives, Cond.selects RX5 yX5_arrives yX5_arrives, Cond.code yX5_arrives cX5_arrives 5 (some .int), Cond.methodLink RX5 82 yX5_lengthOf, Cond.instanceMethod yX5_lengthOf]
def wsX5_ifGap_r3 : List Cond := [Cond.selects RX5 yX5_lengthOf yX5_lengthOf, Cond.code yX5_lengthOf cX5_lengthOf 2 (some .int), Cond.methodLink RX5 65 yX5_pulseOf, Cond.static yX5_pulseOf, Cond.code yX5_pulseOf cX5_pulseOf 2 (some .int)]
def wsX5_ifGap : List Cond := .code yX5_ifGap cX5_ifGap 3 (some .int) :: ((wsX5_ifGap_r1 ++ (wsX5_ifGap_r2 ++ wsX5_ifGap_r3)) ++ wsX50)
def wsX5_wrongOnes_r1 : List Cond := [Cond.fieldLink RX5 26 "WireLampsModel" "trial" "I", Cond.fieldLink RX5 7 "WireLampsModel" "z" "[I", Cond.methodLink RX5 101 yX5_wordBehind, Cond.instanceMethod yX5_wordBehind, Cond.selects RX5 yX5_wordBehind yX5_wordBehind, Cond.initialized RX5, Cond.code yX5_wordBehind cX5_wordBehind 5 (some .int), Cond.methodLink RX5 88 yX5_takes, Cond.instanceMethod yX5_takes, Cond.selects RX5 yX5_takes yX5_takes, Cond.code yX5_takes cX5_takes 2 (some .boolean), Cond.methodLink RX5 68 yX5_isTaker, Cond.instanceMethod yX5_isTaker, Cond.selects RX5 yX5_isTaker yX5_isTaker, Cond.code yX5_isTaker cX5_isTaker 2 (some .boolean), Cond.methodLink RX5 85 yX5_comes, Cond.instanceMethod yX5_comes, Cond.selects RX5 yX5_comes yX5_comes, Cond.code yX5_comes cX5_comes 3 (some .int), Cond.methodLink RX5 71 yX5_pulses, Cond.instanceMethod yX5_pulses, Cond.selects RX5 yX5_pulses yX5_pulses, Cond.code yX5_pulses cX5_pulses 1 (some .int), Cond.methodLink RX5 75 yX5_takersAhead]
def wsX5_wrongOnes_r2 : List Cond := [Cond.instanceMethod yX5_takersAhead, Cond.selects RX5 yX5_takersAhead yX5_takersAhead, Cond.code yX5_takersAhead cX5_takersAhead 4 (some .int), Cond.methodLink RX5 79 yX5_isCut, Cond.instanceMethod yX5_isCut, Cond.selects RX5 yX5_isCut yX5_isCut, Cond.code yX5_isCut cX5_isCut 4 (some .boolean), Cond.methodLink RX5 91 yX5_arrives, Cond.instanceMethod yX5_arrives, Cond.selects RX5 yX5_arrives yX5_arrives, Cond.code yX5_arrives cX5_arrives 5 (some .int), Cond.methodLink RX5 82 yX5_lengthOf, Cond.instanceMethod yX5_lengthOf, Cond.selects RX5 yX5_lengthOf yX5_lengthOf, Cond.code yX5_lengthOf cX5_lengthOf 2 (some .int), Cond.methodLink RX5 65 yX5_pulseOf, Cond.static yX5_pulseOf, Cond.code yX5_pulseOf cX5_pulseOf 2 (some .int)]
def wsX5_wrongOnes : List Cond := .code yX5_wrongOnes cX5_wrongOnes 5 (some .int) :: ((wsX5_wrongOnes_r1 ++ wsX5_wrongOnes_r2) ++ wsX50)
def wsX5_wrong_r1 : List Cond := [Cond.methodLink RX5 36 yX5_in, Cond.static yX5_in, Cond.initialized RX5, Cond.code yX5_in cX5_in 3 (some .boolean), Cond.methodLink RX5 54 yX5_refused, Cond.instanceMethod yX5_refused, Cond.selects RX5 yX5_refused yX5_refused, Cond.code yX5_refused cX5_refused 2 (some .boolean), Cond.fieldLink RX5 33 "WireLampsModel" "thrown" "I", Cond.methodLink RX5 160 yX5_wrongOnes, Cond.instanceMethod yX5_wrongOnes, Cond.selects RX5 yX5_wrongOnes yX5_wrongOnes, Cond.code yX5_wrongOnes cX5_wrongOnes 5 (some .int), Cond.fieldLink RX5 26 "WireLampsModel" "trial" "I", Cond.fieldLink RX5 7 "WireLampsModel" "z" "[I", Cond.methodLink RX5 101 yX5_wordBehind, Cond.instanceMethod yX5_wordBehind, Cond.selects RX5 yX5_wordBehind yX5_wordBehind, Cond.code yX5_wordBehind cX5_wordBehind 5 (some .int), Cond.methodLink RX5 88 yX5_takes, Cond.instanceMethod yX5_takes, Cond.selects RX5 yX5_takes yX5_takes, Cond.code yX5_takes cX5_takes 2 (some .boolean), Cond.methodLink RX5 68 yX5_isTaker]
def wsX5_wrong_r2 : List Cond := [Cond.instanceMethod yX5_isTaker, Cond.selects RX5 yX5_isTaker yX5_isTaker, Cond.code yX5_isTaker cX5_isTaker 2 (some .boolean), Cond.methodLink RX5 85 yX5_comes, Cond.instanceMethod yX5_comes, Cond.selects RX5 yX5_comes yX5_comes, Cond.code yX5_comes cX5_comes 3 (some .int), Cond.methodLink RX5 71 yX5_pulses, Cond.instanceMethod yX5_pulses, Cond.selects RX5 yX5_pulses yX5_pulses, Cond.code yX5_pulses cX5_pulses 1 (some .int), Cond.methodLink RX5 75 yX5_takersAhead, Cond.instanceMethod yX5_takersAhead, Cond.selects RX5 yX5_takersAhead yX5_takersAhead, Cond.code yX5_takersAhead cX5_takersAhead 4 (some .int), Cond.methodLink RX5 79 yX5_isCut, Cond.instanceMethod yX5_isCut, Cond.selects RX5 yX5_isCut yX5_isCut, Cond.code yX5_isCut cX5_isCut 4 (some .boolean), Cond.methodLink RX5 91 yX5_arrives, Cond.instanceMethod yX5_arrives, Cond.selects RX5 yX5_arrives yX5_arrives, Cond.code yX5_arrives cX5_arrives 5 (some .int), Cond.methodLink RX5 82 yX5_lengthOf]
def wsX5_wrong_r3 : List Cond := [Cond.instanceMethod yX5_lengthOf, Cond.selects RX5 yX5_lengthOf yX5_lengthOf, Cond.code yX5_lengthOf cX5_lengthOf 2 (some .int), Cond.methodLink RX5 65 yX5_pulseOf, Cond.static yX5_pulseOf, Cond.code yX5_pulseOf cX5_pulseOf 2 (some .int)]
def wsX5_wrong : List Cond := .code yX5_wrong cX5_wrong 2 (some .int) :: ((wsX5_wrong_r1 ++ (wsX5_wrong_r2 ++ wsX5_wrong_r3)) ++ wsX50)
def wsX5_greatestLoss_r1 : List Cond := [Cond.fieldLink RX5 7 "WireLampsModel" "z" "[I", Cond.methodLink RX5 160 yX5_wrongOnes, Cond.instanceMethod yX5_wrongOnes, Cond.selects RX5 yX5_wrongOnes yX5_wrongOnes, Cond.initialized RX5, Cond.code yX5_wrongOnes cX5_wrongOnes 5 (some .int), Cond.fieldLink RX5 26 "WireLampsModel" "trial" "I", Cond.methodLink RX5 101 yX5_wordBehind, Cond.instanceMethod yX5_wordBehind, Cond.selects RX5 yX5_wordBehind yX5_wordBehind, Cond.code yX5_wordBehind cX5_wordBehind 5 (some .int), Cond.methodLink RX5 88 yX5_takes, Cond.instanceMethod yX5_takes, Cond.selects RX5 yX5_takes yX5_takes, Cond.code yX5_takes cX5_takes 2 (some .boolean), Cond.methodLink RX5 68 yX5_isTaker, Cond.instanceMethod yX5_isTaker, Cond.selects RX5 yX5_isTaker yX5_isTaker, Cond.code yX5_isTaker cX5_isTaker 2 (some .boolean), Cond.methodLink RX5 85 yX5_comes, Cond.instanceMethod yX5_comes, Cond.selects RX5 yX5_comes yX5_comes, Cond.code yX5_comes cX5_comes 3 (some .int), Cond.methodLink RX5 71 yX5_pulses]
def wsX5_greatestLoss_r2 : List Cond := [Cond.instanceMethod yX5_pulses, Cond.selects RX5 yX5_pulses yX5_pulses, Cond.code yX5_pulses cX5_pulses 1 (some .int), Cond.methodLink RX5 75 yX5_takersAhead, Cond.instanceMethod yX5_takersAhead, Cond.selects RX5 yX5_takersAhead yX5_takersAhead, Cond.code yX5_takersAhead cX5_takersAhead 4 (some .int), Cond.methodLink RX5 79 yX5_isCut, Cond.instanceMethod yX5_isCut, Cond.selects RX5 yX5_isCut yX5_isCut, Cond.code yX5_isCut cX5_isCut 4 (some .boolean), Cond.methodLink RX5 91 yX5_arrives, Cond.instanceMethod yX5_arrives, Cond.selects RX5 yX5_arrives yX5_arrives, Cond.code yX5_arrives cX5_arrives 5 (some .int), Cond.methodLink RX5 82 yX5_lengthOf, Cond.instanceMethod yX5_lengthOf, Cond.selects RX5 yX5_lengthOf yX5_lengthOf, Cond.code yX5_lengthOf cX5_lengthOf 2 (some .int), Cond.methodLink RX5 65 yX5_pulseOf, Cond.static yX5_pulseOf, Cond.code yX5_pulseOf cX5_pulseOf 2 (some .int)]
def wsX5_greatestLoss : List Cond := .code yX5_greatestLoss cX5_greatestLoss 5 (some .int) :: ((wsX5_greatestLoss_r1 ++ wsX5_greatestLoss_r2) ++ wsX50)
def wsX5_bears_r1 : List Cond := [Cond.methodLink RX5 50 yX5_isLamp, Cond.static yX5_isLamp, Cond.initialized RX5, Cond.code yX5_isLamp cX5_isLamp 1 (some .boolean), Cond.methodLink RX5 36 yX5_in, Cond.static yX5_in, Cond.code yX5_in cX5_in 3 (some .boolean), Cond.methodLink RX5 54 yX5_refused, Cond.instanceMethod yX5_refused, Cond.selects RX5 yX5_refused yX5_refused, Cond.code yX5_refused cX5_refused 2 (some .boolean), Cond.fieldLink RX5 33 "WireLampsModel" "thrown" "I", Cond.methodLink RX5 163 yX5_greatestLoss, Cond.instanceMethod yX5_greatestLoss, Cond.selects RX5 yX5_greatestLoss yX5_greatestLoss, Cond.code yX5_greatestLoss cX5_greatestLoss 5 (some .int), Cond.fieldLink RX5 7 "WireLampsModel" "z" "[I", Cond.methodLink RX5 160 yX5_wrongOnes, Cond.instanceMethod yX5_wrongOnes, Cond.selects RX5 yX5_wrongOnes yX5_wrongOnes, Cond.code yX5_wrongOnes cX5_wrongOnes 5 (some .int), Cond.fieldLink RX5 26 "WireLampsModel" "trial" "I", Cond.methodLink RX5 101 yX5_wordBehind, Cond.instanceMethod yX5_wordBehind]
def wsX5_bears_r2 : List Cond := [Cond.selects RX5 yX5_wordBehind yX5_wordBehind, Cond.code yX5_wordBehind cX5_wordBehind 5 (some .int), Cond.methodLink RX5 88 yX5_takes, Cond.instanceMethod yX5_takes, Cond.selects RX5 yX5_takes yX5_takes, Cond.code yX5_takes cX5_takes 2 (some .boolean), Cond.methodLink RX5 68 yX5_isTaker, Cond.instanceMethod yX5_isTaker, Cond.selects RX5 yX5_isTaker yX5_isTaker, Cond.code yX5_isTaker cX5_isTaker 2 (some .boolean), Cond.methodLink RX5 85 yX5_comes, Cond.instanceMethod yX5_comes, Cond.selects RX5 yX5_comes yX5_comes, Cond.code yX5_comes cX5_comes 3 (some .int), Cond.methodLink RX5 71 yX5_pulses, Cond.instanceMethod yX5_pulses, Cond.selects RX5 yX5_pulses yX5_pulses, Cond.code yX5_pulses cX5_pulses 1 (some .int), Cond.methodLink RX5 75 yX5_takersAhead, Cond.instanceMethod yX5_takersAhead, Cond.selects RX5 yX5_takersAhead yX5_takersAhead, Cond.code yX5_takersAhead cX5_takersAhead 4 (some .int), Cond.methodLink RX5 79 yX5_isCut, Cond.instanceMethod yX5_isCut]
def wsX5_bears_r3 : List Cond := [Cond.selects RX5 yX5_isCut yX5_isCut, Cond.code yX5_isCut cX5_isCut 4 (some .boolean), Cond.methodLink RX5 91 yX5_arrives, Cond.instanceMethod yX5_arrives, Cond.selects RX5 yX5_arrives yX5_arrives, Cond.code yX5_arrives cX5_arrives 5 (some .int), Cond.methodLink RX5 82 yX5_lengthOf, Cond.instanceMethod yX5_lengthOf, Cond.selects RX5 yX5_lengthOf yX5_lengthOf, Cond.code yX5_lengthOf cX5_lengthOf 2 (some .int), Cond.methodLink RX5 65 yX5_pulseOf, Cond.static yX5_pulseOf, Cond.code yX5_pulseOf cX5_pulseOf 2 (some .int)]
def wsX5_bears : List Cond := .code yX5_bears cX5_bears 2 (some .int) :: ((wsX5_bears_r1 ++ (wsX5_bears_r2 ++ wsX5_bears_r3)) ++ wsX50)
def wsX5_brokenAt : List Cond := .code yX5_brokenAt cX5_brokenAt 3 (some .int) :: ([.fieldLink RX5 33 "WireLampsModel" "thrown" "I", .fieldLink RX5 26 "WireLampsModel" "trial" "I", .methodLink RX5 85 yX5_comes, .instanceMethod yX5_comes, .selects RX5 yX5_comes yX5_comes, .initialized RX5, .code yX5_comes cX5_comes 3 (some .int), .methodLink RX5 71 yX5_pulses, .instanceMethod yX5_pulses, .selects RX5 yX5_pulses yX5_pulses, .code yX5_pulses cX5_pulses 1 (some .int), .fieldLink RX5 7 "WireLampsModel" "z" "[I", .methodLink RX5 75 yX5_takersAhead, .instanceMethod yX5_takersAhead, .selects RX5 yX5_takersAhead yX5_takersAhead, .code yX5_takersAhead cX5_takersAhead 4 (some .int), .methodLink RX5 68 yX5_isTaker, .instanceMethod yX5_isTaker, .selects RX5 yX5_isTaker yX5_isTaker, .code yX5_isTaker cX5_isTaker 2 (some .boolean), .methodLink RX5 79 yX5_isCut, .instanceMethod yX5_isCut, .selects RX5 yX5_isCut yX5_isCut, .code yX5_isCut cX5_isCut 4 (some .boolean)] ++ wsX50)
def wsX5_fewestWords : List Cond := .code yX5_fewestWords cX5_fewestWords 2 (some .int) :: ([.methodLink RX5 68 yX5_isTaker, .instanceMethod yX5_isTaker, .selects RX5 yX5_isTaker yX5_isTaker, .initialized RX5, .code yX5_isTaker cX5_isTaker 2 (some .boolean), .fieldLink RX5 7 "WireLampsModel" "z" "[I", .methodLink RX5 79 yX5_isCut, .instanceMethod yX5_isCut, .selects RX5 yX5_isCut yX5_isCut, .code yX5_isCut cX5_isCut 4 (some .boolean), .methodLink RX5 75 yX5_takersAhead, .instanceMethod yX5_takersAhead, .selects RX5 yX5_takersAhead yX5_takersAhead, .code yX5_takersAhead cX5_takersAhead 4 (some .int)] ++ wsX50)
def wsX5_wordsTo_r1 : List Cond := [Cond.methodLink RX5 50 yX5_isLamp, Cond.static yX5_isLamp, Cond.initialized RX5, Cond.code yX5_isLamp cX5_isLamp 1 (some .boolean), Cond.methodLink RX5 36 yX5_in, Cond.static yX5_in, Cond.code yX5_in cX5_in 3 (some .boolean), Cond.methodLink RX5 54 yX5_refused, Cond.instanceMethod yX5_refused, Cond.selects RX5 yX5_refused yX5_refused, Cond.code yX5_refused cX5_refused 2 (some .boolean), Cond.fieldLink RX5 33 "WireLampsModel" "thrown" "I", Cond.methodLink RX5 166 yX5_fewestWords, Cond.instanceMethod yX5_fewestWords, Cond.selects RX5 yX5_fewestWords yX5_fewestWords, Cond.code yX5_fewestWords cX5_fewestWords 2 (some .int), Cond.methodLink RX5 68 yX5_isTaker, Cond.instanceMethod yX5_isTaker, Cond.selects RX5 yX5_isTaker yX5_isTaker, Cond.code yX5_isTaker cX5_isTaker 2 (some .boolean), Cond.fieldLink RX5 7 "WireLampsModel" "z" "[I", Cond.methodLink RX5 79 yX5_isCut, Cond.instanceMethod yX5_isCut, Cond.selects RX5 yX5_isCut yX5_isCut]
def wsX5_wordsTo_r2 : List Cond := [Cond.code yX5_isCut cX5_isCut 4 (some .boolean), Cond.methodLink RX5 75 yX5_takersAhead, Cond.instanceMethod yX5_takersAhead, Cond.selects RX5 yX5_takersAhead yX5_takersAhead, Cond.code yX5_takersAhead cX5_takersAhead 4 (some .int)]
def wsX5_wordsTo : List Cond := .code yX5_wordsTo cX5_wordsTo 2 (some .int) :: ((wsX5_wordsTo_r1 ++ wsX5_wordsTo_r2) ++ wsX50)
def wsX5_brightness : List Cond := .code yX5_brightness cX5_brightness 3 (some .double) :: ([.fieldLink RX5 33 "WireLampsModel" "thrown" "I", .constantDouble RX5 169 (4645040803167600640), .methodLink RX5 151 yX5_allShown, .instanceMethod yX5_allShown, .selects RX5 yX5_allShown yX5_allShown, .initialized RX5, .code yX5_allShown cX5_allShown 4 (some .int), .methodLink RX5 145 yX5_shown, .instanceMethod yX5_shown, .selects RX5 yX5_shown yX5_shown, .code yX5_shown cX5_shown 5 (some .int), .fieldLink RX5 7 "WireLampsModel" "z" "[I", .methodLink RX5 142 yX5_wanted, .instanceMethod yX5_wanted, .selects RX5 yX5_wanted yX5_wanted, .code yX5_wanted cX5_wanted 4 (some .int), .methodLink RX5 139 yX5_colour, .static yX5_colour, .code yX5_colour cX5_colour 2 (some .int)] ++ wsX50)
def wsJxe99ae_isNaN_b9ae7 : List Cond := .code yJxe99ae_isNaN_b9ae7 cJxe99ae_isNaN_b9ae7 2 (some .boolean) :: ([])
def wsJxe99ae_doubleToLongBits_ccdee : List Cond := .code yJxe99ae_doubleToLongBits_ccdee cJxe99ae_doubleToLongBits_ccdee 2 (some .long) :: ([.methodLink RJxe99ae 134 ⟨"java/lang/Double", "doubleToRawLongBits", "(D)J"⟩, .native ⟨"java/lang/Double", "doubleToRawLongBits", "(D)J"⟩, .static ⟨"java/lang/Double", "doubleToRawLongBits", "(D)J"⟩, .initialized "java/lang/Double", .constantLong RJxe99ae 137 (9221120237041090560), .methodLink RJxe99ae 122 yJxe99ae_isNaN_b9ae7, .static yJxe99ae_isNaN_b9ae7, .initialized RJxe99ae, .code yJxe99ae_isNaN_b9ae7 cJxe99ae_isNaN_b9ae7 2 (some .boolean)])
def wsX5_digest_r1 : List Cond := [Cond.fieldLink RX5 33 "WireLampsModel" "thrown" "I", Cond.constantLong RX5 171 (3517), Cond.constantLong RX5 173 (31), Cond.fieldLink RX5 7 "WireLampsModel" "z" "[I", Cond.fieldLink RX5 26 "WireLampsModel" "trial" "I", Cond.fieldLink RX5 19 "WireLampsModel" "isKept" "[Z", Cond.fieldLink RX5 113 "WireLampsModel" "length" "I", Cond.fieldLink RX5 23 "WireLampsModel" "text" "[I", Cond.methodLink RX5 157 yX5_number, Cond.instanceMethod yX5_number, Cond.selects RX5 yX5_number yX5_number, Cond.initialized RX5, Cond.code yX5_number cX5_number 2 (some .int), Cond.fieldLink RX5 40 "WireLampsModel" "savedMany" "I", Cond.methodLink RX5 142 yX5_wanted, Cond.instanceMethod yX5_wanted, Cond.selects RX5 yX5_wanted yX5_wanted, Cond.code yX5_wanted cX5_wanted 4 (some .int), Cond.methodLink RX5 139 yX5_colour, Cond.static yX5_colour, Cond.code yX5_colour cX5_colour 2 (some .int), Cond.methodLink RX5 151 yX5_allShown, Cond.instanceMethod yX5_allShown, Cond.selects RX5 yX5_allShown yX5_allShown]
def wsX5_digest_r2 : List Cond := [Cond.code yX5_allShown cX5_allShown 4 (some .int), Cond.methodLink RX5 145 yX5_shown, Cond.instanceMethod yX5_shown, Cond.selects RX5 yX5_shown yX5_shown, Cond.code yX5_shown cX5_shown 5 (some .int), Cond.methodLink RX5 154 yX5_shining, Cond.instanceMethod yX5_shining, Cond.selects RX5 yX5_shining yX5_shining, Cond.code yX5_shining cX5_shining 3 (some .int), Cond.methodLink RX5 148 yX5_aboutLamp, Cond.instanceMethod yX5_aboutLamp, Cond.selects RX5 yX5_aboutLamp yX5_aboutLamp, Cond.code yX5_aboutLamp cX5_aboutLamp 3 (some .int), Cond.methodLink RX5 101 yX5_wordBehind, Cond.instanceMethod yX5_wordBehind, Cond.selects RX5 yX5_wordBehind yX5_wordBehind, Cond.code yX5_wordBehind cX5_wordBehind 5 (some .int), Cond.methodLink RX5 88 yX5_takes, Cond.instanceMethod yX5_takes, Cond.selects RX5 yX5_takes yX5_takes, Cond.code yX5_takes cX5_takes 2 (some .boolean), Cond.methodLink RX5 68 yX5_isTaker, Cond.instanceMethod yX5_isTaker, Cond.selects RX5 yX5_isTaker yX5_isTaker]
def wsX5_digest_r3 : List Cond := [Cond.code yX5_isTaker cX5_isTaker 2 (some .boolean), Cond.methodLink RX5 85 yX5_comes, Cond.instanceMethod yX5_comes, Cond.selects RX5 yX5_comes yX5_comes, Cond.code yX5_comes cX5_comes 3 (some .int), Cond.methodLink RX5 71 yX5_pulses, Cond.instanceMethod yX5_pulses, Cond.selects RX5 yX5_pulses yX5_pulses, Cond.code yX5_pulses cX5_pulses 1 (some .int), Cond.methodLink RX5 75 yX5_takersAhead, Cond.instanceMethod yX5_takersAhead, Cond.selects RX5 yX5_takersAhead yX5_takersAhead, Cond.code yX5_takersAhead cX5_takersAhead 4 (some .int), Cond.methodLink RX5 79 yX5_isCut, Cond.instanceMethod yX5_isCut, Cond.selects RX5 yX5_isCut yX5_isCut, Cond.code yX5_isCut cX5_isCut 4 (some .boolean), Cond.methodLink RX5 91 yX5_arrives, Cond.instanceMethod yX5_arrives, Cond.selects RX5 yX5_arrives yX5_arrives, Cond.code yX5_arrives cX5_arrives 5 (some .int), Cond.methodLink RX5 82 yX5_lengthOf, Cond.instanceMethod yX5_lengthOf, Cond.selects RX5 yX5_lengthOf yX5_lengthOf]
def wsX5_digest_r4 : List Cond := [Cond.code yX5_lengthOf cX5_lengthOf 2 (some .int), Cond.methodLink RX5 65 yX5_pulseOf, Cond.static yX5_pulseOf, Cond.code yX5_pulseOf cX5_pulseOf 2 (some .int), Cond.methodLink RX5 163 yX5_greatestLoss, Cond.instanceMethod yX5_greatestLoss, Cond.selects RX5 yX5_greatestLoss yX5_greatestLoss, Cond.code yX5_greatestLoss cX5_greatestLoss 5 (some .int), Cond.methodLink RX5 160 yX5_wrongOnes, Cond.instanceMethod yX5_wrongOnes, Cond.selects RX5 yX5_wrongOnes yX5_wrongOnes, Cond.code yX5_wrongOnes cX5_wrongOnes 5 (some .int), Cond.methodLink RX5 166 yX5_fewestWords, Cond.instanceMethod yX5_fewestWords, Cond.selects RX5 yX5_fewestWords yX5_fewestWords, Cond.code yX5_fewestWords cX5_fewestWords 2 (some .int), Cond.methodLink RX5 175 yX5_brokenAt, Cond.instanceMethod yX5_brokenAt, Cond.selects RX5 yX5_brokenAt yX5_brokenAt, Cond.code yX5_brokenAt cX5_brokenAt 3 (some .int), Cond.methodLink RX5 178 yX5_brightness, Cond.instanceMethod yX5_brightness, Cond.selects RX5 yX5_brightness yX5_brightness, Cond.code yX5_brightness cX5_brightness 3 (some .double)]
def wsX5_digest_r5 : List Cond := [Cond.constantDouble RX5 169 (4645040803167600640), Cond.methodLink RX5 182 yJxe99ae_doubleToLongBits_ccdee, Cond.static yJxe99ae_doubleToLongBits_ccdee, Cond.initialized RJxe99ae, Cond.code yJxe99ae_doubleToLongBits_ccdee cJxe99ae_doubleToLongBits_ccdee 2 (some .long), Cond.methodLink RJxe99ae 134 ⟨"java/lang/Double", "doubleToRawLongBits", "(D)J"⟩, Cond.native ⟨"java/lang/Double", "doubleToRawLongBits", "(D)J"⟩, Cond.static ⟨"java/lang/Double", "doubleToRawLongBits", "(D)J"⟩, Cond.initialized "java/lang/Double", Cond.constantLong RJxe99ae 137 (9221120237041090560), Cond.methodLink RJxe99ae 122 yJxe99ae_isNaN_b9ae7, Cond.static yJxe99ae_isNaN_b9ae7, Cond.code yJxe99ae_isNaN_b9ae7 cJxe99ae_isNaN_b9ae7 2 (some .boolean)]
def wsX5_digest : List Cond := .code yX5_digest cX5_digest 5 (some .long) :: ((wsX5_digest_r1 ++ (wsX5_digest_r2 ++ (wsX5_digest_r3 ++ (wsX5_digest_r4 ++ wsX5_digest_r5)))) ++ wsX50)
def wsL_mode_r1 : List Cond := [Cond.classLink RL 13 "java/lang/IndexOutOfBoundsException", Cond.classLink RL 15 "java/lang/IllegalArgumentException", Cond.methodLink RL 7 yX4_mode, Cond.instanceMethod yX4_mode, Cond.selects RX4 yX4_mode yX4_mode, Cond.initialized RX4, Cond.code yX4_mode cX4_mode 4 (some .int), Cond.classLink RX4 45 "java/lang/IndexOutOfBoundsException", Cond.initialized "java/lang/IndexOutOfBoundsException", Cond.classLink RX4 52 "java/lang/IllegalArgumentException", Cond.initialized "java/lang/IllegalArgumentException", Cond.fieldLink RX4 33 "WireLamps" "history" "LWireLamps$History;", Cond.fieldLink RX4 10 "WireLamps" "state" "LWireLamps$State;", Cond.fieldLink RX4 61 "WireLamps$State" "modes" "[I", Cond.methodLink RX4 41 yX4_isLamp, Cond.static yX4_isLamp, Cond.code yX4_isLamp cX4_isLamp 1 (some .boolean), Cond.methodLink RX4 57 yX0_save, Cond.instanceMethod yX0_save, Cond.selects RX0 yX0_save yX0_save, Cond.initialized RX0, Cond.code yX0_save cX0_save 3 none, Cond.fieldLink RX0 17 "WireLamps$History" "size" "I", Cond.fieldLink RX0 11 "WireLamps$History" "states" "[LWireLamps$State;"]
def wsL_mode_r2 : List Cond := [Cond.classLink RX0 9 RX2, Cond.instantiable RX2 13, Cond.initialized RX2, Cond.methodLink RX0 21 yX0_dropOldest, Cond.instanceMethod yX0_dropOldest, Cond.selects RX0 yX0_dropOldest yX0_dropOldest, Cond.code yX0_dropOldest cX0_dropOldest 3 none, Cond.instanceMethod yX2_init, Cond.code yX2_init cX2_init 1 none, Cond.methodLink RX2 3 objectInit, Cond.instanceMethod objectInit, Cond.code objectInit ⟨#[0xb1]⟩ 1 none, Cond.arrayClass .int, Cond.fieldLink RX2 9 "WireLamps$State" "modes" "[I", Cond.fieldLink RX2 15 "WireLamps$State" "losses" "[I", Cond.fieldLink RX2 18 "WireLamps$State" "known" "[I", Cond.fieldLink RX2 21 "WireLamps$State" "shining" "[I", Cond.fieldLink RX2 24 "WireLamps$State" "came" "[I", Cond.fieldLink RX2 27 "WireLamps$State" "settings" "[I", Cond.fieldLink RX2 30 "WireLamps$State" "pulses" "[I", Cond.methodLink RX0 25 yX2_copyFrom, Cond.instanceMethod yX2_copyFrom, Cond.selects RX2 yX2_copyFrom yX2_copyFrom, Cond.code yX2_copyFrom cX2_copyFrom 2 none]
def wsL_mode_r3 : List Cond := [Cond.methodLink RX2 33 arraycopyName, Cond.native arraycopyName, Cond.static arraycopyName, Cond.initialized "java/lang/System", Cond.fieldLink RX2 39 "WireLamps$State" "pulseCount" "I", Cond.fieldLink RX2 43 "WireLamps$State" "gaps" "I", Cond.fieldLink RX2 46 "WireLamps$State" "taken" "I", Cond.fieldLink RX2 49 "WireLamps$State" "lost" "I", Cond.fieldLink RX2 52 "WireLamps$State" "dropped" "I", Cond.fieldLink RX2 55 "WireLamps$State" "refused" "I"]
def wsL_mode : List Cond := .codeWith yL_mode cL_mode 5 (some .int) [(0, 10, 13, 13), (0, 10, 17, 15)] :: ((wsL_mode_r1 ++ (wsL_mode_r2 ++ wsL_mode_r3)) ++ wsX40 ++ wsX20 ++ wsX00 ++ (vx_atS RX4 49 "java/lang/IndexOutOfBoundsException" ["java/lang/RuntimeException", "java/lang/Exception"]).filter goodWord ++ (vx_atS RX4 56 "java/lang/IllegalArgumentException" ["java/lang/RuntimeException", "java/lang/Exception"]).filter goodWord)
def wsL_loss_r1 : List Cond := [Cond.classLink RL 13 "java/lang/IndexOutOfBoundsException", Cond.classLink RL 15 "java/lang/IllegalArgumentException", Cond.methodLink RL 17 yX4_loss, Cond.instanceMethod yX4_loss, Cond.selects RX4 yX4_loss yX4_loss, Cond.initialized RX4, Cond.code yX4_loss cX4_loss 4 (some .int), Cond.classLink RX4 45 "java/lang/IndexOutOfBoundsException", Cond.initialized "java/lang/IndexOutOfBoundsException", Cond.classLink RX4 52 "java/lang/IllegalArgumentException", Cond.initialized "java/lang/IllegalArgumentException", Cond.fieldLink RX4 33 "WireLamps" "history" "LWireLamps$History;", Cond.fieldLink RX4 10 "WireLamps" "state" "LWireLamps$State;", Cond.fieldLink RX4 67 "WireLamps$State" "losses" "[I", Cond.methodLink RX4 41 yX4_isLamp, Cond.static yX4_isLamp, Cond.code yX4_isLamp cX4_isLamp 1 (some .boolean), Cond.methodLink RX4 57 yX0_save, Cond.instanceMethod yX0_save, Cond.selects RX0 yX0_save yX0_save, Cond.initialized RX0, Cond.code yX0_save cX0_save 3 none, Cond.fieldLink RX0 17 "WireLamps$History" "size" "I", Cond.fieldLink RX0 11 "WireLamps$History" "states" "[LWireLamps$State;"]
def wsL_loss_r2 : List Cond := [Cond.classLink RX0 9 RX2, Cond.instantiable RX2 13, Cond.initialized RX2, Cond.methodLink RX0 21 yX0_dropOldest, Cond.instanceMethod yX0_dropOldest, Cond.selects RX0 yX0_dropOldest yX0_dropOldest, Cond.code yX0_dropOldest cX0_dropOldest 3 none, Cond.instanceMethod yX2_init, Cond.code yX2_init cX2_init 1 none, Cond.methodLink RX2 3 objectInit, Cond.instanceMethod objectInit, Cond.code objectInit ⟨#[0xb1]⟩ 1 none, Cond.arrayClass .int, Cond.fieldLink RX2 9 "WireLamps$State" "modes" "[I", Cond.fieldLink RX2 15 "WireLamps$State" "losses" "[I", Cond.fieldLink RX2 18 "WireLamps$State" "known" "[I", Cond.fieldLink RX2 21 "WireLamps$State" "shining" "[I", Cond.fieldLink RX2 24 "WireLamps$State" "came" "[I", Cond.fieldLink RX2 27 "WireLamps$State" "settings" "[I", Cond.fieldLink RX2 30 "WireLamps$State" "pulses" "[I", Cond.methodLink RX0 25 yX2_copyFrom, Cond.instanceMethod yX2_copyFrom, Cond.selects RX2 yX2_copyFrom yX2_copyFrom, Cond.code yX2_copyFrom cX2_copyFrom 2 none]
def wsL_loss_r3 : List Cond := [Cond.methodLink RX2 33 arraycopyName, Cond.native arraycopyName, Cond.static arraycopyName, Cond.initialized "java/lang/System", Cond.fieldLink RX2 39 "WireLamps$State" "pulseCount" "I", Cond.fieldLink RX2 43 "WireLamps$State" "gaps" "I", Cond.fieldLink RX2 46 "WireLamps$State" "taken" "I", Cond.fieldLink RX2 49 "WireLamps$State" "lost" "I", Cond.fieldLink RX2 52 "WireLamps$State" "dropped" "I", Cond.fieldLink RX2 55 "WireLamps$State" "refused" "I"]
def wsL_loss : List Cond := .codeWith yL_loss cL_loss 5 (some .int) [(0, 10, 13, 13), (0, 10, 17, 15)] :: ((wsL_loss_r1 ++ (wsL_loss_r2 ++ wsL_loss_r3)) ++ wsX40 ++ wsX20 ++ wsX00 ++ (vx_atS RX4 49 "java/lang/IndexOutOfBoundsException" ["java/lang/RuntimeException", "java/lang/Exception"]).filter goodWord ++ (vx_atS RX4 56 "java/lang/IllegalArgumentException" ["java/lang/RuntimeException", "java/lang/Exception"]).filter goodWord)
def wsL_set_r1 : List Cond := [Cond.classLink RL 13 "java/lang/IndexOutOfBoundsException", Cond.classLink RL 15 "java/lang/IllegalArgumentException", Cond.methodLink RL 20 yX4_set, Cond.instanceMethod yX4_set, Cond.selects RX4 yX4_set yX4_set, Cond.initialized RX4, Cond.code yX4_set cX4_set 4 (some .int), Cond.classLink RX4 45 "java/lang/IndexOutOfBoundsException", Cond.initialized "java/lang/IndexOutOfBoundsException", Cond.classLink RX4 52 "java/lang/IllegalArgumentException", Cond.initialized "java/lang/IllegalArgumentException", Cond.fieldLink RX4 75 "WireLamps" "LOWEST_VALUE" "[I", Cond.fieldLink RX4 78 "WireLamps" "HIGHEST_VALUE" "[I", Cond.fieldLink RX4 33 "WireLamps" "history" "LWireLamps$History;", Cond.fieldLink RX4 10 "WireLamps" "state" "LWireLamps$State;", Cond.fieldLink RX4 83 "WireLamps$State" "settings" "[I", Cond.methodLink RX4 70 yX4_isSetting, Cond.static yX4_isSetting, Cond.code yX4_isSetting cX4_isSetting 1 (some .boolean), Cond.methodLink RX4 57 yX0_save, Cond.instanceMethod yX0_save, Cond.selects RX0 yX0_save yX0_save, Cond.initialized RX0, Cond.code yX0_save cX0_save 3 none]
def wsL_set_r2 : List Cond := [Cond.fieldLink RX0 17 "WireLamps$History" "size" "I", Cond.fieldLink RX0 11 "WireLamps$History" "states" "[LWireLamps$State;", Cond.classLink RX0 9 RX2, Cond.instantiable RX2 13, Cond.initialized RX2, Cond.methodLink RX0 21 yX0_dropOldest, Cond.instanceMethod yX0_dropOldest, Cond.selects RX0 yX0_dropOldest yX0_dropOldest, Cond.code yX0_dropOldest cX0_dropOldest 3 none, Cond.instanceMethod yX2_init, Cond.code yX2_init cX2_init 1 none, Cond.methodLink RX2 3 objectInit, Cond.instanceMethod objectInit, Cond.code objectInit ⟨#[0xb1]⟩ 1 none, Cond.arrayClass .int, Cond.fieldLink RX2 9 "WireLamps$State" "modes" "[I", Cond.fieldLink RX2 15 "WireLamps$State" "losses" "[I", Cond.fieldLink RX2 18 "WireLamps$State" "known" "[I", Cond.fieldLink RX2 21 "WireLamps$State" "shining" "[I", Cond.fieldLink RX2 24 "WireLamps$State" "came" "[I", Cond.fieldLink RX2 27 "WireLamps$State" "settings" "[I", Cond.fieldLink RX2 30 "WireLamps$State" "pulses" "[I", Cond.methodLink RX0 25 yX2_copyFrom, Cond.instanceMethod yX2_copyFrom]
def wsL_set_r3 : List Cond := [Cond.selects RX2 yX2_copyFrom yX2_copyFrom, Cond.code yX2_copyFrom cX2_copyFrom 2 none, Cond.methodLink RX2 33 arraycopyName, Cond.native arraycopyName, Cond.static arraycopyName, Cond.initialized "java/lang/System", Cond.fieldLink RX2 39 "WireLamps$State" "pulseCount" "I", Cond.fieldLink RX2 43 "WireLamps$State" "gaps" "I", Cond.fieldLink RX2 46 "WireLamps$State" "taken" "I", Cond.fieldLink RX2 49 "WireLamps$State" "lost" "I", Cond.fieldLink RX2 52 "WireLamps$State" "dropped" "I", Cond.fieldLink RX2 55 "WireLamps$State" "refused" "I"]
def wsL_set : List Cond := .codeWith yL_set cL_set 5 (some .int) [(0, 10, 13, 13), (0, 10, 17, 15)] :: ((wsL_set_r1 ++ (wsL_set_r2 ++ wsL_set_r3)) ++ wsX40 ++ wsX20 ++ wsX00 ++ (vx_atS RX4 49 "java/lang/IndexOutOfBoundsException" ["java/lang/RuntimeException", "java/lang/Exception"]).filter goodWord ++ (vx_atS RX4 56 "java/lang/IllegalArgumentException" ["java/lang/RuntimeException", "java/lang/Exception"]).filter goodWord)
def wsL_pulse_r1 : List Cond := [Cond.classLink RL 15 "java/lang/IllegalArgumentException", Cond.methodLink RL 23 yX4_pulse, Cond.instanceMethod yX4_pulse, Cond.selects RX4 yX4_pulse yX4_pulse, Cond.initialized RX4, Cond.code yX4_pulse cX4_pulse 2 (some .int), Cond.classLink RX4 52 "java/lang/IllegalArgumentException", Cond.initialized "java/lang/IllegalArgumentException", Cond.fieldLink RX4 33 "WireLamps" "history" "LWireLamps$History;", Cond.fieldLink RX4 10 "WireLamps" "state" "LWireLamps$State;", Cond.fieldLink RX4 99 "WireLamps$State" "pulseCount" "I", Cond.methodLink RX4 57 yX0_save, Cond.instanceMethod yX0_save, Cond.selects RX0 yX0_save yX0_save, Cond.initialized RX0, Cond.code yX0_save cX0_save 3 none, Cond.fieldLink RX0 17 "WireLamps$History" "size" "I", Cond.fieldLink RX0 11 "WireLamps$History" "states" "[LWireLamps$State;", Cond.classLink RX0 9 RX2, Cond.instantiable RX2 13, Cond.initialized RX2, Cond.methodLink RX0 21 yX0_dropOldest, Cond.instanceMethod yX0_dropOldest, Cond.selects RX0 yX0_dropOldest yX0_dropOldest]
def wsL_pulse_r2 : List Cond := [Cond.code yX0_dropOldest cX0_dropOldest 3 none, Cond.instanceMethod yX2_init, Cond.code yX2_init cX2_init 1 none, Cond.methodLink RX2 3 objectInit, Cond.instanceMethod objectInit, Cond.code objectInit ⟨#[0xb1]⟩ 1 none, Cond.arrayClass .int, Cond.fieldLink RX2 9 "WireLamps$State" "modes" "[I", Cond.fieldLink RX2 15 "WireLamps$State" "losses" "[I", Cond.fieldLink RX2 18 "WireLamps$State" "known" "[I", Cond.fieldLink RX2 21 "WireLamps$State" "shining" "[I", Cond.fieldLink RX2 24 "WireLamps$State" "came" "[I", Cond.fieldLink RX2 27 "WireLamps$State" "settings" "[I", Cond.fieldLink RX2 30 "WireLamps$State" "pulses" "[I", Cond.methodLink RX0 25 yX2_copyFrom, Cond.instanceMethod yX2_copyFrom, Cond.selects RX2 yX2_copyFrom yX2_copyFrom, Cond.code yX2_copyFrom cX2_copyFrom 2 none, Cond.methodLink RX2 33 arraycopyName, Cond.native arraycopyName, Cond.static arraycopyName, Cond.initialized "java/lang/System", Cond.fieldLink RX2 39 "WireLamps$State" "pulseCount" "I", Cond.fieldLink RX2 43 "WireLamps$State" "gaps" "I"]
def wsL_pulse_r3 : List Cond := [Cond.fieldLink RX2 46 "WireLamps$State" "taken" "I", Cond.fieldLink RX2 49 "WireLamps$State" "lost" "I", Cond.fieldLink RX2 52 "WireLamps$State" "dropped" "I", Cond.fieldLink RX2 55 "WireLamps$State" "refused" "I", Cond.methodLink RX4 88 yX2_hasRoomFor, Cond.instanceMethod yX2_hasRoomFor, Cond.selects RX2 yX2_hasRoomFor yX2_hasRoomFor, Cond.code yX2_hasRoomFor cX2_hasRoomFor 2 (some .boolean), Cond.methodLink RX4 91 yX4_refuse, Cond.instanceMethod yX4_refuse, Cond.selects RX4 yX4_refuse yX4_refuse, Cond.code yX4_refuse cX4_refuse 1 (some .int), Cond.fieldLink RX4 213 "WireLamps$State" "refused" "I", Cond.methodLink RX4 95 yX2_addPulse, Cond.instanceMethod yX2_addPulse, Cond.selects RX2 yX2_addPulse yX2_addPulse, Cond.code yX2_addPulse cX2_addPulse 2 none]
def wsL_pulse : List Cond := .codeWith yL_pulse cL_pulse 4 (some .int) [(0, 9, 12, 15)] :: ((wsL_pulse_r1 ++ (wsL_pulse_r2 ++ wsL_pulse_r3)) ++ wsX40 ++ wsX20 ++ wsX00 ++ (vx_atS RX4 56 "java/lang/IllegalArgumentException" ["java/lang/RuntimeException", "java/lang/Exception"]).filter goodWord)
def wsL_send_r1 : List Cond := [Cond.classLink RL 15 "java/lang/IllegalArgumentException", Cond.methodLink RL 27 yX4_send, Cond.instanceMethod yX4_send, Cond.selects RX4 yX4_send yX4_send, Cond.initialized RX4, Cond.code yX4_send cX4_send 2 (some .int), Cond.classLink RX4 52 "java/lang/IllegalArgumentException", Cond.initialized "java/lang/IllegalArgumentException", Cond.fieldLink RX4 33 "WireLamps" "history" "LWireLamps$History;", Cond.fieldLink RX4 10 "WireLamps" "state" "LWireLamps$State;", Cond.fieldLink RX4 99 "WireLamps$State" "pulseCount" "I", Cond.methodLink RX4 103 yX4_isWord, Cond.static yX4_isWord, Cond.code yX4_isWord cX4_isWord 1 (some .boolean), Cond.methodLink RX4 57 yX0_save, Cond.instanceMethod yX0_save, Cond.selects RX0 yX0_save yX0_save, Cond.initialized RX0, Cond.code yX0_save cX0_save 3 none, Cond.fieldLink RX0 17 "WireLamps$History" "size" "I", Cond.fieldLink RX0 11 "WireLamps$History" "states" "[LWireLamps$State;", Cond.classLink RX0 9 RX2, Cond.instantiable RX2 13, Cond.initialized RX2]
def wsL_send_r2 : List Cond := [Cond.methodLink RX0 21 yX0_dropOldest, Cond.instanceMethod yX0_dropOldest, Cond.selects RX0 yX0_dropOldest yX0_dropOldest, Cond.code yX0_dropOldest cX0_dropOldest 3 none, Cond.instanceMethod yX2_init, Cond.code yX2_init cX2_init 1 none, Cond.methodLink RX2 3 objectInit, Cond.instanceMethod objectInit, Cond.code objectInit ⟨#[0xb1]⟩ 1 none, Cond.arrayClass .int, Cond.fieldLink RX2 9 "WireLamps$State" "modes" "[I", Cond.fieldLink RX2 15 "WireLamps$State" "losses" "[I", Cond.fieldLink RX2 18 "WireLamps$State" "known" "[I", Cond.fieldLink RX2 21 "WireLamps$State" "shining" "[I", Cond.fieldLink RX2 24 "WireLamps$State" "came" "[I", Cond.fieldLink RX2 27 "WireLamps$State" "settings" "[I", Cond.fieldLink RX2 30 "WireLamps$State" "pulses" "[I", Cond.methodLink RX0 25 yX2_copyFrom, Cond.instanceMethod yX2_copyFrom, Cond.selects RX2 yX2_copyFrom yX2_copyFrom, Cond.code yX2_copyFrom cX2_copyFrom 2 none, Cond.methodLink RX2 33 arraycopyName, Cond.native arraycopyName, Cond.static arraycopyName]
def wsL_send_r3 : List Cond := [Cond.initialized "java/lang/System", Cond.fieldLink RX2 39 "WireLamps$State" "pulseCount" "I", Cond.fieldLink RX2 43 "WireLamps$State" "gaps" "I", Cond.fieldLink RX2 46 "WireLamps$State" "taken" "I", Cond.fieldLink RX2 49 "WireLamps$State" "lost" "I", Cond.fieldLink RX2 52 "WireLamps$State" "dropped" "I", Cond.fieldLink RX2 55 "WireLamps$State" "refused" "I", Cond.methodLink RX4 88 yX2_hasRoomFor, Cond.instanceMethod yX2_hasRoomFor, Cond.selects RX2 yX2_hasRoomFor yX2_hasRoomFor, Cond.code yX2_hasRoomFor cX2_hasRoomFor 2 (some .boolean), Cond.methodLink RX4 91 yX4_refuse, Cond.instanceMethod yX4_refuse, Cond.selects RX4 yX4_refuse yX4_refuse, Cond.code yX4_refuse cX4_refuse 1 (some .int), Cond.fieldLink RX4 213 "WireLamps$State" "refused" "I", Cond.methodLink RX4 108 yX2_addWord, Cond.instanceMethod yX2_addWord, Cond.selects RX2 yX2_addWord yX2_addWord, Cond.code yX2_addWord cX2_addWord 3 none, Cond.methodLink RX2 58 yX2_lengthFor, Cond.static yX2_lengthFor, Cond.code yX2_lengthFor cX2_lengthFor 1 (some .int), Cond.methodLink RX2 62 yX2_addPulse]
def wsL_send_r4 : List Cond := [Cond.instanceMethod yX2_addPulse, Cond.selects RX2 yX2_addPulse yX2_addPulse, Cond.code yX2_addPulse cX2_addPulse 2 none]
def wsL_send : List Cond := .codeWith yL_send cL_send 4 (some .int) [(0, 9, 12, 15)] :: ((wsL_send_r1 ++ (wsL_send_r2 ++ (wsL_send_r3 ++ wsL_send_r4))) ++ wsX40 ++ wsX20 ++ wsX00 ++ (vx_atS RX4 56 "java/lang/IllegalArgumentException" ["java/lang/RuntimeException", "java/lang/Exception"]).filter goodWord)
def wsL_append : List Cond := .codeWith yL_append cL_append 4 (some .int) [(0, 9, 12, 15), (0, 9, 15, 33)] :: ([.classLink RL 15 "java/lang/IllegalArgumentException", .classLink RL 33 "java/lang/IllegalStateException", .methodLink RL 30 yX4_append, .instanceMethod yX4_append, .selects RX4 yX4_append yX4_append, .initialized RX4, .code yX4_append cX4_append 2 (some .int), .classLink RX4 52 "java/lang/IllegalArgumentException", .initialized "java/lang/IllegalArgumentException", .classLink RX4 122 "java/lang/IllegalStateException", .initialized "java/lang/IllegalStateException", .fieldLink RX4 26 "WireLamps" "text" "LWireLamps$Text;", .fieldLink RX4 119 "WireLamps$Text" "length" "I", .methodLink RX4 127 yX3_add, .instanceMethod yX3_add, .selects RX3 yX3_add yX3_add, .initialized RX3, .code yX3_add cX3_add 2 none, .fieldLink RX3 15 "WireLamps$Text" "length" "I", .fieldLink RX3 9 "WireLamps$Text" "signs" "[C"] ++ wsX40 ++ wsX30 ++ (vx_atS RX4 56 "java/lang/IllegalArgumentException" ["java/lang/RuntimeException", "java/lang/Exception"]).filter goodWord ++ (vx_atS RX4 126 "java/lang/IllegalStateException" ["java/lang/RuntimeException", "java/lang/Exception"]).filter goodWord)
def wsL_load_r1 : List Cond := [Cond.classLink RL 15 "java/lang/IllegalArgumentException", Cond.methodLink RL 35 yX4_load, Cond.instanceMethod yX4_load, Cond.selects RX4 yX4_load yX4_load, Cond.initialized RX4, Cond.code yX4_load cX4_load 3 (some .int), Cond.classLink RX4 52 "java/lang/IllegalArgumentException", Cond.initialized "java/lang/IllegalArgumentException", Cond.fieldLink RX4 26 "WireLamps" "text" "LWireLamps$Text;", Cond.fieldLink RX4 33 "WireLamps" "history" "LWireLamps$History;", Cond.fieldLink RX4 10 "WireLamps" "state" "LWireLamps$State;", Cond.methodLink RX4 137 yX3_wordsTold, Cond.instanceMethod yX3_wordsTold, Cond.selects RX3 yX3_wordsTold yX3_wordsTold, Cond.initialized RX3, Cond.code yX3_wordsTold cX3_wordsTold 2 (some .int), Cond.fieldLink RX3 15 "WireLamps$Text" "length" "I", Cond.methodLink RX3 31 yX3_endsWithGap, Cond.instanceMethod yX3_endsWithGap, Cond.selects RX3 yX3_endsWithGap yX3_endsWithGap, Cond.code yX3_endsWithGap cX3_endsWithGap 1 (some .boolean), Cond.methodLink RX3 23 yX3_signAt, Cond.instanceMethod yX3_signAt, Cond.selects RX3 yX3_signAt yX3_signAt]
def wsL_load_r2 : List Cond := [Cond.code yX3_signAt cX3_signAt 2 (some .char), Cond.fieldLink RX3 9 "WireLamps$Text" "signs" "[C", Cond.methodLink RX3 35 yX3_errorPlace, Cond.instanceMethod yX3_errorPlace, Cond.selects RX3 yX3_errorPlace yX3_errorPlace, Cond.code yX3_errorPlace cX3_errorPlace 2 (some .int), Cond.methodLink RX3 19 yX3_fits, Cond.instanceMethod yX3_fits, Cond.selects RX3 yX3_fits yX3_fits, Cond.code yX3_fits cX3_fits 4 (some .boolean), Cond.methodLink RX3 27 yX3_digitOf, Cond.static yX3_digitOf, Cond.code yX3_digitOf cX3_digitOf 1 (some .int), Cond.methodLink RX4 57 yX0_save, Cond.instanceMethod yX0_save, Cond.selects RX0 yX0_save yX0_save, Cond.initialized RX0, Cond.code yX0_save cX0_save 3 none, Cond.fieldLink RX0 17 "WireLamps$History" "size" "I", Cond.fieldLink RX0 11 "WireLamps$History" "states" "[LWireLamps$State;", Cond.classLink RX0 9 RX2, Cond.instantiable RX2 13, Cond.initialized RX2, Cond.methodLink RX0 21 yX0_dropOldest]
def wsL_load_r3 : List Cond := [Cond.instanceMethod yX0_dropOldest, Cond.selects RX0 yX0_dropOldest yX0_dropOldest, Cond.code yX0_dropOldest cX0_dropOldest 3 none, Cond.instanceMethod yX2_init, Cond.code yX2_init cX2_init 1 none, Cond.methodLink RX2 3 objectInit, Cond.instanceMethod objectInit, Cond.code objectInit ⟨#[0xb1]⟩ 1 none, Cond.arrayClass .int, Cond.fieldLink RX2 9 "WireLamps$State" "modes" "[I", Cond.fieldLink RX2 15 "WireLamps$State" "losses" "[I", Cond.fieldLink RX2 18 "WireLamps$State" "known" "[I", Cond.fieldLink RX2 21 "WireLamps$State" "shining" "[I", Cond.fieldLink RX2 24 "WireLamps$State" "came" "[I", Cond.fieldLink RX2 27 "WireLamps$State" "settings" "[I", Cond.fieldLink RX2 30 "WireLamps$State" "pulses" "[I", Cond.methodLink RX0 25 yX2_copyFrom, Cond.instanceMethod yX2_copyFrom, Cond.selects RX2 yX2_copyFrom yX2_copyFrom, Cond.code yX2_copyFrom cX2_copyFrom 2 none, Cond.methodLink RX2 33 arraycopyName, Cond.native arraycopyName, Cond.static arraycopyName, Cond.initialized "java/lang/System"]
def wsL_load_r4 : List Cond := [Cond.fieldLink RX2 39 "WireLamps$State" "pulseCount" "I", Cond.fieldLink RX2 43 "WireLamps$State" "gaps" "I", Cond.fieldLink RX2 46 "WireLamps$State" "taken" "I", Cond.fieldLink RX2 49 "WireLamps$State" "lost" "I", Cond.fieldLink RX2 52 "WireLamps$State" "dropped" "I", Cond.fieldLink RX2 55 "WireLamps$State" "refused" "I", Cond.methodLink RX4 88 yX2_hasRoomFor, Cond.instanceMethod yX2_hasRoomFor, Cond.selects RX2 yX2_hasRoomFor yX2_hasRoomFor, Cond.code yX2_hasRoomFor cX2_hasRoomFor 2 (some .boolean), Cond.methodLink RX4 131 yX3_empty, Cond.instanceMethod yX3_empty, Cond.selects RX3 yX3_empty yX3_empty, Cond.code yX3_empty cX3_empty 1 none, Cond.methodLink RX4 91 yX4_refuse, Cond.instanceMethod yX4_refuse, Cond.selects RX4 yX4_refuse yX4_refuse, Cond.code yX4_refuse cX4_refuse 1 (some .int), Cond.fieldLink RX4 213 "WireLamps$State" "refused" "I", Cond.methodLink RX4 142 yX3_wordAt, Cond.instanceMethod yX3_wordAt, Cond.selects RX3 yX3_wordAt yX3_wordAt, Cond.code yX3_wordAt cX3_wordAt 4 (some .int), Cond.methodLink RX4 108 yX2_addWord]
def wsL_load_r5 : List Cond := [Cond.instanceMethod yX2_addWord, Cond.selects RX2 yX2_addWord yX2_addWord, Cond.code yX2_addWord cX2_addWord 3 none, Cond.methodLink RX2 58 yX2_lengthFor, Cond.static yX2_lengthFor, Cond.code yX2_lengthFor cX2_lengthFor 1 (some .int), Cond.methodLink RX2 62 yX2_addPulse, Cond.instanceMethod yX2_addPulse, Cond.selects RX2 yX2_addPulse yX2_addPulse, Cond.code yX2_addPulse cX2_addPulse 2 none, Cond.methodLink RX4 146 yX3_endsWithGap, Cond.methodLink RX4 111 yX4_letGapBe, Cond.instanceMethod yX4_letGapBe, Cond.selects RX4 yX4_letGapBe yX4_letGapBe, Cond.code yX4_letGapBe cX4_letGapBe 3 (some .int), Cond.fieldLink RX4 19 "WireLamps" "journey" "LWireLamps$Journey;", Cond.fieldLink RX4 172 "WireLamps$State" "known" "[I", Cond.fieldLink RX4 226 "WireLamps$Journey" "words" "[I", Cond.fieldLink RX4 188 "WireLamps$State" "came" "[I", Cond.fieldLink RX4 273 "WireLamps$Journey" "came" "[I", Cond.fieldLink RX4 175 "WireLamps$State" "shining" "[I", Cond.fieldLink RX4 61 "WireLamps$State" "modes" "[I", Cond.fieldLink RX4 198 "WireLamps$State" "gaps" "I", Cond.fieldLink RX4 201 "WireLamps$State" "taken" "I"]
def wsL_load_r6 : List Cond := [Cond.fieldLink RX4 274 "WireLamps$Journey" "taken" "I", Cond.fieldLink RX4 204 "WireLamps$State" "lost" "I", Cond.fieldLink RX4 99 "WireLamps$State" "pulseCount" "I", Cond.methodLink RX4 223 yX1_goThrough, Cond.instanceMethod yX1_goThrough, Cond.selects RX1 yX1_goThrough yX1_goThrough, Cond.initialized RX1, Cond.code yX1_goThrough cX1_goThrough 3 none, Cond.fieldLink RX1 21 "WireLamps$State" "pulses" "[I", Cond.fieldLink RX1 18 "WireLamps$Journey" "pulses" "[I", Cond.methodLink RX1 24 arraycopyName, Cond.fieldLink RX1 30 "WireLamps$Journey" "first" "I", Cond.fieldLink RX1 34 "WireLamps$State" "pulseCount" "I", Cond.fieldLink RX1 37 "WireLamps$Journey" "end" "I", Cond.fieldLink RX1 40 "WireLamps$Journey" "taken" "I", Cond.fieldLink RX1 43 "WireLamps$State" "losses" "[I", Cond.fieldLink RX1 9 "WireLamps$Journey" "came" "[I", Cond.fieldLink RX1 15 "WireLamps$Journey" "words" "[I", Cond.fieldLink RX1 50 "WireLamps$State" "known" "[I", Cond.fieldLink RX1 61 "WireLamps$State" "modes" "[I", Cond.methodLink RX1 46 yX1_passWire, Cond.instanceMethod yX1_passWire, Cond.selects RX1 yX1_passWire yX1_passWire, Cond.code yX1_passWire cX1_passWire 3 none]
def wsL_load_r7 : List Cond := [Cond.methodLink RX1 64 yX2_shortened, Cond.static yX2_shortened, Cond.code yX2_shortened cX2_shortened 2 (some .int), Cond.methodLink RX1 53 yX2_takesWords, Cond.instanceMethod yX2_takesWords, Cond.selects RX2 yX2_takesWords yX2_takesWords, Cond.code yX2_takesWords cX2_takesWords 2 (some .boolean), Cond.methodLink RX1 57 yX1_passTaker, Cond.instanceMethod yX1_passTaker, Cond.selects RX1 yX1_passTaker yX1_passTaker, Cond.code yX1_passTaker cX1_passTaker 4 none, Cond.methodLink RX1 68 yX1_takeWord, Cond.instanceMethod yX1_takeWord, Cond.selects RX1 yX1_takeWord yX1_takeWord, Cond.code yX1_takeWord cX1_takeWord 5 (some .int), Cond.methodLink RX1 76 yX2_isReadAs1, Cond.instanceMethod yX2_isReadAs1, Cond.selects RX2 yX2_isReadAs1 yX2_isReadAs1, Cond.code yX2_isReadAs1 cX2_isReadAs1 2 (some .boolean), Cond.methodLink RX1 72 yX2_handedOn, Cond.instanceMethod yX2_handedOn, Cond.selects RX2 yX2_handedOn yX2_handedOn, Cond.code yX2_handedOn cX2_handedOn 2 (some .int), Cond.methodLink RX2 66 yX2_isReadAs1]
def wsL_load : List Cond := .codeWith yL_load cL_load 3 (some .int) [(0, 8, 11, 15)] :: ((wsL_load_r1 ++ (wsL_load_r2 ++ (wsL_load_r3 ++ (wsL_load_r4 ++ (wsL_load_r5 ++ (wsL_load_r6 ++ wsL_load_r7)))))) ++ wsX40 ++ wsX30 ++ wsX00 ++ wsX20 ++ wsX10 ++ (vx_atS RX4 56 "java/lang/IllegalArgumentException" ["java/lang/RuntimeException", "java/lang/Exception"]).filter goodWord)
def wsL_keep_r1 : List Cond := [Cond.classLink RL 15 "java/lang/IllegalArgumentException", Cond.methodLink RL 39 yX4_keep, Cond.instanceMethod yX4_keep, Cond.selects RX4 yX4_keep yX4_keep, Cond.initialized RX4, Cond.code yX4_keep cX4_keep 3 (some .int), Cond.classLink RX4 52 "java/lang/IllegalArgumentException", Cond.initialized "java/lang/IllegalArgumentException", Cond.fieldLink RX4 37 "WireLamps" "slots" "[LWireLamps$State;", Cond.classLink RX4 7 RX2, Cond.instantiable RX2 13, Cond.initialized RX2, Cond.fieldLink RX4 10 "WireLamps" "state" "LWireLamps$State;", Cond.fieldLink RX4 99 "WireLamps$State" "pulseCount" "I", Cond.methodLink RX4 150 yX4_isSlot, Cond.static yX4_isSlot, Cond.code yX4_isSlot cX4_isSlot 1 (some .boolean), Cond.instanceMethod yX2_init, Cond.code yX2_init cX2_init 1 none, Cond.methodLink RX2 3 objectInit, Cond.instanceMethod objectInit, Cond.code objectInit ⟨#[0xb1]⟩ 1 none, Cond.arrayClass .int, Cond.fieldLink RX2 9 "WireLamps$State" "modes" "[I"]
def wsL_keep_r2 : List Cond := [Cond.fieldLink RX2 15 "WireLamps$State" "losses" "[I", Cond.fieldLink RX2 18 "WireLamps$State" "known" "[I", Cond.fieldLink RX2 21 "WireLamps$State" "shining" "[I", Cond.fieldLink RX2 24 "WireLamps$State" "came" "[I", Cond.fieldLink RX2 27 "WireLamps$State" "settings" "[I", Cond.fieldLink RX2 30 "WireLamps$State" "pulses" "[I", Cond.methodLink RX4 155 yX2_copyFrom, Cond.instanceMethod yX2_copyFrom, Cond.selects RX2 yX2_copyFrom yX2_copyFrom, Cond.code yX2_copyFrom cX2_copyFrom 2 none, Cond.methodLink RX2 33 arraycopyName, Cond.native arraycopyName, Cond.static arraycopyName, Cond.initialized "java/lang/System", Cond.fieldLink RX2 39 "WireLamps$State" "pulseCount" "I", Cond.fieldLink RX2 43 "WireLamps$State" "gaps" "I", Cond.fieldLink RX2 46 "WireLamps$State" "taken" "I", Cond.fieldLink RX2 49 "WireLamps$State" "lost" "I", Cond.fieldLink RX2 52 "WireLamps$State" "dropped" "I", Cond.fieldLink RX2 55 "WireLamps$State" "refused" "I"]
def wsL_keep : List Cond := .codeWith yL_keep cL_keep 4 (some .int) [(0, 9, 12, 15)] :: ((wsL_keep_r1 ++ wsL_keep_r2) ++ wsX40 ++ wsX20 ++ (vx_atS RX4 56 "java/lang/IllegalArgumentException" ["java/lang/RuntimeException", "java/lang/Exception"]).filter goodWord)
def wsL_goBack_r1 : List Cond := [Cond.classLink RL 15 "java/lang/IllegalArgumentException", Cond.classLink RL 33 "java/lang/IllegalStateException", Cond.methodLink RL 42 yX4_goBack, Cond.instanceMethod yX4_goBack, Cond.selects RX4 yX4_goBack yX4_goBack, Cond.initialized RX4, Cond.code yX4_goBack cX4_goBack 3 (some .int), Cond.classLink RX4 52 "java/lang/IllegalArgumentException", Cond.initialized "java/lang/IllegalArgumentException", Cond.classLink RX4 122 "java/lang/IllegalStateException", Cond.initialized "java/lang/IllegalStateException", Cond.fieldLink RX4 37 "WireLamps" "slots" "[LWireLamps$State;", Cond.fieldLink RX4 33 "WireLamps" "history" "LWireLamps$History;", Cond.fieldLink RX4 10 "WireLamps" "state" "LWireLamps$State;", Cond.fieldLink RX4 99 "WireLamps$State" "pulseCount" "I", Cond.methodLink RX4 150 yX4_isSlot, Cond.static yX4_isSlot, Cond.code yX4_isSlot cX4_isSlot 1 (some .boolean), Cond.methodLink RX4 57 yX0_save, Cond.instanceMethod yX0_save, Cond.selects RX0 yX0_save yX0_save, Cond.initialized RX0, Cond.code yX0_save cX0_save 3 none, Cond.fieldLink RX0 17 "WireLamps$History" "size" "I"]
def wsL_goBack_r2 : List Cond := [Cond.fieldLink RX0 11 "WireLamps$History" "states" "[LWireLamps$State;", Cond.classLink RX0 9 RX2, Cond.instantiable RX2 13, Cond.initialized RX2, Cond.methodLink RX0 21 yX0_dropOldest, Cond.instanceMethod yX0_dropOldest, Cond.selects RX0 yX0_dropOldest yX0_dropOldest, Cond.code yX0_dropOldest cX0_dropOldest 3 none, Cond.instanceMethod yX2_init, Cond.code yX2_init cX2_init 1 none, Cond.methodLink RX2 3 objectInit, Cond.instanceMethod objectInit, Cond.code objectInit ⟨#[0xb1]⟩ 1 none, Cond.arrayClass .int, Cond.fieldLink RX2 9 "WireLamps$State" "modes" "[I", Cond.fieldLink RX2 15 "WireLamps$State" "losses" "[I", Cond.fieldLink RX2 18 "WireLamps$State" "known" "[I", Cond.fieldLink RX2 21 "WireLamps$State" "shining" "[I", Cond.fieldLink RX2 24 "WireLamps$State" "came" "[I", Cond.fieldLink RX2 27 "WireLamps$State" "settings" "[I", Cond.fieldLink RX2 30 "WireLamps$State" "pulses" "[I", Cond.methodLink RX0 25 yX2_copyFrom, Cond.instanceMethod yX2_copyFrom, Cond.selects RX2 yX2_copyFrom yX2_copyFrom]
def wsL_goBack_r3 : List Cond := [Cond.code yX2_copyFrom cX2_copyFrom 2 none, Cond.methodLink RX2 33 arraycopyName, Cond.native arraycopyName, Cond.static arraycopyName, Cond.initialized "java/lang/System", Cond.fieldLink RX2 39 "WireLamps$State" "pulseCount" "I", Cond.fieldLink RX2 43 "WireLamps$State" "gaps" "I", Cond.fieldLink RX2 46 "WireLamps$State" "taken" "I", Cond.fieldLink RX2 49 "WireLamps$State" "lost" "I", Cond.fieldLink RX2 52 "WireLamps$State" "dropped" "I", Cond.fieldLink RX2 55 "WireLamps$State" "refused" "I", Cond.methodLink RX4 155 yX2_copyFrom]
def wsL_goBack : List Cond := .codeWith yL_goBack cL_goBack 4 (some .int) [(0, 9, 12, 15), (0, 9, 15, 33)] :: ((wsL_goBack_r1 ++ (wsL_goBack_r2 ++ wsL_goBack_r3)) ++ wsX40 ++ wsX20 ++ wsX00 ++ (vx_atS RX4 56 "java/lang/IllegalArgumentException" ["java/lang/RuntimeException", "java/lang/Exception"]).filter goodWord ++ (vx_atS RX4 126 "java/lang/IllegalStateException" ["java/lang/RuntimeException", "java/lang/Exception"]).filter goodWord)
def wsL_undo_r1 : List Cond := [Cond.classLink RL 33 "java/lang/IllegalStateException", Cond.methodLink RL 45 yX4_undo, Cond.instanceMethod yX4_undo, Cond.selects RX4 yX4_undo yX4_undo, Cond.initialized RX4, Cond.code yX4_undo cX4_undo 2 (some .int), Cond.classLink RX4 122 "java/lang/IllegalStateException", Cond.initialized "java/lang/IllegalStateException", Cond.fieldLink RX4 33 "WireLamps" "history" "LWireLamps$History;", Cond.fieldLink RX4 10 "WireLamps" "state" "LWireLamps$State;", Cond.fieldLink RX4 169 "WireLamps$History" "size" "I", Cond.methodLink RX4 160 yX0_latest, Cond.instanceMethod yX0_latest, Cond.selects RX0 yX0_latest yX0_latest, Cond.initialized RX0, Cond.code yX0_latest cX0_latest 1 (some (.object "WireLamps$State")), Cond.fieldLink RX0 17 "WireLamps$History" "size" "I", Cond.fieldLink RX0 11 "WireLamps$History" "states" "[LWireLamps$State;", Cond.methodLink RX4 155 yX2_copyFrom, Cond.instanceMethod yX2_copyFrom, Cond.selects RX2 yX2_copyFrom yX2_copyFrom, Cond.initialized RX2, Cond.code yX2_copyFrom cX2_copyFrom 2 none, Cond.fieldLink RX2 9 "WireLamps$State" "modes" "[I"]
def wsL_undo_r2 : List Cond := [Cond.methodLink RX2 33 arraycopyName, Cond.native arraycopyName, Cond.static arraycopyName, Cond.initialized "java/lang/System", Cond.fieldLink RX2 15 "WireLamps$State" "losses" "[I", Cond.fieldLink RX2 18 "WireLamps$State" "known" "[I", Cond.fieldLink RX2 21 "WireLamps$State" "shining" "[I", Cond.fieldLink RX2 24 "WireLamps$State" "came" "[I", Cond.fieldLink RX2 27 "WireLamps$State" "settings" "[I", Cond.fieldLink RX2 30 "WireLamps$State" "pulses" "[I", Cond.fieldLink RX2 39 "WireLamps$State" "pulseCount" "I", Cond.fieldLink RX2 43 "WireLamps$State" "gaps" "I", Cond.fieldLink RX2 46 "WireLamps$State" "taken" "I", Cond.fieldLink RX2 49 "WireLamps$State" "lost" "I", Cond.fieldLink RX2 52 "WireLamps$State" "dropped" "I", Cond.fieldLink RX2 55 "WireLamps$State" "refused" "I", Cond.methodLink RX4 166 yX0_forgetLatest, Cond.instanceMethod yX0_forgetLatest, Cond.selects RX0 yX0_forgetLatest yX0_forgetLatest, Cond.code yX0_forgetLatest cX0_forgetLatest 1 none]
def wsL_undo : List Cond := .codeWith yL_undo cL_undo 3 (some .int) [(0, 8, 11, 33)] :: ((wsL_undo_r1 ++ wsL_undo_r2) ++ wsX40 ++ wsX00 ++ wsX20 ++ (vx_atS RX4 126 "java/lang/IllegalStateException" ["java/lang/RuntimeException", "java/lang/Exception"]).filter goodWord)
def wsL_lampOf_r1 : List Cond := [Cond.classLink RL 13 "java/lang/IndexOutOfBoundsException", Cond.classLink RL 15 "java/lang/IllegalArgumentException", Cond.methodLink RL 48 yX4_lampOf, Cond.instanceMethod yX4_lampOf, Cond.selects RX4 yX4_lampOf yX4_lampOf, Cond.initialized RX4, Cond.code yX4_lampOf cX4_lampOf 3 (some .int), Cond.classLink RX4 45 "java/lang/IndexOutOfBoundsException", Cond.initialized "java/lang/IndexOutOfBoundsException", Cond.classLink RX4 52 "java/lang/IllegalArgumentException", Cond.initialized "java/lang/IllegalArgumentException", Cond.fieldLink RX4 10 "WireLamps" "state" "LWireLamps$State;", Cond.fieldLink RX4 61 "WireLamps$State" "modes" "[I", Cond.fieldLink RX4 67 "WireLamps$State" "losses" "[I", Cond.fieldLink RX4 172 "WireLamps$State" "known" "[I", Cond.fieldLink RX4 175 "WireLamps$State" "shining" "[I", Cond.fieldLink RX4 188 "WireLamps$State" "came" "[I", Cond.methodLink RX4 41 yX4_isLamp, Cond.static yX4_isLamp, Cond.code yX4_isLamp cX4_isLamp 1 (some .boolean), Cond.methodLink RX4 178 yX2_brightnessOf, Cond.static yX2_brightnessOf, Cond.initialized RX2, Cond.code yX2_brightnessOf cX2_brightnessOf 2 (some .int)]
def wsL_lampOf_r2 : List Cond := [Cond.methodLink RX4 182 yX2_currentWanted, Cond.instanceMethod yX2_currentWanted, Cond.selects RX2 yX2_currentWanted yX2_currentWanted, Cond.code yX2_currentWanted cX2_currentWanted 4 (some .int), Cond.fieldLink RX2 21 "WireLamps$State" "shining" "[I", Cond.methodLink RX2 70 yX2_brightnessOf, Cond.methodLink RX4 185 yX2_shown, Cond.instanceMethod yX2_shown, Cond.selects RX2 yX2_shown yX2_shown, Cond.code yX2_shown cX2_shown 3 (some .int), Cond.fieldLink RX2 27 "WireLamps$State" "settings" "[I"]
def wsL_lampOf : List Cond := .codeWith yL_lampOf cL_lampOf 5 (some .int) [(0, 10, 13, 13), (0, 10, 17, 15)] :: ((wsL_lampOf_r1 ++ wsL_lampOf_r2) ++ wsX40 ++ wsX20 ++ (vx_atS RX4 49 "java/lang/IndexOutOfBoundsException" ["java/lang/RuntimeException", "java/lang/Exception"]).filter goodWord ++ (vx_atS RX4 56 "java/lang/IllegalArgumentException" ["java/lang/RuntimeException", "java/lang/Exception"]).filter goodWord)
def wsL_pulseAt : List Cond := .codeWith yL_pulseAt cL_pulseAt 4 (some .int) [(0, 9, 12, 15)] :: ([.classLink RL 15 "java/lang/IllegalArgumentException", .methodLink RL 51 yX4_pulseAt, .instanceMethod yX4_pulseAt, .selects RX4 yX4_pulseAt yX4_pulseAt, .initialized RX4, .code yX4_pulseAt cX4_pulseAt 2 (some .int), .classLink RX4 52 "java/lang/IllegalArgumentException", .initialized "java/lang/IllegalArgumentException", .fieldLink RX4 10 "WireLamps" "state" "LWireLamps$State;", .fieldLink RX4 99 "WireLamps$State" "pulseCount" "I", .fieldLink RX4 195 "WireLamps$State" "pulses" "[I"] ++ wsX40 ++ wsX20 ++ (vx_atS RX4 56 "java/lang/IllegalArgumentException" ["java/lang/RuntimeException", "java/lang/Exception"]).filter goodWord)
def wsL_count_r1 : List Cond := [Cond.classLink RL 15 "java/lang/IllegalArgumentException", Cond.methodLink RL 54 yX4_count, Cond.instanceMethod yX4_count, Cond.selects RX4 yX4_count yX4_count, Cond.initialized RX4, Cond.code yX4_count cX4_count 2 (some .int), Cond.classLink RX4 52 "java/lang/IllegalArgumentException", Cond.initialized "java/lang/IllegalArgumentException", Cond.fieldLink RX4 10 "WireLamps" "state" "LWireLamps$State;", Cond.fieldLink RX4 99 "WireLamps$State" "pulseCount" "I", Cond.fieldLink RX4 198 "WireLamps$State" "gaps" "I", Cond.fieldLink RX4 201 "WireLamps$State" "taken" "I", Cond.fieldLink RX4 204 "WireLamps$State" "lost" "I", Cond.fieldLink RX4 114 "WireLamps$State" "dropped" "I", Cond.fieldLink RX4 213 "WireLamps$State" "refused" "I", Cond.fieldLink RX4 33 "WireLamps" "history" "LWireLamps$History;", Cond.fieldLink RX4 169 "WireLamps$History" "size" "I", Cond.methodLink RX4 182 yX2_currentWanted, Cond.instanceMethod yX2_currentWanted, Cond.selects RX2 yX2_currentWanted yX2_currentWanted, Cond.initialized RX2, Cond.code yX2_currentWanted cX2_currentWanted 4 (some .int), Cond.fieldLink RX2 21 "WireLamps$State" "shining" "[I", Cond.methodLink RX2 70 yX2_brightnessOf]
def wsL_count_r2 : List Cond := [Cond.static yX2_brightnessOf, Cond.code yX2_brightnessOf cX2_brightnessOf 2 (some .int), Cond.methodLink RX4 207 yX2_shownTogether, Cond.instanceMethod yX2_shownTogether, Cond.selects RX2 yX2_shownTogether yX2_shownTogether, Cond.code yX2_shownTogether cX2_shownTogether 5 (some .int), Cond.methodLink RX2 74 yX2_currentWanted, Cond.methodLink RX2 78 yX2_shown, Cond.instanceMethod yX2_shown, Cond.selects RX2 yX2_shown yX2_shown, Cond.code yX2_shown cX2_shown 3 (some .int), Cond.fieldLink RX2 27 "WireLamps$State" "settings" "[I", Cond.methodLink RX4 210 yX2_lampsThatShine, Cond.instanceMethod yX2_lampsThatShine, Cond.selects RX2 yX2_lampsThatShine yX2_lampsThatShine, Cond.code yX2_lampsThatShine cX2_lampsThatShine 3 (some .int)]
def wsL_count : List Cond := .codeWith yL_count cL_count 4 (some .int) [(0, 9, 12, 15)] :: ((wsL_count_r1 ++ wsL_count_r2) ++ wsX40 ++ wsX20 ++ wsX00 ++ (vx_atS RX4 56 "java/lang/IllegalArgumentException" ["java/lang/RuntimeException", "java/lang/Exception"]).filter goodWord)
def wsL_setting : List Cond := .codeWith yL_setting cL_setting 4 (some .int) [(0, 9, 12, 13)] :: ([.classLink RL 13 "java/lang/IndexOutOfBoundsException", .methodLink RL 57 yX4_setting, .instanceMethod yX4_setting, .selects RX4 yX4_setting yX4_setting, .initialized RX4, .code yX4_setting cX4_setting 2 (some .int), .classLink RX4 45 "java/lang/IndexOutOfBoundsException", .initialized "java/lang/IndexOutOfBoundsException", .fieldLink RX4 10 "WireLamps" "state" "LWireLamps$State;", .fieldLink RX4 83 "WireLamps$State" "settings" "[I", .methodLink RX4 70 yX4_isSetting, .static yX4_isSetting, .code yX4_isSetting cX4_isSetting 1 (some .boolean)] ++ wsX40 ++ wsX20 ++ (vx_atS RX4 49 "java/lang/IndexOutOfBoundsException" ["java/lang/RuntimeException", "java/lang/Exception"]).filter goodWord)
def wsL_ifGap_r1 : List Cond := [Cond.classLink RL 13 "java/lang/IndexOutOfBoundsException", Cond.classLink RL 15 "java/lang/IllegalArgumentException", Cond.methodLink RL 60 yX4_ifGap, Cond.instanceMethod yX4_ifGap, Cond.selects RX4 yX4_ifGap yX4_ifGap, Cond.initialized RX4, Cond.code yX4_ifGap cX4_ifGap 3 (some .int), Cond.classLink RX4 45 "java/lang/IndexOutOfBoundsException", Cond.initialized "java/lang/IndexOutOfBoundsException", Cond.classLink RX4 52 "java/lang/IllegalArgumentException", Cond.initialized "java/lang/IllegalArgumentException", Cond.fieldLink RX4 10 "WireLamps" "state" "LWireLamps$State;", Cond.fieldLink RX4 19 "WireLamps" "journey" "LWireLamps$Journey;", Cond.fieldLink RX4 226 "WireLamps$Journey" "words" "[I", Cond.methodLink RX4 41 yX4_isLamp, Cond.static yX4_isLamp, Cond.code yX4_isLamp cX4_isLamp 1 (some .boolean), Cond.methodLink RX4 220 yX2_wordByPlace, Cond.instanceMethod yX2_wordByPlace, Cond.selects RX2 yX2_wordByPlace yX2_wordByPlace, Cond.initialized RX2, Cond.code yX2_wordByPlace cX2_wordByPlace 6 (some .int), Cond.fieldLink RX2 39 "WireLamps$State" "pulseCount" "I", Cond.fieldLink RX2 18 "WireLamps$State" "known" "[I"]
def wsL_ifGap_r2 : List Cond := [Cond.fieldLink RX2 30 "WireLamps$State" "pulses" "[I", Cond.methodLink RX2 84 yX2_wordsUpTo, Cond.instanceMethod yX2_wordsUpTo, Cond.selects RX2 yX2_wordsUpTo yX2_wordsUpTo, Cond.code yX2_wordsUpTo cX2_wordsUpTo 4 (some .int), Cond.fieldLink RX2 9 "WireLamps$State" "modes" "[I", Cond.methodLink RX2 81 yX2_takesWords, Cond.instanceMethod yX2_takesWords, Cond.selects RX2 yX2_takesWords yX2_takesWords, Cond.code yX2_takesWords cX2_takesWords 2 (some .boolean), Cond.methodLink RX2 88 yX2_lengthAt, Cond.instanceMethod yX2_lengthAt, Cond.selects RX2 yX2_lengthAt yX2_lengthAt, Cond.code yX2_lengthAt cX2_lengthAt 5 (some .int), Cond.fieldLink RX2 15 "WireLamps$State" "losses" "[I", Cond.methodLink RX2 91 yX2_shortened, Cond.static yX2_shortened, Cond.code yX2_shortened cX2_shortened 2 (some .int), Cond.methodLink RX2 94 yX2_handedOn, Cond.instanceMethod yX2_handedOn, Cond.selects RX2 yX2_handedOn yX2_handedOn, Cond.code yX2_handedOn cX2_handedOn 2 (some .int), Cond.fieldLink RX2 27 "WireLamps$State" "settings" "[I", Cond.methodLink RX2 66 yX2_isReadAs1]
def wsL_ifGap_r3 : List Cond := [Cond.instanceMethod yX2_isReadAs1, Cond.selects RX2 yX2_isReadAs1 yX2_isReadAs1, Cond.code yX2_isReadAs1 cX2_isReadAs1 2 (some .boolean), Cond.methodLink RX2 58 yX2_lengthFor, Cond.static yX2_lengthFor, Cond.code yX2_lengthFor cX2_lengthFor 1 (some .int), Cond.methodLink RX4 223 yX1_goThrough, Cond.instanceMethod yX1_goThrough, Cond.selects RX1 yX1_goThrough yX1_goThrough, Cond.initialized RX1, Cond.code yX1_goThrough cX1_goThrough 3 none, Cond.fieldLink RX1 21 "WireLamps$State" "pulses" "[I", Cond.fieldLink RX1 18 "WireLamps$Journey" "pulses" "[I", Cond.methodLink RX1 24 arraycopyName, Cond.native arraycopyName, Cond.static arraycopyName, Cond.initialized "java/lang/System", Cond.fieldLink RX1 30 "WireLamps$Journey" "first" "I", Cond.fieldLink RX1 34 "WireLamps$State" "pulseCount" "I", Cond.fieldLink RX1 37 "WireLamps$Journey" "end" "I", Cond.fieldLink RX1 40 "WireLamps$Journey" "taken" "I", Cond.fieldLink RX1 43 "WireLamps$State" "losses" "[I", Cond.fieldLink RX1 9 "WireLamps$Journey" "came" "[I", Cond.fieldLink RX1 15 "WireLamps$Journey" "words" "[I"]
def wsL_ifGap_r4 : List Cond := [Cond.fieldLink RX1 50 "WireLamps$State" "known" "[I", Cond.fieldLink RX1 61 "WireLamps$State" "modes" "[I", Cond.methodLink RX1 46 yX1_passWire, Cond.instanceMethod yX1_passWire, Cond.selects RX1 yX1_passWire yX1_passWire, Cond.code yX1_passWire cX1_passWire 3 none, Cond.methodLink RX1 64 yX2_shortened, Cond.methodLink RX1 53 yX2_takesWords, Cond.methodLink RX1 57 yX1_passTaker, Cond.instanceMethod yX1_passTaker, Cond.selects RX1 yX1_passTaker yX1_passTaker, Cond.code yX1_passTaker cX1_passTaker 4 none, Cond.methodLink RX1 68 yX1_takeWord, Cond.instanceMethod yX1_takeWord, Cond.selects RX1 yX1_takeWord yX1_takeWord, Cond.code yX1_takeWord cX1_takeWord 5 (some .int), Cond.methodLink RX1 76 yX2_isReadAs1, Cond.methodLink RX1 72 yX2_handedOn]
def wsL_ifGap : List Cond := .codeWith yL_ifGap cL_ifGap 5 (some .int) [(0, 10, 13, 13), (0, 10, 17, 15)] :: ((wsL_ifGap_r1 ++ (wsL_ifGap_r2 ++ (wsL_ifGap_r3 ++ wsL_ifGap_r4))) ++ wsX40 ++ wsX10 ++ wsX20 ++ (vx_atS RX4 49 "java/lang/IndexOutOfBoundsException" ["java/lang/RuntimeException", "java/lang/Exception"]).filter goodWord ++ (vx_atS RX4 56 "java/lang/IllegalArgumentException" ["java/lang/RuntimeException", "java/lang/Exception"]).filter goodWord)
def wsL_wrong_r1 : List Cond := [Cond.classLink RL 15 "java/lang/IllegalArgumentException", Cond.methodLink RL 63 yX4_wrong, Cond.instanceMethod yX4_wrong, Cond.selects RX4 yX4_wrong yX4_wrong, Cond.initialized RX4, Cond.code yX4_wrong cX4_wrong 2 (some .int), Cond.classLink RX4 52 "java/lang/IllegalArgumentException", Cond.initialized "java/lang/IllegalArgumentException", Cond.fieldLink RX4 10 "WireLamps" "state" "LWireLamps$State;", Cond.methodLink RX4 103 yX4_isWord, Cond.static yX4_isWord, Cond.code yX4_isWord cX4_isWord 1 (some .boolean), Cond.methodLink RX4 229 yX2_wrongWith, Cond.instanceMethod yX2_wrongWith, Cond.selects RX2 yX2_wrongWith yX2_wrongWith, Cond.initialized RX2, Cond.code yX2_wrongWith cX2_wrongWith 11 (some .int), Cond.fieldLink RX2 15 "WireLamps$State" "losses" "[I", Cond.fieldLink RX2 18 "WireLamps$State" "known" "[I", Cond.fieldLink RX2 9 "WireLamps$State" "modes" "[I", Cond.methodLink RX2 91 yX2_shortened, Cond.static yX2_shortened, Cond.code yX2_shortened cX2_shortened 2 (some .int), Cond.methodLink RX2 81 yX2_takesWords]
def wsL_wrong_r2 : List Cond := [Cond.instanceMethod yX2_takesWords, Cond.selects RX2 yX2_takesWords yX2_takesWords, Cond.code yX2_takesWords cX2_takesWords 2 (some .boolean), Cond.methodLink RX2 66 yX2_isReadAs1, Cond.instanceMethod yX2_isReadAs1, Cond.selects RX2 yX2_isReadAs1 yX2_isReadAs1, Cond.code yX2_isReadAs1 cX2_isReadAs1 2 (some .boolean), Cond.fieldLink RX2 27 "WireLamps$State" "settings" "[I", Cond.methodLink RX2 94 yX2_handedOn, Cond.instanceMethod yX2_handedOn, Cond.selects RX2 yX2_handedOn yX2_handedOn, Cond.code yX2_handedOn cX2_handedOn 2 (some .int), Cond.methodLink RX2 58 yX2_lengthFor, Cond.static yX2_lengthFor, Cond.code yX2_lengthFor cX2_lengthFor 1 (some .int)]
def wsL_wrong : List Cond := .codeWith yL_wrong cL_wrong 4 (some .int) [(0, 9, 12, 15)] :: ((wsL_wrong_r1 ++ wsL_wrong_r2) ++ wsX40 ++ wsX20 ++ (vx_atS RX4 56 "java/lang/IllegalArgumentException" ["java/lang/RuntimeException", "java/lang/Exception"]).filter goodWord)
def wsL_bears_r1 : List Cond := [Cond.classLink RL 13 "java/lang/IndexOutOfBoundsException", Cond.methodLink RL 66 yX4_bears, Cond.instanceMethod yX4_bears, Cond.selects RX4 yX4_bears yX4_bears, Cond.initialized RX4, Cond.code yX4_bears cX4_bears 3 (some .int), Cond.classLink RX4 45 "java/lang/IndexOutOfBoundsException", Cond.initialized "java/lang/IndexOutOfBoundsException", Cond.fieldLink RX4 10 "WireLamps" "state" "LWireLamps$State;", Cond.methodLink RX4 41 yX4_isLamp, Cond.static yX4_isLamp, Cond.code yX4_isLamp cX4_isLamp 1 (some .boolean), Cond.methodLink RX4 229 yX2_wrongWith, Cond.instanceMethod yX2_wrongWith, Cond.selects RX2 yX2_wrongWith yX2_wrongWith, Cond.initialized RX2, Cond.code yX2_wrongWith cX2_wrongWith 11 (some .int), Cond.fieldLink RX2 15 "WireLamps$State" "losses" "[I", Cond.fieldLink RX2 18 "WireLamps$State" "known" "[I", Cond.fieldLink RX2 9 "WireLamps$State" "modes" "[I", Cond.methodLink RX2 91 yX2_shortened, Cond.static yX2_shortened, Cond.code yX2_shortened cX2_shortened 2 (some .int), Cond.methodLink RX2 81 yX2_takesWords]
def wsL_bears_r2 : List Cond := [Cond.instanceMethod yX2_takesWords, Cond.selects RX2 yX2_takesWords yX2_takesWords, Cond.code yX2_takesWords cX2_takesWords 2 (some .boolean), Cond.methodLink RX2 66 yX2_isReadAs1, Cond.instanceMethod yX2_isReadAs1, Cond.selects RX2 yX2_isReadAs1 yX2_isReadAs1, Cond.code yX2_isReadAs1 cX2_isReadAs1 2 (some .boolean), Cond.fieldLink RX2 27 "WireLamps$State" "settings" "[I", Cond.methodLink RX2 94 yX2_handedOn, Cond.instanceMethod yX2_handedOn, Cond.selects RX2 yX2_handedOn yX2_handedOn, Cond.code yX2_handedOn cX2_handedOn 2 (some .int), Cond.methodLink RX2 58 yX2_lengthFor, Cond.static yX2_lengthFor, Cond.code yX2_lengthFor cX2_lengthFor 1 (some .int)]
def wsL_bears : List Cond := .codeWith yL_bears cL_bears 4 (some .int) [(0, 9, 12, 13)] :: ((wsL_bears_r1 ++ wsL_bears_r2) ++ wsX40 ++ wsX20 ++ (vx_atS RX4 49 "java/lang/IndexOutOfBoundsException" ["java/lang/RuntimeException", "java/lang/Exception"]).filter goodWord)
def wsL_wordsTo : List Cond := .codeWith yL_wordsTo cL_wordsTo 4 (some .int) [(0, 9, 12, 13)] :: ([.classLink RL 13 "java/lang/IndexOutOfBoundsException", .methodLink RL 69 yX4_wordsTo, .instanceMethod yX4_wordsTo, .selects RX4 yX4_wordsTo yX4_wordsTo, .initialized RX4, .code yX4_wordsTo cX4_wordsTo 2 (some .int), .classLink RX4 45 "java/lang/IndexOutOfBoundsException", .initialized "java/lang/IndexOutOfBoundsException", .fieldLink RX4 10 "WireLamps" "state" "LWireLamps$State;", .methodLink RX4 41 yX4_isLamp, .static yX4_isLamp, .code yX4_isLamp cX4_isLamp 1 (some .boolean), .methodLink RX4 233 yX2_wordsUpTo, .instanceMethod yX2_wordsUpTo, .selects RX2 yX2_wordsUpTo yX2_wordsUpTo, .initialized RX2, .code yX2_wordsUpTo cX2_wordsUpTo 4 (some .int), .fieldLink RX2 9 "WireLamps$State" "modes" "[I", .methodLink RX2 81 yX2_takesWords, .instanceMethod yX2_takesWords, .selects RX2 yX2_takesWords yX2_takesWords, .code yX2_takesWords cX2_takesWords 2 (some .boolean)] ++ wsX40 ++ wsX20 ++ (vx_atS RX4 49 "java/lang/IndexOutOfBoundsException" ["java/lang/RuntimeException", "java/lang/Exception"]).filter goodWord)
def wsL_law0_r1 : List Cond := [Cond.classLink RL 8 RX4, Cond.instantiable RX4 5, Cond.initialized RX4, Cond.classLink RL 73 RX5, Cond.instantiable RX5 13, Cond.initialized RX5, Cond.arrayClass .long, Cond.methodLink RL 72 yX4_init, Cond.instanceMethod yX4_init, Cond.code yX4_init cX4_init 1 none, Cond.methodLink RX4 1 objectInit, Cond.instanceMethod objectInit, Cond.code objectInit ⟨#[0xb1]⟩ 1 none, Cond.classLink RX4 7 RX2, Cond.instantiable RX2 13, Cond.initialized RX2, Cond.fieldLink RX4 10 "WireLamps" "state" "LWireLamps$State;", Cond.classLink RX4 16 RX1, Cond.instantiable RX1 6, Cond.initialized RX1, Cond.fieldLink RX4 19 "WireLamps" "journey" "LWireLamps$Journey;", Cond.classLink RX4 23 RX3, Cond.instantiable RX3 2, Cond.initialized RX3]
def wsL_law0_r2 : List Cond := [Cond.fieldLink RX4 26 "WireLamps" "text" "LWireLamps$Text;", Cond.classLink RX4 30 RX0, Cond.instantiable RX0 2, Cond.initialized RX0, Cond.fieldLink RX4 33 "WireLamps" "history" "LWireLamps$History;", Cond.fieldLink RX4 37 "WireLamps" "slots" "[LWireLamps$State;", Cond.instanceMethod yX2_init, Cond.code yX2_init cX2_init 1 none, Cond.methodLink RX2 3 objectInit, Cond.arrayClass .int, Cond.fieldLink RX2 9 "WireLamps$State" "modes" "[I", Cond.fieldLink RX2 15 "WireLamps$State" "losses" "[I", Cond.fieldLink RX2 18 "WireLamps$State" "known" "[I", Cond.fieldLink RX2 21 "WireLamps$State" "shining" "[I", Cond.fieldLink RX2 24 "WireLamps$State" "came" "[I", Cond.fieldLink RX2 27 "WireLamps$State" "settings" "[I", Cond.fieldLink RX2 30 "WireLamps$State" "pulses" "[I", Cond.instanceMethod yX1_init, Cond.code yX1_init cX1_init 1 none, Cond.methodLink RX1 3 objectInit, Cond.fieldLink RX1 9 "WireLamps$Journey" "came" "[I", Cond.fieldLink RX1 15 "WireLamps$Journey" "words" "[I", Cond.fieldLink RX1 18 "WireLamps$Journey" "pulses" "[I", Cond.instanceMethod yX3_init]
def wsL_law0_r3 : List Cond := [Cond.code yX3_init cX3_init 1 none, Cond.methodLink RX3 3 objectInit, Cond.arrayClass .char, Cond.fieldLink RX3 9 "WireLamps$Text" "signs" "[C", Cond.instanceMethod yX0_init, Cond.code yX0_init cX0_init 1 none, Cond.methodLink RX0 3 objectInit, Cond.classLink RX0 9 RX2, Cond.fieldLink RX0 11 "WireLamps$History" "states" "[LWireLamps$State;", Cond.methodLink RL 75 yX5_init, Cond.instanceMethod yX5_init, Cond.code yX5_init cX5_init 1 none, Cond.methodLink RX5 1 objectInit, Cond.fieldLink RX5 7 "WireLampsModel" "z" "[I", Cond.fieldLink RX5 13 "WireLampsModel" "saved" "[I", Cond.fieldLink RX5 16 "WireLampsModel" "slots" "[I", Cond.arrayClass .boolean, Cond.fieldLink RX5 19 "WireLampsModel" "isKept" "[Z", Cond.fieldLink RX5 23 "WireLampsModel" "text" "[I", Cond.fieldLink RX5 26 "WireLampsModel" "trial" "I", Cond.fieldLink RX5 30 "WireLampsModel" "told" "[I", Cond.methodLink RL 76 yL_mode, Cond.static yL_mode, Cond.initialized RL]
def wsL_law0_r4 : List Cond := [Cond.codeWith yL_mode cL_mode 5 (some .int) [(0, 10, 13, 13), (0, 10, 17, 15)], Cond.classLink RL 13 "java/lang/IndexOutOfBoundsException", Cond.classLink RL 15 "java/lang/IllegalArgumentException", Cond.methodLink RL 7 yX4_mode, Cond.instanceMethod yX4_mode, Cond.selects RX4 yX4_mode yX4_mode, Cond.code yX4_mode cX4_mode 4 (some .int), Cond.classLink RX4 45 "java/lang/IndexOutOfBoundsException", Cond.initialized "java/lang/IndexOutOfBoundsException", Cond.classLink RX4 52 "java/lang/IllegalArgumentException", Cond.initialized "java/lang/IllegalArgumentException", Cond.fieldLink RX4 61 "WireLamps$State" "modes" "[I", Cond.methodLink RX4 41 yX4_isLamp, Cond.static yX4_isLamp, Cond.code yX4_isLamp cX4_isLamp 1 (some .boolean), Cond.methodLink RX4 57 yX0_save, Cond.instanceMethod yX0_save, Cond.selects RX0 yX0_save yX0_save, Cond.code yX0_save cX0_save 3 none, Cond.fieldLink RX0 17 "WireLamps$History" "size" "I", Cond.methodLink RX0 21 yX0_dropOldest, Cond.instanceMethod yX0_dropOldest, Cond.selects RX0 yX0_dropOldest yX0_dropOldest, Cond.code yX0_dropOldest cX0_dropOldest 3 none]
def wsL_law0_r5 : List Cond := [Cond.methodLink RX0 25 yX2_copyFrom, Cond.instanceMethod yX2_copyFrom, Cond.selects RX2 yX2_copyFrom yX2_copyFrom, Cond.code yX2_copyFrom cX2_copyFrom 2 none, Cond.methodLink RX2 33 arraycopyName, Cond.native arraycopyName, Cond.static arraycopyName, Cond.initialized "java/lang/System", Cond.fieldLink RX2 39 "WireLamps$State" "pulseCount" "I", Cond.fieldLink RX2 43 "WireLamps$State" "gaps" "I", Cond.fieldLink RX2 46 "WireLamps$State" "taken" "I", Cond.fieldLink RX2 49 "WireLamps$State" "lost" "I", Cond.fieldLink RX2 52 "WireLamps$State" "dropped" "I", Cond.fieldLink RX2 55 "WireLamps$State" "refused" "I", Cond.methodLink RL 81 yX5_mode, Cond.instanceMethod yX5_mode, Cond.selects RX5 yX5_mode yX5_mode, Cond.code yX5_mode cX5_mode 3 (some .int), Cond.methodLink RX5 50 yX5_isLamp, Cond.static yX5_isLamp, Cond.code yX5_isLamp cX5_isLamp 1 (some .boolean), Cond.methodLink RX5 36 yX5_in, Cond.static yX5_in, Cond.code yX5_in cX5_in 3 (some .boolean)]
def wsL_law0_r6 : List Cond := [Cond.methodLink RX5 54 yX5_refused, Cond.instanceMethod yX5_refused, Cond.selects RX5 yX5_refused yX5_refused, Cond.code yX5_refused cX5_refused 2 (some .boolean), Cond.fieldLink RX5 33 "WireLampsModel" "thrown" "I", Cond.methodLink RX5 57 yX5_change, Cond.instanceMethod yX5_change, Cond.selects RX5 yX5_change yX5_change, Cond.code yX5_change cX5_change 4 (some .int), Cond.methodLink RX5 47 yX5_saveState, Cond.instanceMethod yX5_saveState, Cond.selects RX5 yX5_saveState yX5_saveState, Cond.code yX5_saveState cX5_saveState 2 none, Cond.fieldLink RX5 40 "WireLampsModel" "savedMany" "I", Cond.methodLink RX5 43 yX5_copyState, Cond.static yX5_copyState, Cond.code yX5_copyState cX5_copyState 5 none, Cond.methodLink RL 82 yX5_thrown, Cond.instanceMethod yX5_thrown, Cond.selects RX5 yX5_thrown yX5_thrown, Cond.code yX5_thrown cX5_thrown 1 (some .int), Cond.methodLink RL 85 yL_loss, Cond.static yL_loss, Cond.codeWith yL_loss cL_loss 5 (some .int) [(0, 10, 13, 13), (0, 10, 17, 15)]]
def wsL_law0_r7 : List Cond := [Cond.methodLink RL 17 yX4_loss, Cond.instanceMethod yX4_loss, Cond.selects RX4 yX4_loss yX4_loss, Cond.code yX4_loss cX4_loss 4 (some .int), Cond.fieldLink RX4 67 "WireLamps$State" "losses" "[I", Cond.methodLink RL 87 yX5_loss, Cond.instanceMethod yX5_loss, Cond.selects RX5 yX5_loss yX5_loss, Cond.code yX5_loss cX5_loss 3 (some .int), Cond.methodLink RL 88 yL_set, Cond.static yL_set, Cond.codeWith yL_set cL_set 5 (some .int) [(0, 10, 13, 13), (0, 10, 17, 15)], Cond.methodLink RL 20 yX4_set, Cond.instanceMethod yX4_set, Cond.selects RX4 yX4_set yX4_set, Cond.code yX4_set cX4_set 4 (some .int), Cond.fieldLink RX4 75 "WireLamps" "LOWEST_VALUE" "[I", Cond.fieldLink RX4 78 "WireLamps" "HIGHEST_VALUE" "[I", Cond.fieldLink RX4 83 "WireLamps$State" "settings" "[I", Cond.methodLink RX4 70 yX4_isSetting, Cond.static yX4_isSetting, Cond.code yX4_isSetting cX4_isSetting 1 (some .boolean), Cond.methodLink RL 90 yX5_set, Cond.instanceMethod yX5_set]
def wsL_law0_r8 : List Cond := [Cond.selects RX5 yX5_set yX5_set, Cond.code yX5_set cX5_set 3 (some .int), Cond.methodLink RX5 61 yX5_isValue, Cond.static yX5_isValue, Cond.code yX5_isValue cX5_isValue 2 (some .boolean), Cond.methodLink RL 91 yL_pulse, Cond.static yL_pulse, Cond.codeWith yL_pulse cL_pulse 4 (some .int) [(0, 9, 12, 15)], Cond.methodLink RL 23 yX4_pulse, Cond.instanceMethod yX4_pulse, Cond.selects RX4 yX4_pulse yX4_pulse, Cond.code yX4_pulse cX4_pulse 2 (some .int), Cond.fieldLink RX4 99 "WireLamps$State" "pulseCount" "I", Cond.methodLink RX4 88 yX2_hasRoomFor, Cond.instanceMethod yX2_hasRoomFor, Cond.selects RX2 yX2_hasRoomFor yX2_hasRoomFor, Cond.code yX2_hasRoomFor cX2_hasRoomFor 2 (some .boolean), Cond.methodLink RX4 91 yX4_refuse, Cond.instanceMethod yX4_refuse, Cond.selects RX4 yX4_refuse yX4_refuse, Cond.code yX4_refuse cX4_refuse 1 (some .int), Cond.fieldLink RX4 213 "WireLamps$State" "refused" "I", Cond.methodLink RX4 95 yX2_addPulse, Cond.instanceMethod yX2_addPulse]
def wsL_law0_r9 : List Cond := [Cond.selects RX2 yX2_addPulse yX2_addPulse, Cond.code yX2_addPulse cX2_addPulse 2 none, Cond.methodLink RL 94 yX5_pulse, Cond.instanceMethod yX5_pulse, Cond.selects RX5 yX5_pulse yX5_pulse, Cond.code yX5_pulse cX5_pulse 2 (some .int), Cond.methodLink RX5 94 yX5_addPulse, Cond.instanceMethod yX5_addPulse, Cond.selects RX5 yX5_addPulse yX5_addPulse, Cond.code yX5_addPulse cX5_addPulse 2 none, Cond.methodLink RL 95 yL_send, Cond.static yL_send, Cond.codeWith yL_send cL_send 4 (some .int) [(0, 9, 12, 15)], Cond.methodLink RL 27 yX4_send, Cond.instanceMethod yX4_send, Cond.selects RX4 yX4_send yX4_send, Cond.code yX4_send cX4_send 2 (some .int), Cond.methodLink RX4 103 yX4_isWord, Cond.static yX4_isWord, Cond.code yX4_isWord cX4_isWord 1 (some .boolean), Cond.methodLink RX4 108 yX2_addWord, Cond.instanceMethod yX2_addWord, Cond.selects RX2 yX2_addWord yX2_addWord, Cond.code yX2_addWord cX2_addWord 3 none]
def wsL_law0_r10 : List Cond := [Cond.methodLink RX2 58 yX2_lengthFor, Cond.static yX2_lengthFor, Cond.code yX2_lengthFor cX2_lengthFor 1 (some .int), Cond.methodLink RX2 62 yX2_addPulse, Cond.methodLink RL 97 yX5_send, Cond.instanceMethod yX5_send, Cond.selects RX5 yX5_send yX5_send, Cond.code yX5_send cX5_send 2 (some .int), Cond.methodLink RX5 107 yX5_sendNow, Cond.instanceMethod yX5_sendNow, Cond.selects RX5 yX5_sendNow yX5_sendNow, Cond.code yX5_sendNow cX5_sendNow 3 none, Cond.methodLink RX5 65 yX5_pulseOf, Cond.static yX5_pulseOf, Cond.code yX5_pulseOf cX5_pulseOf 2 (some .int), Cond.methodLink RL 98 yX4_gap, Cond.instanceMethod yX4_gap, Cond.selects RX4 yX4_gap yX4_gap, Cond.code yX4_gap cX4_gap 1 (some .int), Cond.methodLink RX4 111 yX4_letGapBe, Cond.instanceMethod yX4_letGapBe, Cond.selects RX4 yX4_letGapBe yX4_letGapBe, Cond.code yX4_letGapBe cX4_letGapBe 3 (some .int), Cond.fieldLink RX4 172 "WireLamps$State" "known" "[I"]
def wsL_law0_r11 : List Cond := [Cond.fieldLink RX4 226 "WireLamps$Journey" "words" "[I", Cond.fieldLink RX4 188 "WireLamps$State" "came" "[I", Cond.fieldLink RX4 273 "WireLamps$Journey" "came" "[I", Cond.fieldLink RX4 175 "WireLamps$State" "shining" "[I", Cond.fieldLink RX4 198 "WireLamps$State" "gaps" "I", Cond.fieldLink RX4 201 "WireLamps$State" "taken" "I", Cond.fieldLink RX4 274 "WireLamps$Journey" "taken" "I", Cond.fieldLink RX4 204 "WireLamps$State" "lost" "I", Cond.methodLink RX4 223 yX1_goThrough, Cond.instanceMethod yX1_goThrough, Cond.selects RX1 yX1_goThrough yX1_goThrough, Cond.code yX1_goThrough cX1_goThrough 3 none, Cond.fieldLink RX1 21 "WireLamps$State" "pulses" "[I", Cond.methodLink RX1 24 arraycopyName, Cond.fieldLink RX1 30 "WireLamps$Journey" "first" "I", Cond.fieldLink RX1 34 "WireLamps$State" "pulseCount" "I", Cond.fieldLink RX1 37 "WireLamps$Journey" "end" "I", Cond.fieldLink RX1 40 "WireLamps$Journey" "taken" "I", Cond.fieldLink RX1 43 "WireLamps$State" "losses" "[I", Cond.fieldLink RX1 50 "WireLamps$State" "known" "[I", Cond.fieldLink RX1 61 "WireLamps$State" "modes" "[I", Cond.methodLink RX1 46 yX1_passWire, Cond.instanceMethod yX1_passWire, Cond.selects RX1 yX1_passWire yX1_passWire]
def wsL_law0_r12 : List Cond := [Cond.code yX1_passWire cX1_passWire 3 none, Cond.methodLink RX1 64 yX2_shortened, Cond.static yX2_shortened, Cond.code yX2_shortened cX2_shortened 2 (some .int), Cond.methodLink RX1 53 yX2_takesWords, Cond.instanceMethod yX2_takesWords, Cond.selects RX2 yX2_takesWords yX2_takesWords, Cond.code yX2_takesWords cX2_takesWords 2 (some .boolean), Cond.methodLink RX1 57 yX1_passTaker, Cond.instanceMethod yX1_passTaker, Cond.selects RX1 yX1_passTaker yX1_passTaker, Cond.code yX1_passTaker cX1_passTaker 4 none, Cond.methodLink RX1 68 yX1_takeWord, Cond.instanceMethod yX1_takeWord, Cond.selects RX1 yX1_takeWord yX1_takeWord, Cond.code yX1_takeWord cX1_takeWord 5 (some .int), Cond.methodLink RX1 76 yX2_isReadAs1, Cond.instanceMethod yX2_isReadAs1, Cond.selects RX2 yX2_isReadAs1 yX2_isReadAs1, Cond.code yX2_isReadAs1 cX2_isReadAs1 2 (some .boolean), Cond.methodLink RX1 72 yX2_handedOn, Cond.instanceMethod yX2_handedOn, Cond.selects RX2 yX2_handedOn yX2_handedOn, Cond.code yX2_handedOn cX2_handedOn 2 (some .int)]
def wsL_law0_r13 : List Cond := [Cond.methodLink RX2 66 yX2_isReadAs1, Cond.methodLink RL 101 yX5_gap, Cond.instanceMethod yX5_gap, Cond.selects RX5 yX5_gap yX5_gap, Cond.code yX5_gap cX5_gap 1 (some .int), Cond.methodLink RX5 110 yX5_gapNow, Cond.instanceMethod yX5_gapNow, Cond.selects RX5 yX5_gapNow yX5_gapNow, Cond.code yX5_gapNow cX5_gapNow 5 (some .int), Cond.methodLink RX5 98 yX5_takers, Cond.instanceMethod yX5_takers, Cond.selects RX5 yX5_takers yX5_takers, Cond.code yX5_takers cX5_takers 3 (some .int), Cond.methodLink RX5 88 yX5_takes, Cond.instanceMethod yX5_takes, Cond.selects RX5 yX5_takes yX5_takes, Cond.code yX5_takes cX5_takes 2 (some .boolean), Cond.methodLink RX5 68 yX5_isTaker, Cond.instanceMethod yX5_isTaker, Cond.selects RX5 yX5_isTaker yX5_isTaker, Cond.code yX5_isTaker cX5_isTaker 2 (some .boolean), Cond.methodLink RX5 85 yX5_comes, Cond.instanceMethod yX5_comes, Cond.selects RX5 yX5_comes yX5_comes]
def wsL_law0_r14 : List Cond := [Cond.code yX5_comes cX5_comes 3 (some .int), Cond.methodLink RX5 71 yX5_pulses, Cond.instanceMethod yX5_pulses, Cond.selects RX5 yX5_pulses yX5_pulses, Cond.code yX5_pulses cX5_pulses 1 (some .int), Cond.methodLink RX5 75 yX5_takersAhead, Cond.instanceMethod yX5_takersAhead, Cond.selects RX5 yX5_takersAhead yX5_takersAhead, Cond.code yX5_takersAhead cX5_takersAhead 4 (some .int), Cond.methodLink RX5 79 yX5_isCut, Cond.instanceMethod yX5_isCut, Cond.selects RX5 yX5_isCut yX5_isCut, Cond.code yX5_isCut cX5_isCut 4 (some .boolean), Cond.methodLink RX5 101 yX5_wordBehind, Cond.instanceMethod yX5_wordBehind, Cond.selects RX5 yX5_wordBehind yX5_wordBehind, Cond.code yX5_wordBehind cX5_wordBehind 5 (some .int), Cond.methodLink RX5 91 yX5_arrives, Cond.instanceMethod yX5_arrives, Cond.selects RX5 yX5_arrives yX5_arrives, Cond.code yX5_arrives cX5_arrives 5 (some .int), Cond.methodLink RX5 82 yX5_lengthOf, Cond.instanceMethod yX5_lengthOf, Cond.selects RX5 yX5_lengthOf yX5_lengthOf]
def wsL_law0_r15 : List Cond := [Cond.code yX5_lengthOf cX5_lengthOf 2 (some .int), Cond.methodLink RX5 104 yX5_emptyFrame, Cond.instanceMethod yX5_emptyFrame, Cond.selects RX5 yX5_emptyFrame yX5_emptyFrame, Cond.code yX5_emptyFrame cX5_emptyFrame 2 none, Cond.methodLink RL 102 yX4_drop, Cond.instanceMethod yX4_drop, Cond.selects RX4 yX4_drop yX4_drop, Cond.code yX4_drop cX4_drop 2 (some .int), Cond.fieldLink RX4 114 "WireLamps$State" "dropped" "I", Cond.methodLink RL 105 yX5_drop, Cond.instanceMethod yX5_drop, Cond.selects RX5 yX5_drop yX5_drop, Cond.code yX5_drop cX5_drop 2 (some .int), Cond.methodLink RL 106 yL_append, Cond.static yL_append, Cond.codeWith yL_append cL_append 4 (some .int) [(0, 9, 12, 15), (0, 9, 15, 33)], Cond.classLink RL 33 "java/lang/IllegalStateException", Cond.methodLink RL 30 yX4_append, Cond.instanceMethod yX4_append, Cond.selects RX4 yX4_append yX4_append, Cond.code yX4_append cX4_append 2 (some .int), Cond.classLink RX4 122 "java/lang/IllegalStateException", Cond.initialized "java/lang/IllegalStateException"]
def wsL_law0_r16 : List Cond := [Cond.fieldLink RX4 119 "WireLamps$Text" "length" "I", Cond.methodLink RX4 127 yX3_add, Cond.instanceMethod yX3_add, Cond.selects RX3 yX3_add yX3_add, Cond.code yX3_add cX3_add 2 none, Cond.fieldLink RX3 15 "WireLamps$Text" "length" "I", Cond.methodLink RL 108 yX5_append, Cond.instanceMethod yX5_append, Cond.selects RX5 yX5_append yX5_append, Cond.code yX5_append cX5_append 2 (some .int), Cond.fieldLink RX5 113 "WireLampsModel" "length" "I", Cond.methodLink RL 109 yX4_clearBuffer, Cond.instanceMethod yX4_clearBuffer, Cond.selects RX4 yX4_clearBuffer yX4_clearBuffer, Cond.code yX4_clearBuffer cX4_clearBuffer 2 (some .int), Cond.methodLink RX4 131 yX3_empty, Cond.instanceMethod yX3_empty, Cond.selects RX3 yX3_empty yX3_empty, Cond.code yX3_empty cX3_empty 1 none, Cond.methodLink RL 112 yX5_clearBuffer, Cond.instanceMethod yX5_clearBuffer, Cond.selects RX5 yX5_clearBuffer yX5_clearBuffer, Cond.code yX5_clearBuffer cX5_clearBuffer 2 (some .int), Cond.methodLink RL 113 yX4_firstError]
def wsL_law0_r17 : List Cond := [Cond.instanceMethod yX4_firstError, Cond.selects RX4 yX4_firstError yX4_firstError, Cond.code yX4_firstError cX4_firstError 1 (some .int), Cond.methodLink RX4 134 yX3_errorPlace, Cond.instanceMethod yX3_errorPlace, Cond.selects RX3 yX3_errorPlace yX3_errorPlace, Cond.code yX3_errorPlace cX3_errorPlace 2 (some .int), Cond.methodLink RX3 19 yX3_fits, Cond.instanceMethod yX3_fits, Cond.selects RX3 yX3_fits yX3_fits, Cond.code yX3_fits cX3_fits 4 (some .boolean), Cond.methodLink RX3 23 yX3_signAt, Cond.instanceMethod yX3_signAt, Cond.selects RX3 yX3_signAt yX3_signAt, Cond.code yX3_signAt cX3_signAt 2 (some .char), Cond.methodLink RX3 27 yX3_digitOf, Cond.static yX3_digitOf, Cond.code yX3_digitOf cX3_digitOf 1 (some .int), Cond.methodLink RL 116 yX5_firstError, Cond.instanceMethod yX5_firstError, Cond.selects RX5 yX5_firstError yX5_firstError, Cond.code yX5_firstError cX5_firstError 1 (some .int), Cond.fieldLink RX5 116 "WireLampsModel" "spot" "I", Cond.methodLink RX5 136 yX5_readText]
def wsL_law0_r18 : List Cond := [Cond.instanceMethod yX5_readText, Cond.selects RX5 yX5_readText yX5_readText, Cond.code yX5_readText cX5_readText 2 (some .boolean), Cond.fieldLink RX5 122 "WireLampsModel" "toldMany" "I", Cond.fieldLink RX5 132 "WireLampsModel" "hasGap" "Z", Cond.methodLink RX5 125 yX5_readWord, Cond.instanceMethod yX5_readWord, Cond.selects RX5 yX5_readWord yX5_readWord, Cond.code yX5_readWord cX5_readWord 4 (some .boolean), Cond.methodLink RX5 119 yX5_digit, Cond.static yX5_digit, Cond.code yX5_digit cX5_digit 1 (some .int), Cond.methodLink RX5 129 yX5_takesSign, Cond.instanceMethod yX5_takesSign, Cond.selects RX5 yX5_takesSign yX5_takesSign, Cond.code yX5_takesSign cX5_takesSign 3 (some .boolean), Cond.methodLink RL 117 yL_load, Cond.static yL_load, Cond.codeWith yL_load cL_load 3 (some .int) [(0, 8, 11, 15)], Cond.methodLink RL 35 yX4_load, Cond.instanceMethod yX4_load, Cond.selects RX4 yX4_load yX4_load, Cond.code yX4_load cX4_load 3 (some .int), Cond.methodLink RX4 137 yX3_wordsTold]
def wsL_law0_r19 : List Cond := [Cond.instanceMethod yX3_wordsTold, Cond.selects RX3 yX3_wordsTold yX3_wordsTold, Cond.code yX3_wordsTold cX3_wordsTold 2 (some .int), Cond.methodLink RX3 31 yX3_endsWithGap, Cond.instanceMethod yX3_endsWithGap, Cond.selects RX3 yX3_endsWithGap yX3_endsWithGap, Cond.code yX3_endsWithGap cX3_endsWithGap 1 (some .boolean), Cond.methodLink RX3 35 yX3_errorPlace, Cond.methodLink RX4 142 yX3_wordAt, Cond.instanceMethod yX3_wordAt, Cond.selects RX3 yX3_wordAt yX3_wordAt, Cond.code yX3_wordAt cX3_wordAt 4 (some .int), Cond.methodLink RX4 146 yX3_endsWithGap, Cond.methodLink RL 120 yX5_load, Cond.instanceMethod yX5_load, Cond.selects RX5 yX5_load yX5_load, Cond.code yX5_load cX5_load 2 (some .int), Cond.methodLink RL 121 yL_keep, Cond.static yL_keep, Cond.codeWith yL_keep cL_keep 4 (some .int) [(0, 9, 12, 15)], Cond.methodLink RL 39 yX4_keep, Cond.instanceMethod yX4_keep, Cond.selects RX4 yX4_keep yX4_keep, Cond.code yX4_keep cX4_keep 3 (some .int)]
def wsL_law0_r20 : List Cond := [Cond.methodLink RX4 150 yX4_isSlot, Cond.static yX4_isSlot, Cond.code yX4_isSlot cX4_isSlot 1 (some .boolean), Cond.methodLink RX4 155 yX2_copyFrom, Cond.methodLink RL 123 yX5_keep, Cond.instanceMethod yX5_keep, Cond.selects RX5 yX5_keep yX5_keep, Cond.code yX5_keep cX5_keep 2 (some .int), Cond.methodLink RL 124 yL_goBack, Cond.static yL_goBack, Cond.codeWith yL_goBack cL_goBack 4 (some .int) [(0, 9, 12, 15), (0, 9, 15, 33)], Cond.methodLink RL 42 yX4_goBack, Cond.instanceMethod yX4_goBack, Cond.selects RX4 yX4_goBack yX4_goBack, Cond.code yX4_goBack cX4_goBack 3 (some .int), Cond.methodLink RL 126 yX5_goBack, Cond.instanceMethod yX5_goBack, Cond.selects RX5 yX5_goBack yX5_goBack, Cond.code yX5_goBack cX5_goBack 2 (some .int), Cond.methodLink RL 127 yL_undo, Cond.static yL_undo, Cond.codeWith yL_undo cL_undo 3 (some .int) [(0, 8, 11, 33)], Cond.methodLink RL 45 yX4_undo, Cond.instanceMethod yX4_undo]
def wsL_law0_r21 : List Cond := [Cond.selects RX4 yX4_undo yX4_undo, Cond.code yX4_undo cX4_undo 2 (some .int), Cond.fieldLink RX4 169 "WireLamps$History" "size" "I", Cond.methodLink RX4 160 yX0_latest, Cond.instanceMethod yX0_latest, Cond.selects RX0 yX0_latest yX0_latest, Cond.code yX0_latest cX0_latest 1 (some (.object "WireLamps$State")), Cond.methodLink RX4 166 yX0_forgetLatest, Cond.instanceMethod yX0_forgetLatest, Cond.selects RX0 yX0_forgetLatest yX0_forgetLatest, Cond.code yX0_forgetLatest cX0_forgetLatest 1 none, Cond.methodLink RL 129 yX5_undo, Cond.instanceMethod yX5_undo, Cond.selects RX5 yX5_undo yX5_undo, Cond.code yX5_undo cX5_undo 1 (some .int), Cond.methodLink RL 130 yL_lampOf, Cond.static yL_lampOf, Cond.codeWith yL_lampOf cL_lampOf 5 (some .int) [(0, 10, 13, 13), (0, 10, 17, 15)], Cond.methodLink RL 48 yX4_lampOf, Cond.instanceMethod yX4_lampOf, Cond.selects RX4 yX4_lampOf yX4_lampOf, Cond.code yX4_lampOf cX4_lampOf 3 (some .int), Cond.methodLink RX4 178 yX2_brightnessOf, Cond.static yX2_brightnessOf]
def wsL_law0_r22 : List Cond := [Cond.code yX2_brightnessOf cX2_brightnessOf 2 (some .int), Cond.methodLink RX4 182 yX2_currentWanted, Cond.instanceMethod yX2_currentWanted, Cond.selects RX2 yX2_currentWanted yX2_currentWanted, Cond.code yX2_currentWanted cX2_currentWanted 4 (some .int), Cond.methodLink RX2 70 yX2_brightnessOf, Cond.methodLink RX4 185 yX2_shown, Cond.instanceMethod yX2_shown, Cond.selects RX2 yX2_shown yX2_shown, Cond.code yX2_shown cX2_shown 3 (some .int), Cond.methodLink RL 132 yX5_lampOf, Cond.instanceMethod yX5_lampOf, Cond.selects RX5 yX5_lampOf yX5_lampOf, Cond.code yX5_lampOf cX5_lampOf 3 (some .int), Cond.methodLink RX5 148 yX5_aboutLamp, Cond.instanceMethod yX5_aboutLamp, Cond.selects RX5 yX5_aboutLamp yX5_aboutLamp, Cond.code yX5_aboutLamp cX5_aboutLamp 3 (some .int), Cond.methodLink RX5 145 yX5_shown, Cond.instanceMethod yX5_shown, Cond.selects RX5 yX5_shown yX5_shown, Cond.code yX5_shown cX5_shown 5 (some .int), Cond.methodLink RX5 142 yX5_wanted, Cond.instanceMethod yX5_wanted]
def wsL_law0_r23 : List Cond := [Cond.selects RX5 yX5_wanted yX5_wanted, Cond.code yX5_wanted cX5_wanted 4 (some .int), Cond.methodLink RX5 139 yX5_colour, Cond.static yX5_colour, Cond.code yX5_colour cX5_colour 2 (some .int), Cond.methodLink RL 133 yL_pulseAt, Cond.static yL_pulseAt, Cond.codeWith yL_pulseAt cL_pulseAt 4 (some .int) [(0, 9, 12, 15)], Cond.methodLink RL 51 yX4_pulseAt, Cond.instanceMethod yX4_pulseAt, Cond.selects RX4 yX4_pulseAt yX4_pulseAt, Cond.code yX4_pulseAt cX4_pulseAt 2 (some .int), Cond.fieldLink RX4 195 "WireLamps$State" "pulses" "[I", Cond.methodLink RL 135 yX5_pulseAt, Cond.instanceMethod yX5_pulseAt, Cond.selects RX5 yX5_pulseAt yX5_pulseAt, Cond.code yX5_pulseAt cX5_pulseAt 2 (some .int), Cond.methodLink RL 136 yL_count, Cond.static yL_count, Cond.codeWith yL_count cL_count 4 (some .int) [(0, 9, 12, 15)], Cond.methodLink RL 54 yX4_count, Cond.instanceMethod yX4_count, Cond.selects RX4 yX4_count yX4_count, Cond.code yX4_count cX4_count 2 (some .int)]
def wsL_law0_r24 : List Cond := [Cond.methodLink RX4 207 yX2_shownTogether, Cond.instanceMethod yX2_shownTogether, Cond.selects RX2 yX2_shownTogether yX2_shownTogether, Cond.code yX2_shownTogether cX2_shownTogether 5 (some .int), Cond.methodLink RX2 74 yX2_currentWanted, Cond.methodLink RX2 78 yX2_shown, Cond.methodLink RX4 210 yX2_lampsThatShine, Cond.instanceMethod yX2_lampsThatShine, Cond.selects RX2 yX2_lampsThatShine yX2_lampsThatShine, Cond.code yX2_lampsThatShine cX2_lampsThatShine 3 (some .int), Cond.methodLink RL 138 yX5_count, Cond.instanceMethod yX5_count, Cond.selects RX5 yX5_count yX5_count, Cond.code yX5_count cX5_count 2 (some .int), Cond.methodLink RX5 157 yX5_number, Cond.instanceMethod yX5_number, Cond.selects RX5 yX5_number yX5_number, Cond.code yX5_number cX5_number 2 (some .int), Cond.methodLink RX5 151 yX5_allShown, Cond.instanceMethod yX5_allShown, Cond.selects RX5 yX5_allShown yX5_allShown, Cond.code yX5_allShown cX5_allShown 4 (some .int), Cond.methodLink RX5 154 yX5_shining, Cond.instanceMethod yX5_shining]
def wsL_law0_r25 : List Cond := [Cond.selects RX5 yX5_shining yX5_shining, Cond.code yX5_shining cX5_shining 3 (some .int), Cond.methodLink RL 139 yL_setting, Cond.static yL_setting, Cond.codeWith yL_setting cL_setting 4 (some .int) [(0, 9, 12, 13)], Cond.methodLink RL 57 yX4_setting, Cond.instanceMethod yX4_setting, Cond.selects RX4 yX4_setting yX4_setting, Cond.code yX4_setting cX4_setting 2 (some .int), Cond.methodLink RL 141 yX5_setting, Cond.instanceMethod yX5_setting, Cond.selects RX5 yX5_setting yX5_setting, Cond.code yX5_setting cX5_setting 2 (some .int), Cond.methodLink RL 142 yL_ifGap, Cond.static yL_ifGap, Cond.codeWith yL_ifGap cL_ifGap 5 (some .int) [(0, 10, 13, 13), (0, 10, 17, 15)], Cond.methodLink RL 60 yX4_ifGap, Cond.instanceMethod yX4_ifGap, Cond.selects RX4 yX4_ifGap yX4_ifGap, Cond.code yX4_ifGap cX4_ifGap 3 (some .int), Cond.methodLink RX4 220 yX2_wordByPlace, Cond.instanceMethod yX2_wordByPlace, Cond.selects RX2 yX2_wordByPlace yX2_wordByPlace, Cond.code yX2_wordByPlace cX2_wordByPlace 6 (some .int)]
def wsL_law0_r26 : List Cond := [Cond.methodLink RX2 84 yX2_wordsUpTo, Cond.instanceMethod yX2_wordsUpTo, Cond.selects RX2 yX2_wordsUpTo yX2_wordsUpTo, Cond.code yX2_wordsUpTo cX2_wordsUpTo 4 (some .int), Cond.methodLink RX2 81 yX2_takesWords, Cond.methodLink RX2 88 yX2_lengthAt, Cond.instanceMethod yX2_lengthAt, Cond.selects RX2 yX2_lengthAt yX2_lengthAt, Cond.code yX2_lengthAt cX2_lengthAt 5 (some .int), Cond.methodLink RX2 91 yX2_shortened, Cond.methodLink RX2 94 yX2_handedOn, Cond.methodLink RL 144 yX5_ifGap, Cond.instanceMethod yX5_ifGap, Cond.selects RX5 yX5_ifGap yX5_ifGap, Cond.code yX5_ifGap cX5_ifGap 3 (some .int), Cond.methodLink RL 145 yL_wrong, Cond.static yL_wrong, Cond.codeWith yL_wrong cL_wrong 4 (some .int) [(0, 9, 12, 15)], Cond.methodLink RL 63 yX4_wrong, Cond.instanceMethod yX4_wrong, Cond.selects RX4 yX4_wrong yX4_wrong, Cond.code yX4_wrong cX4_wrong 2 (some .int), Cond.methodLink RX4 229 yX2_wrongWith, Cond.instanceMethod yX2_wrongWith]
def wsL_law0_r27 : List Cond := [Cond.selects RX2 yX2_wrongWith yX2_wrongWith, Cond.code yX2_wrongWith cX2_wrongWith 11 (some .int), Cond.methodLink RL 147 yX5_wrong, Cond.instanceMethod yX5_wrong, Cond.selects RX5 yX5_wrong yX5_wrong, Cond.code yX5_wrong cX5_wrong 2 (some .int), Cond.methodLink RX5 160 yX5_wrongOnes, Cond.instanceMethod yX5_wrongOnes, Cond.selects RX5 yX5_wrongOnes yX5_wrongOnes, Cond.code yX5_wrongOnes cX5_wrongOnes 5 (some .int), Cond.methodLink RL 148 yL_bears, Cond.static yL_bears, Cond.codeWith yL_bears cL_bears 4 (some .int) [(0, 9, 12, 13)], Cond.methodLink RL 66 yX4_bears, Cond.instanceMethod yX4_bears, Cond.selects RX4 yX4_bears yX4_bears, Cond.code yX4_bears cX4_bears 3 (some .int), Cond.methodLink RL 150 yX5_bears, Cond.instanceMethod yX5_bears, Cond.selects RX5 yX5_bears yX5_bears, Cond.code yX5_bears cX5_bears 2 (some .int), Cond.methodLink RX5 163 yX5_greatestLoss, Cond.instanceMethod yX5_greatestLoss, Cond.selects RX5 yX5_greatestLoss yX5_greatestLoss]
def wsL_law0_r28 : List Cond := [Cond.code yX5_greatestLoss cX5_greatestLoss 5 (some .int), Cond.methodLink RL 151 yX4_brokenAt, Cond.instanceMethod yX4_brokenAt, Cond.selects RX4 yX4_brokenAt yX4_brokenAt, Cond.code yX4_brokenAt cX4_brokenAt 2 (some .int), Cond.methodLink RL 154 yX5_brokenAt, Cond.instanceMethod yX5_brokenAt, Cond.selects RX5 yX5_brokenAt yX5_brokenAt, Cond.code yX5_brokenAt cX5_brokenAt 3 (some .int), Cond.methodLink RL 155 yL_wordsTo, Cond.static yL_wordsTo, Cond.codeWith yL_wordsTo cL_wordsTo 4 (some .int) [(0, 9, 12, 13)], Cond.methodLink RL 69 yX4_wordsTo, Cond.instanceMethod yX4_wordsTo, Cond.selects RX4 yX4_wordsTo yX4_wordsTo, Cond.code yX4_wordsTo cX4_wordsTo 2 (some .int), Cond.methodLink RX4 233 yX2_wordsUpTo, Cond.methodLink RL 157 yX5_wordsTo, Cond.instanceMethod yX5_wordsTo, Cond.selects RX5 yX5_wordsTo yX5_wordsTo, Cond.code yX5_wordsTo cX5_wordsTo 2 (some .int), Cond.methodLink RX5 166 yX5_fewestWords, Cond.instanceMethod yX5_fewestWords, Cond.selects RX5 yX5_fewestWords yX5_fewestWords]
def wsL_law0_r29 : List Cond := [Cond.code yX5_fewestWords cX5_fewestWords 2 (some .int), Cond.methodLink RL 158 yX4_brightness, Cond.instanceMethod yX4_brightness, Cond.selects RX4 yX4_brightness yX4_brightness, Cond.code yX4_brightness cX4_brightness 1 (some .double), Cond.constantDouble RX4 236 (4645040803167600640), Cond.methodLink RL 162 yX5_brightness, Cond.instanceMethod yX5_brightness, Cond.selects RX5 yX5_brightness yX5_brightness, Cond.code yX5_brightness cX5_brightness 3 (some .double), Cond.constantDouble RX5 169 (4645040803167600640), Cond.methodLink RL 163 yX4_digest, Cond.instanceMethod yX4_digest, Cond.selects RX4 yX4_digest yX4_digest, Cond.code yX4_digest cX4_digest 4 (some .long), Cond.constantLong RX4 238 (3517), Cond.constantLong RX4 240 (31), Cond.fieldLink RX4 263 "WireLamps$Text" "signs" "[C", Cond.methodLink RX4 242 yX4_count, Cond.methodLink RX4 245 yX4_withLamps, Cond.instanceMethod yX4_withLamps, Cond.selects RX4 yX4_withLamps yX4_withLamps, Cond.code yX4_withLamps cX4_withLamps 7 (some .long), Cond.methodLink RX4 267 yX4_lampOf]
def wsL_law0_r30 : List Cond := [Cond.methodLink RX4 270 yX4_bears, Cond.methodLink RX4 249 yX4_wrong, Cond.methodLink RX4 252 yX4_brokenAt, Cond.methodLink RX4 255 yX4_brightness, Cond.methodLink RX4 259 yX4_bitsOf, Cond.static yX4_bitsOf, Cond.code yX4_bitsOf cX4_bitsOf 7 (some .long), Cond.constantDouble RX4 275 (4611686018427387904), Cond.constantDouble RX4 277 (4841369599423283200), Cond.methodLink RL 167 yX5_digest, Cond.instanceMethod yX5_digest, Cond.selects RX5 yX5_digest yX5_digest, Cond.code yX5_digest cX5_digest 5 (some .long), Cond.constantLong RX5 171 (3517), Cond.constantLong RX5 173 (31), Cond.methodLink RX5 175 yX5_brokenAt, Cond.methodLink RX5 178 yX5_brightness, Cond.methodLink RX5 182 yJxe99ae_doubleToLongBits_ccdee, Cond.static yJxe99ae_doubleToLongBits_ccdee, Cond.initialized RJxe99ae, Cond.code yJxe99ae_doubleToLongBits_ccdee cJxe99ae_doubleToLongBits_ccdee 2 (some .long), Cond.methodLink RJxe99ae 134 ⟨"java/lang/Double", "doubleToRawLongBits", "(D)J"⟩, Cond.native ⟨"java/lang/Double", "doubleToRawLongBits", "(D)J"⟩, Cond.static ⟨"java/lang/Double", "doubleToRawLongBits", "(D)J"⟩]
def wsL_law0_r31 : List Cond := [Cond.initialized "java/lang/Double", Cond.constantLong RJxe99ae 137 (9221120237041090560), Cond.methodLink RJxe99ae 122 yJxe99ae_isNaN_b9ae7, Cond.static yJxe99ae_isNaN_b9ae7, Cond.code yJxe99ae_isNaN_b9ae7 cJxe99ae_isNaN_b9ae7 2 (some .boolean)]
def wsL_law0 : List Cond := (wsL_law0_r1 ++ (wsL_law0_r2 ++ (wsL_law0_r3 ++ (wsL_law0_r4 ++ (wsL_law0_r5 ++ (wsL_law0_r6 ++ (wsL_law0_r7 ++ (wsL_law0_r8 ++ (wsL_law0_r9 ++ (wsL_law0_r10 ++ (wsL_law0_r11 ++ (wsL_law0_r12 ++ (wsL_law0_r13 ++ (wsL_law0_r14 ++ (wsL_law0_r15 ++ (wsL_law0_r16 ++ (wsL_law0_r17 ++ (wsL_law0_r18 ++ (wsL_law0_r19 ++ (wsL_law0_r20 ++ (wsL_law0_r21 ++ (wsL_law0_r22 ++ (wsL_law0_r23 ++ (wsL_law0_r24 ++ (wsL_law0_r25 ++ (wsL_law0_r26 ++ (wsL_law0_r27 ++ (wsL_law0_r28 ++ (wsL_law0_r29 ++ (wsL_law0_r30 ++ wsL_law0_r31)))))))))))))))))))))))))))))) ++ wsX40 ++ wsX50 ++ wsX20 ++ wsX10 ++ wsX30 ++ wsX00 ++ ([] : List Cond)
def wsL_law : List Cond := wsL_law0 ++ (vx_atS RX4 49 "java/lang/IndexOutOfBoundsException" ["java/lang/RuntimeException", "java/lang/Exception"]).filter goodWord ++ (vx_atS RX4 56 "java/lang/IllegalArgumentException" ["java/lang/RuntimeException", "java/lang/Exception"]).filter goodWord ++ (vx_atS RX4 126 "java/lang/IllegalStateException" ["java/lang/RuntimeException", "java/lang/Exception"]).filter goodWord
abbrev vwCl : List vw_C := [(RX0, TX0, 2), (RX1, TX1, 6), (RX2, TX2, 13), (RX3, TX3, 2), (RX4, TX4, 5), (RX5, TX5, 13)]
end
section
set_option maxRecDepth 20000 in
theorem in_wsL_law0_r1 : GoodIn lw_tbl wsL_law0_r1 := goodIn_p wsL_law0_r1 [58, 61] (by decide +kernel) (by decide +kernel)
set_option maxRecDepth 20000 in
theorem in_wsL_law0_r2 : GoodIn lw_tbl wsL_law0_r2 := goodIn_p wsL_law0_r2 [66, 131] (by decide +kernel) (by decide +kernel)
set_option maxRecDepth 20000 in
theorem in_wsL_law0_r3 : GoodIn lw_tbl wsL_law0_r3 := goodIn_p wsL_law0_r3 [159, 175, 673] (by decide +kernel) (by decide +kernel)
set_option maxRecDepth 20000 in
theorem in_wsL_law0_r4 : GoodIn lw_tbl wsL_law0_r4 := goodIn_p wsL_law0_r4 [478, 411, 210, 214] (by decide +kernel) (by decide +kernel)
set_option maxRecDepth 20000 in
theorem in_wsL_law0_r5 : GoodIn lw_tbl wsL_law0_r5 := goodIn_p wsL_law0_r5 [219, 723, 726, 729] (by decide +kernel) (by decide +kernel)
set_option maxRecDepth 20000 in
theorem in_wsL_law0_r6 : GoodIn lw_tbl wsL_law0_r6 := goodIn_p wsL_law0_r6 [733, 737, 741, 744, 719] (by decide +kernel) (by decide +kernel)
set_option maxRecDepth 20000 in
theorem in_wsL_law0_r7 : GoodIn lw_tbl wsL_law0_r7 := goodIn_p wsL_law0_r7 [486, 748, 494, 497] (by decide +kernel) (by decide +kernel)
set_option maxRecDepth 20000 in
theorem in_wsL_law0_r8 : GoodIn lw_tbl wsL_law0_r8 := goodIn_p wsL_law0_r8 [752, 755, 510, 515, 519] (by decide +kernel) (by decide +kernel)
set_option maxRecDepth 20000 in
theorem in_wsL_law0_r9 : GoodIn lw_tbl wsL_law0_r9 := goodIn_p wsL_law0_r9 [523, 759, 763, 530, 461, 534] (by decide +kernel) (by decide +kernel)
set_option maxRecDepth 20000 in
theorem in_wsL_law0_r10 : GoodIn lw_tbl wsL_law0_r10 := goodIn_p wsL_law0_r10 [262, 767, 771, 774, 206, 226] (by decide +kernel) (by decide +kernel)
set_option maxRecDepth 20000 in
theorem in_wsL_law0_r11 : GoodIn lw_tbl wsL_law0_r11 := goodIn_p wsL_law0_r11 [230] (by decide +kernel) (by decide +kernel)
set_option maxRecDepth 20000 in
theorem in_wsL_law0_r12 : GoodIn lw_tbl wsL_law0_r12 := goodIn_p wsL_law0_r12 [235, 238, 242, 246, 250, 254, 258] (by decide +kernel) (by decide +kernel)
set_option maxRecDepth 20000 in
theorem in_wsL_law0_r13 : GoodIn lw_tbl wsL_law0_r13 := goodIn_p wsL_law0_r13 [778, 782, 786, 790, 794] (by decide +kernel) (by decide +kernel)
set_option maxRecDepth 20000 in
theorem in_wsL_law0_r14 : GoodIn lw_tbl wsL_law0_r14 := goodIn_p wsL_law0_r14 [798, 802, 806, 810, 814, 818] (by decide +kernel) (by decide +kernel)
set_option maxRecDepth 20000 in
theorem in_wsL_law0_r15 : GoodIn lw_tbl wsL_law0_r15 := goodIn_p wsL_law0_r15 [822, 826, 266, 830, 543] (by decide +kernel) (by decide +kernel)
set_option maxRecDepth 20000 in
theorem in_wsL_law0_r16 : GoodIn lw_tbl wsL_law0_r16 := goodIn_p wsL_law0_r16 [564, 834, 270, 274, 838] (by decide +kernel) (by decide +kernel)
set_option maxRecDepth 20000 in
theorem in_wsL_law0_r17 : GoodIn lw_tbl wsL_law0_r17 := goodIn_p wsL_law0_r17 [278, 282, 286, 290, 293, 842] (by decide +kernel) (by decide +kernel)
set_option maxRecDepth 20000 in
theorem in_wsL_law0_r18 : GoodIn lw_tbl wsL_law0_r18 := goodIn_p wsL_law0_r18 [846, 850, 853, 857, 571] (by decide +kernel) (by decide +kernel)
set_option maxRecDepth 20000 in
theorem in_wsL_law0_r19 : GoodIn lw_tbl wsL_law0_r19 := goodIn_p wsL_law0_r19 [575, 579, 585, 861, 593] (by decide +kernel) (by decide +kernel)
set_option maxRecDepth 20000 in
theorem in_wsL_law0_r20 : GoodIn lw_tbl wsL_law0_r20 := goodIn_p wsL_law0_r20 [596, 865, 605, 869] (by decide +kernel) (by decide +kernel)
set_option maxRecDepth 20000 in
theorem in_wsL_law0_r21 : GoodIn lw_tbl wsL_law0_r21 := goodIn_p wsL_law0_r21 [613, 617, 622, 873, 408] (by decide +kernel) (by decide +kernel)
set_option maxRecDepth 20000 in
theorem in_wsL_law0_r22 : GoodIn lw_tbl wsL_law0_r22 := goodIn_p wsL_law0_r22 [312, 309, 316, 877, 881, 885] (by decide +kernel) (by decide +kernel)
set_option maxRecDepth 20000 in
theorem in_wsL_law0_r23 : GoodIn lw_tbl wsL_law0_r23 := goodIn_p wsL_law0_r23 [889, 892, 633, 896, 327] (by decide +kernel) (by decide +kernel)
set_option maxRecDepth 20000 in
theorem in_wsL_law0_r24 : GoodIn lw_tbl wsL_law0_r24 := goodIn_p wsL_law0_r24 [305, 332, 900, 904, 908] (by decide +kernel) (by decide +kernel)
set_option maxRecDepth 20000 in
theorem in_wsL_law0_r25 : GoodIn lw_tbl wsL_law0_r25 := goodIn_p wsL_law0_r25 [912, 645, 916, 652, 434] (by decide +kernel) (by decide +kernel)
set_option maxRecDepth 20000 in
theorem in_wsL_law0_r26 : GoodIn lw_tbl wsL_law0_r26 := goodIn_p wsL_law0_r26 [438, 443, 920, 458] (by decide +kernel) (by decide +kernel)
set_option maxRecDepth 20000 in
theorem in_wsL_law0_r27 : GoodIn lw_tbl wsL_law0_r27 := goodIn_p wsL_law0_r27 [453, 924, 928, 449, 932] (by decide +kernel) (by decide +kernel)
set_option maxRecDepth 20000 in
theorem in_wsL_law0_r28 : GoodIn lw_tbl wsL_law0_r28 := goodIn_p wsL_law0_r28 [936, 297, 940, 668, 944] (by decide +kernel) (by decide +kernel)
set_option maxRecDepth 20000 in
theorem in_wsL_law0_r29 : GoodIn lw_tbl wsL_law0_r29 := goodIn_p wsL_law0_r29 [948, 301, 952, 321, 404] (by decide +kernel) (by decide +kernel)
set_option maxRecDepth 20000 in
theorem in_wsL_law0_r30 : GoodIn lw_tbl wsL_law0_r30 := goodIn_p wsL_law0_r30 [467, 957, 964] (by decide +kernel) (by decide +kernel)
set_option maxRecDepth 20000 in
theorem in_wsL_law0_r31 : GoodIn lw_tbl wsL_law0_r31 := goodIn_p wsL_law0_r31 [967] (by decide +kernel) (by decide +kernel)
set_option maxRecDepth 20000 in
theorem in_wsX40 : GoodIn lw_tbl wsX40 := goodIn_p wsX40 [] (by decide +kernel) (by decide +kernel)
set_option maxRecDepth 20000 in
theorem in_wsX50 : GoodIn lw_tbl wsX50 := goodIn_p wsX50 [] (by decide +kernel) (by decide +kernel)
set_option maxRecDepth 20000 in
theorem in_wsX20 : GoodIn lw_tbl wsX20 := goodIn_p wsX20 [] (by decide +kernel) (by decide +kernel)
set_option maxRecDepth 20000 in
theorem in_wsX10 : GoodIn lw_tbl wsX10 := goodIn_p wsX10 [] (by decide +kernel) (by decide +kernel)
set_option maxRecDepth 20000 in
theorem in_wsX30 : GoodIn lw_tbl wsX30 := goodIn_p wsX30 [] (by decide +kernel) (by decide +kernel)
set_option maxRecDepth 20000 in
theorem in_wsX00 : GoodIn lw_tbl wsX00 := goodIn_p wsX00 [] (by decide +kernel) (by decide +kernel)
theorem wsL_law_good0 : GoodIn lw_tbl wsL_law0 := (goodIn_app (goodIn_app (goodIn_app (goodIn_app (goodIn_app (goodIn_app (goodIn_app (goodIn_app in_wsL_law0_r1 (goodIn_app in_wsL_law0_r2 (goodIn_app in_wsL_law0_r3 (goodIn_app in_wsL_law0_r4 (goodIn_app in_wsL_law0_r5 (goodIn_app in_wsL_law0_r6 (goodIn_app in_wsL_law0_r7 (goodIn_app in_wsL_law0_r8 (goodIn_app in_wsL_law0_r9 (goodIn_app in_wsL_law0_r10 (goodIn_app in_wsL_law0_r11 (goodIn_app in_wsL_law0_r12 (goodIn_app in_wsL_law0_r13 (goodIn_app in_wsL_law0_r14 (goodIn_app in_wsL_law0_r15 (goodIn_app in_wsL_law0_r16 (goodIn_app in_wsL_law0_r17 (goodIn_app in_wsL_law0_r18 (goodIn_app in_wsL_law0_r19 (goodIn_app in_wsL_law0_r20 (goodIn_app in_wsL_law0_r21 (goodIn_app in_wsL_law0_r22 (goodIn_app in_wsL_law0_r23 (goodIn_app in_wsL_law0_r24 (goodIn_app in_wsL_law0_r25 (goodIn_app in_wsL_law0_r26 (goodIn_app in_wsL_law0_r27 (goodIn_app in_wsL_law0_r28 (goodIn_app in_wsL_law0_r29 (goodIn_app in_wsL_law0_r30 in_wsL_law0_r31)))))))))))))))))))))))))))))) in_wsX40) in_wsX50) in_wsX20) in_wsX10) in_wsX30) in_wsX00) (fun w h => absurd h List.not_mem_nil))
theorem wsL_law_in0 : ∀ w ∈ wsL_law0, w ∈ lw_tbl := fun w h => (wsL_law_good0 w h).1
theorem wsL_law_x0 : ∀ w ∈ (vx_atS RX4 49 "java/lang/IndexOutOfBoundsException" ["java/lang/RuntimeException", "java/lang/Exception"]).filter goodWord, w ∈ lw_tbl := by decide +kernel
theorem wsL_law_x1 : ∀ w ∈ (vx_atS RX4 56 "java/lang/IllegalArgumentException" ["java/lang/RuntimeException", "java/lang/Exception"]).filter goodWord, w ∈ lw_tbl := by decide +kernel
theorem wsL_law_x2 : ∀ w ∈ (vx_atS RX4 126 "java/lang/IllegalStateException" ["java/lang/RuntimeException", "java/lang/Exception"]).filter goodWord, w ∈ lw_tbl := by decide +kernel
theorem wsL_law_in : ∀ w ∈ wsL_law, w ∈ lw_tbl := fun w h => (List.mem_append.mp h).elim (fun h => (List.mem_append.mp h).elim (fun h => (List.mem_append.mp h).elim (fun h => wsL_law_in0 w h) (fun h => wsL_law_x0 w h)) (fun h => wsL_law_x1 w h)) (fun h => wsL_law_x2 w h)
theorem inlX0 : ∀ w ∈ wsX00, w ∈ wsL_law := fun _ h => List.mem_append_left _ (List.mem_append_left _ (List.mem_append_left _ (List.mem_append_left _ (List.mem_append_right _ h))))
theorem inX0 : ∀ w ∈ wsX00, w ∈ lw_tbl := fun w h => wsL_law_in w (inlX0 w h)
theorem inlX1 : ∀ w ∈ wsX10, w ∈ wsL_law := fun _ h => List.mem_append_left _ (List.mem_append_left _ (List.mem_append_left _ (List.mem_append_left _ (List.mem_append_left _ (List.mem_append_left _ (List.mem_append_right _ h))))))
theorem inX1 : ∀ w ∈ wsX10, w ∈ lw_tbl := fun w h => wsL_law_in w (inlX1 w h)
theorem inlX2 : ∀ w ∈ wsX20, w ∈ wsL_law := fun _ h => List.mem_append_left _ (List.mem_append_left _ (List.mem_append_left _ (List.mem_append_left _ (List.mem_append_left _ (List.mem_append_left _ (List.mem_append_left _ (List.mem_append_right _ h)))))))
theorem inX2 : ∀ w ∈ wsX20, w ∈ lw_tbl := fun w h => wsL_law_in w (inlX2 w h)
theorem inlX3 : ∀ w ∈ wsX30, w ∈ wsL_law := fun _ h => List.mem_append_left _ (List.mem_append_left _ (List.mem_append_left _ (List.mem_append_left _ (List.mem_append_left _ (List.mem_append_right _ h)))))
theorem inX3 : ∀ w ∈ wsX30, w ∈ lw_tbl := fun w h => wsL_law_in w (inlX3 w h)
theorem inlX4 : ∀ w ∈ wsX40, w ∈ wsL_law := fun _ h => List.mem_append_left _ (List.mem_append_left _ (List.mem_append_left _ (List.mem_append_left _ (List.mem_append_left _ (List.mem_append_left _ (List.mem_append_left _ (List.mem_append_left _ (List.mem_append_left _ (List.mem_append_right _ h)))))))))
theorem inX4 : ∀ w ∈ wsX40, w ∈ lw_tbl := fun w h => wsL_law_in w (inlX4 w h)
theorem inlX5 : ∀ w ∈ wsX50, w ∈ wsL_law := fun _ h => List.mem_append_left _ (List.mem_append_left _ (List.mem_append_left _ (List.mem_append_left _ (List.mem_append_left _ (List.mem_append_left _ (List.mem_append_left _ (List.mem_append_left _ (List.mem_append_right _ h))))))))
theorem inX5 : ∀ w ∈ wsX50, w ∈ lw_tbl := fun w h => wsL_law_in w (inlX5 w h)
theorem inJxe99ae : ∀ w ∈ wsJxe99ae0, w ∈ lw_tbl := by decide +kernel
theorem inJ0 : ∀ w ∈ wsJ00, w ∈ lw_tbl := by decide +kernel
theorem inJ10 : ∀ w ∈ wsJ100, w ∈ lw_tbl := by decide +kernel
end
section
theorem dX0_init_0 : decode cX0_init 0 = .ok (.aload_n 0, 1) := by decide +kernel
theorem dX0_init_1 : decode cX0_init 1 = .ok (.invokespecial 3, 3) := by decide +kernel
theorem dX0_init_4 : decode cX0_init 4 = .ok (.aload_n 0, 1) := by decide +kernel
theorem dX0_init_5 : decode cX0_init 5 = .ok (.bipush 6, 2) := by decide +kernel
theorem dX0_init_7 : decode cX0_init 7 = .ok (.anewarray 9, 3) := by decide +kernel
theorem dX0_init_10 : decode cX0_init 10 = .ok (.putfield 11, 3) := by decide +kernel
theorem dX0_init_13 : decode cX0_init 13 = .ok (.return_, 1) := by decide +kernel
set_option maxRecDepth 20000 in
theorem ggX0_save_X0_dropOldest : GoodIn wsX0_save wsX0_dropOldest := goodIn_r _ [10, 2, 1, 38, 39] (by decide +kernel) (by decide +kernel)
set_option maxRecDepth 20000 in
theorem gX0_save_X0_dropOldest : GoodIn wsX0_save (wsV RX0 21 RX0 yX0_dropOldest wsX0_dropOldest) := goodIn_app (goodIn_of _ (by decide +kernel)) ggX0_save_X0_dropOldest
set_option maxRecDepth 20000 in
theorem ggX0_save_X2_init : GoodIn wsX0_save wsX2_init := goodIn_r _ [12, 13, 14, 15, 16, 17, 18, 19, 20, 21, 22, 23, 40, 41, 42, 43, 44, 45, 46, 47, 48, 49, 50, 51, 52] (by decide +kernel) (by decide +kernel)
set_option maxRecDepth 20000 in
theorem gX0_save_X2_init_n24 : GoodIn wsX0_save (wsX2_init) := ggX0_save_X2_init
set_option maxRecDepth 20000 in
theorem ggX0_save_X2_copyFrom : GoodIn wsX0_save wsX2_copyFrom := goodIn_r _ [27, 17, 28, 29, 30, 31, 18, 19, 20, 21, 22, 23, 32, 33, 34, 35, 36, 37, 40, 41, 42, 43, 44, 45, 46, 47, 48, 49, 50, 51, 52] (by decide +kernel) (by decide +kernel)
set_option maxRecDepth 20000 in
theorem gX0_save_X2_copyFrom : GoodIn wsX0_save (wsV RX0 25 RX2 yX2_copyFrom wsX2_copyFrom) := goodIn_app (goodIn_of _ (by decide +kernel)) ggX0_save_X2_copyFrom
theorem dX0_save_0 : decode cX0_save 0 = .ok (.aload_n 0, 1) := by decide +kernel
theorem dX0_save_1 : decode cX0_save 1 = .ok (.getfield 17, 3) := by decide +kernel
theorem dX0_save_4 : decode cX0_save 4 = .ok (.bipush 6, 2) := by decide +kernel
theorem dX0_save_6 : decode cX0_save 6 = .ok (.if_icmp .lt 7, 3) := by decide +kernel
theorem dX0_save_9 : decode cX0_save 9 = .ok (.aload_n 0, 1) := by decide +kernel
theorem dX0_save_10 : decode cX0_save 10 = .ok (.invokevirtual 21, 3) := by decide +kernel
theorem dX0_save_13 : decode cX0_save 13 = .ok (.aload_n 0, 1) := by decide +kernel
theorem dX0_save_14 : decode cX0_save 14 = .ok (.getfield 17, 3) := by decide +kernel
theorem dX0_save_17 : decode cX0_save 17 = .ok (.ifCond .lt 12, 3) := by decide +kernel
theorem dX0_save_20 : decode cX0_save 20 = .ok (.aload_n 0, 1) := by decide +kernel
theorem dX0_save_21 : decode cX0_save 21 = .ok (.getfield 17, 3) := by decide +kernel
theorem dX0_save_24 : decode cX0_save 24 = .ok (.bipush 6, 2) := by decide +kernel
theorem dX0_save_26 : decode cX0_save 26 = .ok (.if_icmp .lt 4, 3) := by decide +kernel
theorem dX0_save_29 : decode cX0_save 29 = .ok (.return_, 1) := by decide +kernel
theorem dX0_save_30 : decode cX0_save 30 = .ok (.aload_n 0, 1) := by decide +kernel
theorem dX0_save_31 : decode cX0_save 31 = .ok (.getfield 11, 3) := by decide +kernel
theorem dX0_save_34 : decode cX0_save 34 = .ok (.aload_n 0, 1) := by decide +kernel
theorem dX0_save_35 : decode cX0_save 35 = .ok (.getfield 17, 3) := by decide +kernel
theorem dX0_save_38 : decode cX0_save 38 = .ok (.aaload, 1) := by decide +kernel
theorem dX0_save_39 : decode cX0_save 39 = .ok (.astore_n 2, 1) := by decide +kernel
theorem dX0_save_40 : decode cX0_save 40 = .ok (.aload_n 2, 1) := by decide +kernel
theorem dX0_save_41 : decode cX0_save 41 = .ok (.ifnonnull 21, 3) := by decide +kernel
theorem dX0_save_44 : decode cX0_save 44 = .ok (.new 9, 3) := by decide +kernel
theorem dX0_save_47 : decode cX0_save 47 = .ok (.dup, 1) := by decide +kernel
theorem dX0_save_48 : decode cX0_save 48 = .ok (.invokespecial 24, 3) := by decide +kernel
theorem dX0_save_51 : decode cX0_save 51 = .ok (.astore_n 2, 1) := by decide +kernel
theorem dX0_save_52 : decode cX0_save 52 = .ok (.aload_n 0, 1) := by decide +kernel
theorem dX0_save_53 : decode cX0_save 53 = .ok (.getfield 11, 3) := by decide +kernel
theorem dX0_save_56 : decode cX0_save 56 = .ok (.aload_n 0, 1) := by decide +kernel
theorem dX0_save_57 : decode cX0_save 57 = .ok (.getfield 17, 3) := by decide +kernel
theorem dX0_save_60 : decode cX0_save 60 = .ok (.aload_n 2, 1) := by decide +kernel
theorem dX0_save_61 : decode cX0_save 61 = .ok (.aastore, 1) := by decide +kernel
theorem dX0_save_62 : decode cX0_save 62 = .ok (.aload_n 2, 1) := by decide +kernel
theorem dX0_save_63 : decode cX0_save 63 = .ok (.aload_n 1, 1) := by decide +kernel
theorem dX0_save_64 : decode cX0_save 64 = .ok (.invokevirtual 25, 3) := by decide +kernel
theorem dX0_save_67 : decode cX0_save 67 = .ok (.aload_n 0, 1) := by decide +kernel
theorem dX0_save_68 : decode cX0_save 68 = .ok (.dup, 1) := by decide +kernel
theorem dX0_save_69 : decode cX0_save 69 = .ok (.getfield 17, 3) := by decide +kernel
theorem dX0_save_72 : decode cX0_save 72 = .ok (.iconst 1, 1) := by decide +kernel
theorem dX0_save_73 : decode cX0_save 73 = .ok (.iadd, 1) := by decide +kernel
theorem dX0_save_74 : decode cX0_save 74 = .ok (.putfield 17, 3) := by decide +kernel
theorem dX0_save_77 : decode cX0_save 77 = .ok (.return_, 1) := by decide +kernel
theorem dX0_dropOldest_0 : decode cX0_dropOldest 0 = .ok (.aload_n 0, 1) := by decide +kernel
theorem dX0_dropOldest_1 : decode cX0_dropOldest 1 = .ok (.getfield 11, 3) := by decide +kernel
theorem dX0_dropOldest_4 : decode cX0_dropOldest 4 = .ok (.iconst 0, 1) := by decide +kernel
theorem dX0_dropOldest_5 : decode cX0_dropOldest 5 = .ok (.aaload, 1) := by decide +kernel
theorem dX0_dropOldest_6 : decode cX0_dropOldest 6 = .ok (.astore_n 1, 1) := by decide +kernel
theorem dX0_dropOldest_7 : decode cX0_dropOldest 7 = .ok (.iconst 1, 1) := by decide +kernel
theorem dX0_dropOldest_8 : decode cX0_dropOldest 8 = .ok (.istore_n 2, 1) := by decide +kernel
theorem dX0_dropOldest_9 : decode cX0_dropOldest 9 = .ok (.iload_n 2, 1) := by decide +kernel
theorem dX0_dropOldest_10 : decode cX0_dropOldest 10 = .ok (.bipush 6, 2) := by decide +kernel
theorem dX0_dropOldest_12 : decode cX0_dropOldest 12 = .ok (.if_icmp .ge 23, 3) := by decide +kernel
theorem dX0_dropOldest_15 : decode cX0_dropOldest 15 = .ok (.aload_n 0, 1) := by decide +kernel
theorem dX0_dropOldest_16 : decode cX0_dropOldest 16 = .ok (.getfield 11, 3) := by decide +kernel
theorem dX0_dropOldest_19 : decode cX0_dropOldest 19 = .ok (.iload_n 2, 1) := by decide +kernel
theorem dX0_dropOldest_20 : decode cX0_dropOldest 20 = .ok (.iconst 1, 1) := by decide +kernel
theorem dX0_dropOldest_21 : decode cX0_dropOldest 21 = .ok (.isub, 1) := by decide +kernel
theorem dX0_dropOldest_22 : decode cX0_dropOldest 22 = .ok (.aload_n 0, 1) := by decide +kernel
theorem dX0_dropOldest_23 : decode cX0_dropOldest 23 = .ok (.getfield 11, 3) := by decide +kernel
theorem dX0_dropOldest_26 : decode cX0_dropOldest 26 = .ok (.iload_n 2, 1) := by decide +kernel
theorem dX0_dropOldest_27 : decode cX0_dropOldest 27 = .ok (.aaload, 1) := by decide +kernel
theorem dX0_dropOldest_28 : decode cX0_dropOldest 28 = .ok (.aastore, 1) := by decide +kernel
theorem dX0_dropOldest_29 : decode cX0_dropOldest 29 = .ok (.iinc 2 1, 3) := by decide +kernel
theorem dX0_dropOldest_32 : decode cX0_dropOldest 32 = .ok (.goto (-23), 3) := by decide +kernel
theorem dX0_dropOldest_35 : decode cX0_dropOldest 35 = .ok (.aload_n 0, 1) := by decide +kernel
theorem dX0_dropOldest_36 : decode cX0_dropOldest 36 = .ok (.getfield 11, 3) := by decide +kernel
theorem dX0_dropOldest_39 : decode cX0_dropOldest 39 = .ok (.iconst 5, 1) := by decide +kernel
theorem dX0_dropOldest_40 : decode cX0_dropOldest 40 = .ok (.aload_n 1, 1) := by decide +kernel
theorem dX0_dropOldest_41 : decode cX0_dropOldest 41 = .ok (.aastore, 1) := by decide +kernel
theorem dX0_dropOldest_42 : decode cX0_dropOldest 42 = .ok (.aload_n 0, 1) := by decide +kernel
theorem dX0_dropOldest_43 : decode cX0_dropOldest 43 = .ok (.iconst 5, 1) := by decide +kernel
theorem dX0_dropOldest_44 : decode cX0_dropOldest 44 = .ok (.putfield 17, 3) := by decide +kernel
theorem dX0_dropOldest_47 : decode cX0_dropOldest 47 = .ok (.return_, 1) := by decide +kernel
theorem dX0_latest_0 : decode cX0_latest 0 = .ok (.aload_n 0, 1) := by decide +kernel
theorem dX0_latest_1 : decode cX0_latest 1 = .ok (.getfield 17, 3) := by decide +kernel
theorem dX0_latest_4 : decode cX0_latest 4 = .ok (.ifCond .le 26, 3) := by decide +kernel
theorem dX0_latest_7 : decode cX0_latest 7 = .ok (.aload_n 0, 1) := by decide +kernel
theorem dX0_latest_8 : decode cX0_latest 8 = .ok (.getfield 17, 3) := by decide +kernel
theorem dX0_latest_11 : decode cX0_latest 11 = .ok (.bipush 6, 2) := by decide +kernel
theorem dX0_latest_13 : decode cX0_latest 13 = .ok (.if_icmp .gt 17, 3) := by decide +kernel
theorem dX0_latest_16 : decode cX0_latest 16 = .ok (.aload_n 0, 1) := by decide +kernel
theorem dX0_latest_17 : decode cX0_latest 17 = .ok (.getfield 11, 3) := by decide +kernel
theorem dX0_latest_20 : decode cX0_latest 20 = .ok (.aload_n 0, 1) := by decide +kernel
theorem dX0_latest_21 : decode cX0_latest 21 = .ok (.getfield 17, 3) := by decide +kernel
theorem dX0_latest_24 : decode cX0_latest 24 = .ok (.iconst 1, 1) := by decide +kernel
theorem dX0_latest_25 : decode cX0_latest 25 = .ok (.isub, 1) := by decide +kernel
theorem dX0_latest_26 : decode cX0_latest 26 = .ok (.aaload, 1) := by decide +kernel
theorem dX0_latest_27 : decode cX0_latest 27 = .ok (.goto 4, 3) := by decide +kernel
theorem dX0_latest_30 : decode cX0_latest 30 = .ok (.aconst_null, 1) := by decide +kernel
theorem dX0_latest_31 : decode cX0_latest 31 = .ok (.areturn, 1) := by decide +kernel
theorem dX0_forgetLatest_0 : decode cX0_forgetLatest 0 = .ok (.aload_n 0, 1) := by decide +kernel
theorem dX0_forgetLatest_1 : decode cX0_forgetLatest 1 = .ok (.getfield 17, 3) := by decide +kernel
theorem dX0_forgetLatest_4 : decode cX0_forgetLatest 4 = .ok (.ifCond .le 13, 3) := by decide +kernel
theorem dX0_forgetLatest_7 : decode cX0_forgetLatest 7 = .ok (.aload_n 0, 1) := by decide +kernel
theorem dX0_forgetLatest_8 : decode cX0_forgetLatest 8 = .ok (.dup, 1) := by decide +kernel
theorem dX0_forgetLatest_9 : decode cX0_forgetLatest 9 = .ok (.getfield 17, 3) := by decide +kernel
theorem dX0_forgetLatest_12 : decode cX0_forgetLatest 12 = .ok (.iconst 1, 1) := by decide +kernel
theorem dX0_forgetLatest_13 : decode cX0_forgetLatest 13 = .ok (.isub, 1) := by decide +kernel
theorem dX0_forgetLatest_14 : decode cX0_forgetLatest 14 = .ok (.putfield 17, 3) := by decide +kernel
theorem dX0_forgetLatest_17 : decode cX0_forgetLatest 17 = .ok (.return_, 1) := by decide +kernel
theorem dX1_init_0 : decode cX1_init 0 = .ok (.aload_n 0, 1) := by decide +kernel
theorem dX1_init_1 : decode cX1_init 1 = .ok (.invokespecial 3, 3) := by decide +kernel
theorem dX1_init_4 : decode cX1_init 4 = .ok (.aload_n 0, 1) := by decide +kernel
theorem dX1_init_5 : decode cX1_init 5 = .ok (.bipush 8, 2) := by decide +kernel
theorem dX1_init_7 : decode cX1_init 7 = .ok (.newarray .int, 2) := by decide +kernel
theorem dX1_init_9 : decode cX1_init 9 = .ok (.putfield 9, 3) := by decide +kernel
theorem dX1_init_12 : decode cX1_init 12 = .ok (.aload_n 0, 1) := by decide +kernel
theorem dX1_init_13 : decode cX1_init 13 = .ok (.bipush 8, 2) := by decide +kernel
theorem dX1_init_15 : decode cX1_init 15 = .ok (.newarray .int, 2) := by decide +kernel
theorem dX1_init_17 : decode cX1_init 17 = .ok (.putfield 15, 3) := by decide +kernel
theorem dX1_init_20 : decode cX1_init 20 = .ok (.aload_n 0, 1) := by decide +kernel
theorem dX1_init_21 : decode cX1_init 21 = .ok (.bipush 120, 2) := by decide +kernel
theorem dX1_init_23 : decode cX1_init 23 = .ok (.newarray .int, 2) := by decide +kernel
theorem dX1_init_25 : decode cX1_init 25 = .ok (.putfield 18, 3) := by decide +kernel
theorem dX1_init_28 : decode cX1_init 28 = .ok (.return_, 1) := by decide +kernel
set_option maxRecDepth 20000 in
theorem ggX1_goThrough_X1_passWire : GoodIn wsX1_goThrough wsX1_passWire := goodIn_r _ [20, 7, 9, 2, 21, 22, 23, 24, 64, 65, 66, 67, 68, 69] (by decide +kernel) (by decide +kernel)
set_option maxRecDepth 20000 in
theorem gX1_goThrough_X1_passWire : GoodIn wsX1_goThrough (wsV RX1 46 RX1 yX1_passWire wsX1_passWire) := goodIn_app (goodIn_of _ (by decide +kernel)) ggX1_goThrough_X1_passWire
set_option maxRecDepth 20000 in
theorem ggX1_goThrough_X2_takesWords : GoodIn wsX1_goThrough wsX2_takesWords := goodIn_r _ [28, 29, 51, 52, 53, 54, 55, 56, 57, 58, 59, 60, 61, 62, 63] (by decide +kernel) (by decide +kernel)
set_option maxRecDepth 20000 in
theorem gX1_goThrough_X2_takesWords : GoodIn wsX1_goThrough (wsV RX1 53 RX2 yX2_takesWords wsX2_takesWords) := goodIn_app (goodIn_of _ (by decide +kernel)) ggX1_goThrough_X2_takesWords
set_option maxRecDepth 20000 in
theorem ggX1_goThrough_X1_passTaker : GoodIn wsX1_goThrough wsX1_passTaker := goodIn_r _ [33, 9, 7, 13, 2, 34, 35, 36, 19, 37, 10, 38, 39, 40, 23, 41, 42, 43, 44, 45, 46, 47, 48, 49, 50, 64, 65, 66, 67, 68, 69, 51, 52, 53, 54, 55, 56, 57, 58, 59, 60, 61, 62, 63] (by decide +kernel) (by decide +kernel)
set_option maxRecDepth 20000 in
theorem gX1_goThrough_X1_passTaker : GoodIn wsX1_goThrough (wsV RX1 57 RX1 yX1_passTaker wsX1_passTaker) := goodIn_app (goodIn_of _ (by decide +kernel)) ggX1_goThrough_X1_passTaker
theorem dX1_goThrough_0 : decode cX1_goThrough 0 = .ok (.aload_n 1, 1) := by decide +kernel
theorem dX1_goThrough_1 : decode cX1_goThrough 1 = .ok (.getfield 21, 3) := by decide +kernel
theorem dX1_goThrough_4 : decode cX1_goThrough 4 = .ok (.iconst 0, 1) := by decide +kernel
theorem dX1_goThrough_5 : decode cX1_goThrough 5 = .ok (.aload_n 0, 1) := by decide +kernel
theorem dX1_goThrough_6 : decode cX1_goThrough 6 = .ok (.getfield 18, 3) := by decide +kernel
theorem dX1_goThrough_9 : decode cX1_goThrough 9 = .ok (.iconst 0, 1) := by decide +kernel
theorem dX1_goThrough_10 : decode cX1_goThrough 10 = .ok (.bipush 120, 2) := by decide +kernel
theorem dX1_goThrough_12 : decode cX1_goThrough 12 = .ok (.invokestatic 24, 3) := by decide +kernel
theorem dX1_goThrough_15 : decode cX1_goThrough 15 = .ok (.aload_n 0, 1) := by decide +kernel
theorem dX1_goThrough_16 : decode cX1_goThrough 16 = .ok (.iconst 0, 1) := by decide +kernel
theorem dX1_goThrough_17 : decode cX1_goThrough 17 = .ok (.putfield 30, 3) := by decide +kernel
theorem dX1_goThrough_20 : decode cX1_goThrough 20 = .ok (.aload_n 0, 1) := by decide +kernel
theorem dX1_goThrough_21 : decode cX1_goThrough 21 = .ok (.aload_n 1, 1) := by decide +kernel
theorem dX1_goThrough_22 : decode cX1_goThrough 22 = .ok (.getfield 34, 3) := by decide +kernel
theorem dX1_goThrough_25 : decode cX1_goThrough 25 = .ok (.bipush 120, 2) := by decide +kernel
theorem dX1_goThrough_27 : decode cX1_goThrough 27 = .ok (.if_icmp .ge 10, 3) := by decide +kernel
theorem dX1_goThrough_30 : decode cX1_goThrough 30 = .ok (.aload_n 1, 1) := by decide +kernel
theorem dX1_goThrough_31 : decode cX1_goThrough 31 = .ok (.getfield 34, 3) := by decide +kernel
theorem dX1_goThrough_34 : decode cX1_goThrough 34 = .ok (.goto 5, 3) := by decide +kernel
theorem dX1_goThrough_37 : decode cX1_goThrough 37 = .ok (.bipush 120, 2) := by decide +kernel
theorem dX1_goThrough_39 : decode cX1_goThrough 39 = .ok (.putfield 37, 3) := by decide +kernel
theorem dX1_goThrough_42 : decode cX1_goThrough 42 = .ok (.aload_n 0, 1) := by decide +kernel
theorem dX1_goThrough_43 : decode cX1_goThrough 43 = .ok (.iconst 0, 1) := by decide +kernel
theorem dX1_goThrough_44 : decode cX1_goThrough 44 = .ok (.putfield 40, 3) := by decide +kernel
theorem dX1_goThrough_47 : decode cX1_goThrough 47 = .ok (.iconst 0, 1) := by decide +kernel
theorem dX1_goThrough_48 : decode cX1_goThrough 48 = .ok (.istore_n 2, 1) := by decide +kernel
theorem dX1_goThrough_49 : decode cX1_goThrough 49 = .ok (.iload_n 2, 1) := by decide +kernel
theorem dX1_goThrough_50 : decode cX1_goThrough 50 = .ok (.bipush 8, 2) := by decide +kernel
theorem dX1_goThrough_52 : decode cX1_goThrough 52 = .ok (.if_icmp .ge 81, 3) := by decide +kernel
theorem dX1_goThrough_55 : decode cX1_goThrough 55 = .ok (.aload_n 0, 1) := by decide +kernel
theorem dX1_goThrough_56 : decode cX1_goThrough 56 = .ok (.aload_n 1, 1) := by decide +kernel
theorem dX1_goThrough_57 : decode cX1_goThrough 57 = .ok (.getfield 43, 3) := by decide +kernel
theorem dX1_goThrough_60 : decode cX1_goThrough 60 = .ok (.iload_n 2, 1) := by decide +kernel
theorem dX1_goThrough_61 : decode cX1_goThrough 61 = .ok (.iaload, 1) := by decide +kernel
theorem dX1_goThrough_62 : decode cX1_goThrough 62 = .ok (.invokevirtual 46, 3) := by decide +kernel
theorem dX1_goThrough_65 : decode cX1_goThrough 65 = .ok (.aload_n 0, 1) := by decide +kernel
theorem dX1_goThrough_66 : decode cX1_goThrough 66 = .ok (.getfield 9, 3) := by decide +kernel
theorem dX1_goThrough_69 : decode cX1_goThrough 69 = .ok (.iload_n 2, 1) := by decide +kernel
theorem dX1_goThrough_70 : decode cX1_goThrough 70 = .ok (.aload_n 0, 1) := by decide +kernel
theorem dX1_goThrough_71 : decode cX1_goThrough 71 = .ok (.getfield 37, 3) := by decide +kernel
theorem dX1_goThrough_74 : decode cX1_goThrough 74 = .ok (.aload_n 0, 1) := by decide +kernel
theorem dX1_goThrough_75 : decode cX1_goThrough 75 = .ok (.getfield 30, 3) := by decide +kernel
theorem dX1_goThrough_78 : decode cX1_goThrough 78 = .ok (.isub, 1) := by decide +kernel
theorem dX1_goThrough_79 : decode cX1_goThrough 79 = .ok (.iastore, 1) := by decide +kernel
theorem dX1_goThrough_80 : decode cX1_goThrough 80 = .ok (.aload_n 0, 1) := by decide +kernel
theorem dX1_goThrough_81 : decode cX1_goThrough 81 = .ok (.getfield 15, 3) := by decide +kernel
theorem dX1_goThrough_84 : decode cX1_goThrough 84 = .ok (.iload_n 2, 1) := by decide +kernel
theorem dX1_goThrough_85 : decode cX1_goThrough 85 = .ok (.aload_n 1, 1) := by decide +kernel
theorem dX1_goThrough_86 : decode cX1_goThrough 86 = .ok (.getfield 50, 3) := by decide +kernel
theorem dX1_goThrough_89 : decode cX1_goThrough 89 = .ok (.iload_n 2, 1) := by decide +kernel
theorem dX1_goThrough_90 : decode cX1_goThrough 90 = .ok (.iaload, 1) := by decide +kernel
theorem dX1_goThrough_91 : decode cX1_goThrough 91 = .ok (.iastore, 1) := by decide +kernel
theorem dX1_goThrough_92 : decode cX1_goThrough 92 = .ok (.aload_n 1, 1) := by decide +kernel
theorem dX1_goThrough_93 : decode cX1_goThrough 93 = .ok (.iload_n 2, 1) := by decide +kernel
theorem dX1_goThrough_94 : decode cX1_goThrough 94 = .ok (.invokevirtual 53, 3) := by decide +kernel
theorem dX1_goThrough_97 : decode cX1_goThrough 97 = .ok (.ifCond .eq 12, 3) := by decide +kernel
theorem dX1_goThrough_100 : decode cX1_goThrough 100 = .ok (.aload_n 0, 1) := by decide +kernel
theorem dX1_goThrough_101 : decode cX1_goThrough 101 = .ok (.aload_n 1, 1) := by decide +kernel
theorem dX1_goThrough_102 : decode cX1_goThrough 102 = .ok (.iload_n 2, 1) := by decide +kernel
theorem dX1_goThrough_103 : decode cX1_goThrough 103 = .ok (.invokevirtual 57, 3) := by decide +kernel
theorem dX1_goThrough_106 : decode cX1_goThrough 106 = .ok (.goto 21, 3) := by decide +kernel
theorem dX1_goThrough_109 : decode cX1_goThrough 109 = .ok (.aload_n 1, 1) := by decide +kernel
theorem dX1_goThrough_110 : decode cX1_goThrough 110 = .ok (.getfield 61, 3) := by decide +kernel
theorem dX1_goThrough_113 : decode cX1_goThrough 113 = .ok (.iload_n 2, 1) := by decide +kernel
theorem dX1_goThrough_114 : decode cX1_goThrough 114 = .ok (.iaload, 1) := by decide +kernel
theorem dX1_goThrough_115 : decode cX1_goThrough 115 = .ok (.iconst 2, 1) := by decide +kernel
theorem dX1_goThrough_116 : decode cX1_goThrough 116 = .ok (.if_icmp .ne 11, 3) := by decide +kernel
theorem dX1_goThrough_119 : decode cX1_goThrough 119 = .ok (.aload_n 0, 1) := by decide +kernel
theorem dX1_goThrough_120 : decode cX1_goThrough 120 = .ok (.aload_n 0, 1) := by decide +kernel
theorem dX1_goThrough_121 : decode cX1_goThrough 121 = .ok (.getfield 37, 3) := by decide +kernel
theorem dX1_goThrough_124 : decode cX1_goThrough 124 = .ok (.putfield 30, 3) := by decide +kernel
theorem dX1_goThrough_127 : decode cX1_goThrough 127 = .ok (.iinc 2 1, 3) := by decide +kernel
theorem dX1_goThrough_130 : decode cX1_goThrough 130 = .ok (.goto (-81), 3) := by decide +kernel
theorem dX1_goThrough_133 : decode cX1_goThrough 133 = .ok (.return_, 1) := by decide +kernel
set_option maxRecDepth 20000 in
theorem ggX1_passWire_X2_shortened : GoodIn wsX1_passWire wsX2_shortened := goodIn_r _ [7] (by decide +kernel) (by decide +kernel)
set_option maxRecDepth 20000 in
theorem gX1_passWire_X2_shortened : GoodIn wsX1_passWire (va_wsS RX1 64 yX2_shortened wsX2_shortened) := goodIn_app (goodIn_of _ (by decide +kernel)) ggX1_passWire_X2_shortened
theorem dX1_passWire_0 : decode cX1_passWire 0 = .ok (.aload_n 0, 1) := by decide +kernel
theorem dX1_passWire_1 : decode cX1_passWire 1 = .ok (.getfield 30, 3) := by decide +kernel
theorem dX1_passWire_4 : decode cX1_passWire 4 = .ok (.istore_n 2, 1) := by decide +kernel
theorem dX1_passWire_5 : decode cX1_passWire 5 = .ok (.iload_n 2, 1) := by decide +kernel
theorem dX1_passWire_6 : decode cX1_passWire 6 = .ok (.ifCond .lt 39, 3) := by decide +kernel
theorem dX1_passWire_9 : decode cX1_passWire 9 = .ok (.iload_n 2, 1) := by decide +kernel
theorem dX1_passWire_10 : decode cX1_passWire 10 = .ok (.aload_n 0, 1) := by decide +kernel
theorem dX1_passWire_11 : decode cX1_passWire 11 = .ok (.getfield 37, 3) := by decide +kernel
theorem dX1_passWire_14 : decode cX1_passWire 14 = .ok (.if_icmp .ge 31, 3) := by decide +kernel
theorem dX1_passWire_17 : decode cX1_passWire 17 = .ok (.iload_n 2, 1) := by decide +kernel
theorem dX1_passWire_18 : decode cX1_passWire 18 = .ok (.bipush 120, 2) := by decide +kernel
theorem dX1_passWire_20 : decode cX1_passWire 20 = .ok (.if_icmp .ge 25, 3) := by decide +kernel
theorem dX1_passWire_23 : decode cX1_passWire 23 = .ok (.aload_n 0, 1) := by decide +kernel
theorem dX1_passWire_24 : decode cX1_passWire 24 = .ok (.getfield 18, 3) := by decide +kernel
theorem dX1_passWire_27 : decode cX1_passWire 27 = .ok (.iload_n 2, 1) := by decide +kernel
theorem dX1_passWire_28 : decode cX1_passWire 28 = .ok (.aload_n 0, 1) := by decide +kernel
theorem dX1_passWire_29 : decode cX1_passWire 29 = .ok (.getfield 18, 3) := by decide +kernel
theorem dX1_passWire_32 : decode cX1_passWire 32 = .ok (.iload_n 2, 1) := by decide +kernel
theorem dX1_passWire_33 : decode cX1_passWire 33 = .ok (.iaload, 1) := by decide +kernel
theorem dX1_passWire_34 : decode cX1_passWire 34 = .ok (.iload_n 1, 1) := by decide +kernel
theorem dX1_passWire_35 : decode cX1_passWire 35 = .ok (.invokestatic 64, 3) := by decide +kernel
theorem dX1_passWire_38 : decode cX1_passWire 38 = .ok (.iastore, 1) := by decide +kernel
theorem dX1_passWire_39 : decode cX1_passWire 39 = .ok (.iinc 2 1, 3) := by decide +kernel
theorem dX1_passWire_42 : decode cX1_passWire 42 = .ok (.goto (-37), 3) := by decide +kernel
theorem dX1_passWire_45 : decode cX1_passWire 45 = .ok (.return_, 1) := by decide +kernel
set_option maxRecDepth 20000 in
theorem ggX1_passTaker_X1_takeWord : GoodIn wsX1_passTaker wsX1_takeWord := goodIn_r _ [9, 2, 4, 10, 11, 12, 13, 14, 15, 16, 25, 26, 27, 28, 29, 30, 31, 32, 33, 34, 35, 36, 37, 38, 39, 40, 41, 42, 43] (by decide +kernel) (by decide +kernel)
set_option maxRecDepth 20000 in
theorem gX1_passTaker_X1_takeWord : GoodIn wsX1_passTaker (wsV RX1 68 RX1 yX1_takeWord wsX1_takeWord) := goodIn_app (goodIn_of _ (by decide +kernel)) ggX1_passTaker_X1_takeWord
set_option maxRecDepth 20000 in
theorem ggX1_passTaker_X2_handedOn : GoodIn wsX1_passTaker wsX2_handedOn := goodIn_r _ [20, 16, 21, 12, 13, 14, 15, 22, 23, 24, 31, 32, 33, 34, 35, 36, 37, 38, 39, 40, 41, 42, 43] (by decide +kernel) (by decide +kernel)
set_option maxRecDepth 20000 in
theorem gX1_passTaker_X2_handedOn : GoodIn wsX1_passTaker (wsV RX1 72 RX2 yX2_handedOn wsX2_handedOn) := goodIn_app (goodIn_of _ (by decide +kernel)) ggX1_passTaker_X2_handedOn
theorem dX1_passTaker_0 : decode cX1_passTaker 0 = .ok (.aload_n 0, 1) := by decide +kernel
theorem dX1_passTaker_1 : decode cX1_passTaker 1 = .ok (.getfield 37, 3) := by decide +kernel
theorem dX1_passTaker_4 : decode cX1_passTaker 4 = .ok (.aload_n 0, 1) := by decide +kernel
theorem dX1_passTaker_5 : decode cX1_passTaker 5 = .ok (.getfield 30, 3) := by decide +kernel
theorem dX1_passTaker_8 : decode cX1_passTaker 8 = .ok (.isub, 1) := by decide +kernel
theorem dX1_passTaker_9 : decode cX1_passTaker 9 = .ok (.bipush 12, 2) := by decide +kernel
theorem dX1_passTaker_11 : decode cX1_passTaker 11 = .ok (.if_icmp .ge 12, 3) := by decide +kernel
theorem dX1_passTaker_14 : decode cX1_passTaker 14 = .ok (.aload_n 0, 1) := by decide +kernel
theorem dX1_passTaker_15 : decode cX1_passTaker 15 = .ok (.aload_n 0, 1) := by decide +kernel
theorem dX1_passTaker_16 : decode cX1_passTaker 16 = .ok (.getfield 37, 3) := by decide +kernel
theorem dX1_passTaker_19 : decode cX1_passTaker 19 = .ok (.putfield 30, 3) := by decide +kernel
theorem dX1_passTaker_22 : decode cX1_passTaker 22 = .ok (.return_, 1) := by decide +kernel
theorem dX1_passTaker_23 : decode cX1_passTaker 23 = .ok (.aload_n 0, 1) := by decide +kernel
theorem dX1_passTaker_24 : decode cX1_passTaker 24 = .ok (.getfield 15, 3) := by decide +kernel
theorem dX1_passTaker_27 : decode cX1_passTaker 27 = .ok (.iload_n 2, 1) := by decide +kernel
theorem dX1_passTaker_28 : decode cX1_passTaker 28 = .ok (.aload_n 0, 1) := by decide +kernel
theorem dX1_passTaker_29 : decode cX1_passTaker 29 = .ok (.aload_n 1, 1) := by decide +kernel
theorem dX1_passTaker_30 : decode cX1_passTaker 30 = .ok (.invokevirtual 68, 3) := by decide +kernel
theorem dX1_passTaker_33 : decode cX1_passTaker 33 = .ok (.iastore, 1) := by decide +kernel
theorem dX1_passTaker_34 : decode cX1_passTaker 34 = .ok (.aload_n 0, 1) := by decide +kernel
theorem dX1_passTaker_35 : decode cX1_passTaker 35 = .ok (.getfield 30, 3) := by decide +kernel
theorem dX1_passTaker_38 : decode cX1_passTaker 38 = .ok (.istore_n 3, 1) := by decide +kernel
theorem dX1_passTaker_39 : decode cX1_passTaker 39 = .ok (.iload_n 3, 1) := by decide +kernel
theorem dX1_passTaker_40 : decode cX1_passTaker 40 = .ok (.ifCond .lt 39, 3) := by decide +kernel
theorem dX1_passTaker_43 : decode cX1_passTaker 43 = .ok (.iload_n 3, 1) := by decide +kernel
theorem dX1_passTaker_44 : decode cX1_passTaker 44 = .ok (.aload_n 0, 1) := by decide +kernel
theorem dX1_passTaker_45 : decode cX1_passTaker 45 = .ok (.getfield 37, 3) := by decide +kernel
theorem dX1_passTaker_48 : decode cX1_passTaker 48 = .ok (.if_icmp .ge 31, 3) := by decide +kernel
theorem dX1_passTaker_51 : decode cX1_passTaker 51 = .ok (.iload_n 3, 1) := by decide +kernel
theorem dX1_passTaker_52 : decode cX1_passTaker 52 = .ok (.bipush 120, 2) := by decide +kernel
theorem dX1_passTaker_54 : decode cX1_passTaker 54 = .ok (.if_icmp .ge 25, 3) := by decide +kernel
theorem dX1_passTaker_57 : decode cX1_passTaker 57 = .ok (.aload_n 0, 1) := by decide +kernel
theorem dX1_passTaker_58 : decode cX1_passTaker 58 = .ok (.getfield 18, 3) := by decide +kernel
theorem dX1_passTaker_61 : decode cX1_passTaker 61 = .ok (.iload_n 3, 1) := by decide +kernel
theorem dX1_passTaker_62 : decode cX1_passTaker 62 = .ok (.aload_n 1, 1) := by decide +kernel
theorem dX1_passTaker_63 : decode cX1_passTaker 63 = .ok (.aload_n 0, 1) := by decide +kernel
theorem dX1_passTaker_64 : decode cX1_passTaker 64 = .ok (.getfield 18, 3) := by decide +kernel
theorem dX1_passTaker_67 : decode cX1_passTaker 67 = .ok (.iload_n 3, 1) := by decide +kernel
theorem dX1_passTaker_68 : decode cX1_passTaker 68 = .ok (.iaload, 1) := by decide +kernel
theorem dX1_passTaker_69 : decode cX1_passTaker 69 = .ok (.invokevirtual 72, 3) := by decide +kernel
theorem dX1_passTaker_72 : decode cX1_passTaker 72 = .ok (.iastore, 1) := by decide +kernel
theorem dX1_passTaker_73 : decode cX1_passTaker 73 = .ok (.iinc 3 1, 3) := by decide +kernel
theorem dX1_passTaker_76 : decode cX1_passTaker 76 = .ok (.goto (-37), 3) := by decide +kernel
theorem dX1_passTaker_79 : decode cX1_passTaker 79 = .ok (.return_, 1) := by decide +kernel
set_option maxRecDepth 20000 in
theorem ggX1_takeWord_X2_isReadAs1 : GoodIn wsX1_takeWord wsX2_isReadAs1 := goodIn_r _ [8, 9, 16, 17, 18, 19, 20, 21, 22, 23, 24, 25, 26, 27, 28] (by decide +kernel) (by decide +kernel)
set_option maxRecDepth 20000 in
theorem gX1_takeWord_X2_isReadAs1 : GoodIn wsX1_takeWord (wsV RX1 76 RX2 yX2_isReadAs1 wsX2_isReadAs1) := goodIn_app (goodIn_of _ (by decide +kernel)) ggX1_takeWord_X2_isReadAs1
theorem dX1_takeWord_0 : decode cX1_takeWord 0 = .ok (.iconst 0, 1) := by decide +kernel
theorem dX1_takeWord_1 : decode cX1_takeWord 1 = .ok (.istore_n 2, 1) := by decide +kernel
theorem dX1_takeWord_2 : decode cX1_takeWord 2 = .ok (.aload_n 0, 1) := by decide +kernel
theorem dX1_takeWord_3 : decode cX1_takeWord 3 = .ok (.getfield 30, 3) := by decide +kernel
theorem dX1_takeWord_6 : decode cX1_takeWord 6 = .ok (.bipush 12, 2) := by decide +kernel
theorem dX1_takeWord_8 : decode cX1_takeWord 8 = .ok (.iadd, 1) := by decide +kernel
theorem dX1_takeWord_9 : decode cX1_takeWord 9 = .ok (.istore_n 3, 1) := by decide +kernel
theorem dX1_takeWord_10 : decode cX1_takeWord 10 = .ok (.aload_n 0, 1) := by decide +kernel
theorem dX1_takeWord_11 : decode cX1_takeWord 11 = .ok (.getfield 30, 3) := by decide +kernel
theorem dX1_takeWord_14 : decode cX1_takeWord 14 = .ok (.istore 4, 2) := by decide +kernel
theorem dX1_takeWord_16 : decode cX1_takeWord 16 = .ok (.iload 4, 2) := by decide +kernel
theorem dX1_takeWord_18 : decode cX1_takeWord 18 = .ok (.ifCond .lt 46, 3) := by decide +kernel
theorem dX1_takeWord_21 : decode cX1_takeWord 21 = .ok (.iload 4, 2) := by decide +kernel
theorem dX1_takeWord_23 : decode cX1_takeWord 23 = .ok (.iload_n 3, 1) := by decide +kernel
theorem dX1_takeWord_24 : decode cX1_takeWord 24 = .ok (.if_icmp .ge 40, 3) := by decide +kernel
theorem dX1_takeWord_27 : decode cX1_takeWord 27 = .ok (.iload 4, 2) := by decide +kernel
theorem dX1_takeWord_29 : decode cX1_takeWord 29 = .ok (.bipush 120, 2) := by decide +kernel
theorem dX1_takeWord_31 : decode cX1_takeWord 31 = .ok (.if_icmp .ge 33, 3) := by decide +kernel
theorem dX1_takeWord_34 : decode cX1_takeWord 34 = .ok (.iconst 2, 1) := by decide +kernel
theorem dX1_takeWord_35 : decode cX1_takeWord 35 = .ok (.iload_n 2, 1) := by decide +kernel
theorem dX1_takeWord_36 : decode cX1_takeWord 36 = .ok (.imul, 1) := by decide +kernel
theorem dX1_takeWord_37 : decode cX1_takeWord 37 = .ok (.aload_n 1, 1) := by decide +kernel
theorem dX1_takeWord_38 : decode cX1_takeWord 38 = .ok (.aload_n 0, 1) := by decide +kernel
theorem dX1_takeWord_39 : decode cX1_takeWord 39 = .ok (.getfield 18, 3) := by decide +kernel
theorem dX1_takeWord_42 : decode cX1_takeWord 42 = .ok (.iload 4, 2) := by decide +kernel
theorem dX1_takeWord_44 : decode cX1_takeWord 44 = .ok (.iaload, 1) := by decide +kernel
theorem dX1_takeWord_45 : decode cX1_takeWord 45 = .ok (.invokevirtual 76, 3) := by decide +kernel
theorem dX1_takeWord_48 : decode cX1_takeWord 48 = .ok (.ifCond .eq 7, 3) := by decide +kernel
theorem dX1_takeWord_51 : decode cX1_takeWord 51 = .ok (.iconst 1, 1) := by decide +kernel
theorem dX1_takeWord_52 : decode cX1_takeWord 52 = .ok (.goto 4, 3) := by decide +kernel
theorem dX1_takeWord_55 : decode cX1_takeWord 55 = .ok (.iconst 0, 1) := by decide +kernel
theorem dX1_takeWord_56 : decode cX1_takeWord 56 = .ok (.iadd, 1) := by decide +kernel
theorem dX1_takeWord_57 : decode cX1_takeWord 57 = .ok (.istore_n 2, 1) := by decide +kernel
theorem dX1_takeWord_58 : decode cX1_takeWord 58 = .ok (.iinc 4 1, 3) := by decide +kernel
theorem dX1_takeWord_61 : decode cX1_takeWord 61 = .ok (.goto (-45), 3) := by decide +kernel
theorem dX1_takeWord_64 : decode cX1_takeWord 64 = .ok (.aload_n 0, 1) := by decide +kernel
theorem dX1_takeWord_65 : decode cX1_takeWord 65 = .ok (.iload_n 3, 1) := by decide +kernel
theorem dX1_takeWord_66 : decode cX1_takeWord 66 = .ok (.putfield 30, 3) := by decide +kernel
theorem dX1_takeWord_69 : decode cX1_takeWord 69 = .ok (.aload_n 0, 1) := by decide +kernel
theorem dX1_takeWord_70 : decode cX1_takeWord 70 = .ok (.dup, 1) := by decide +kernel
theorem dX1_takeWord_71 : decode cX1_takeWord 71 = .ok (.getfield 40, 3) := by decide +kernel
theorem dX1_takeWord_74 : decode cX1_takeWord 74 = .ok (.bipush 12, 2) := by decide +kernel
theorem dX1_takeWord_76 : decode cX1_takeWord 76 = .ok (.iadd, 1) := by decide +kernel
theorem dX1_takeWord_77 : decode cX1_takeWord 77 = .ok (.putfield 40, 3) := by decide +kernel
theorem dX1_takeWord_80 : decode cX1_takeWord 80 = .ok (.iload_n 2, 1) := by decide +kernel
theorem dX1_takeWord_81 : decode cX1_takeWord 81 = .ok (.ireturn, 1) := by decide +kernel
theorem dX2_init_0 : decode cX2_init 0 = .ok (.aload_n 0, 1) := by decide +kernel
theorem dX2_init_1 : decode cX2_init 1 = .ok (.invokespecial 3, 3) := by decide +kernel
theorem dX2_init_4 : decode cX2_init 4 = .ok (.aload_n 0, 1) := by decide +kernel
theorem dX2_init_5 : decode cX2_init 5 = .ok (.bipush 8, 2) := by decide +kernel
theorem dX2_init_7 : decode cX2_init 7 = .ok (.newarray .int, 2) := by decide +kernel
theorem dX2_init_9 : decode cX2_init 9 = .ok (.putfield 9, 3) := by decide +kernel
theorem dX2_init_12 : decode cX2_init 12 = .ok (.aload_n 0, 1) := by decide +kernel
theorem dX2_init_13 : decode cX2_init 13 = .ok (.bipush 8, 2) := by decide +kernel
theorem dX2_init_15 : decode cX2_init 15 = .ok (.newarray .int, 2) := by decide +kernel
theorem dX2_init_17 : decode cX2_init 17 = .ok (.putfield 15, 3) := by decide +kernel
theorem dX2_init_20 : decode cX2_init 20 = .ok (.aload_n 0, 1) := by decide +kernel
theorem dX2_init_21 : decode cX2_init 21 = .ok (.bipush 8, 2) := by decide +kernel
theorem dX2_init_23 : decode cX2_init 23 = .ok (.newarray .int, 2) := by decide +kernel
theorem dX2_init_25 : decode cX2_init 25 = .ok (.putfield 18, 3) := by decide +kernel
theorem dX2_init_28 : decode cX2_init 28 = .ok (.aload_n 0, 1) := by decide +kernel
theorem dX2_init_29 : decode cX2_init 29 = .ok (.bipush 8, 2) := by decide +kernel
theorem dX2_init_31 : decode cX2_init 31 = .ok (.newarray .int, 2) := by decide +kernel
theorem dX2_init_33 : decode cX2_init 33 = .ok (.putfield 21, 3) := by decide +kernel
theorem dX2_init_36 : decode cX2_init 36 = .ok (.aload_n 0, 1) := by decide +kernel
theorem dX2_init_37 : decode cX2_init 37 = .ok (.bipush 8, 2) := by decide +kernel
theorem dX2_init_39 : decode cX2_init 39 = .ok (.newarray .int, 2) := by decide +kernel
theorem dX2_init_41 : decode cX2_init 41 = .ok (.putfield 24, 3) := by decide +kernel
theorem dX2_init_44 : decode cX2_init 44 = .ok (.aload_n 0, 1) := by decide +kernel
theorem dX2_init_45 : decode cX2_init 45 = .ok (.iconst 3, 1) := by decide +kernel
theorem dX2_init_46 : decode cX2_init 46 = .ok (.newarray .int, 2) := by decide +kernel
theorem dX2_init_48 : decode cX2_init 48 = .ok (.dup, 1) := by decide +kernel
theorem dX2_init_49 : decode cX2_init 49 = .ok (.iconst 0, 1) := by decide +kernel
theorem dX2_init_50 : decode cX2_init 50 = .ok (.bipush 6, 2) := by decide +kernel
theorem dX2_init_52 : decode cX2_init 52 = .ok (.iastore, 1) := by decide +kernel
theorem dX2_init_53 : decode cX2_init 53 = .ok (.dup, 1) := by decide +kernel
theorem dX2_init_54 : decode cX2_init 54 = .ok (.iconst 1, 1) := by decide +kernel
theorem dX2_init_55 : decode cX2_init 55 = .ok (.iconst 1, 1) := by decide +kernel
theorem dX2_init_56 : decode cX2_init 56 = .ok (.iastore, 1) := by decide +kernel
theorem dX2_init_57 : decode cX2_init 57 = .ok (.dup, 1) := by decide +kernel
theorem dX2_init_58 : decode cX2_init 58 = .ok (.iconst 2, 1) := by decide +kernel
theorem dX2_init_59 : decode cX2_init 59 = .ok (.sipush 360, 3) := by decide +kernel
theorem dX2_init_62 : decode cX2_init 62 = .ok (.iastore, 1) := by decide +kernel
theorem dX2_init_63 : decode cX2_init 63 = .ok (.putfield 27, 3) := by decide +kernel
theorem dX2_init_66 : decode cX2_init 66 = .ok (.aload_n 0, 1) := by decide +kernel
theorem dX2_init_67 : decode cX2_init 67 = .ok (.bipush 120, 2) := by decide +kernel
theorem dX2_init_69 : decode cX2_init 69 = .ok (.newarray .int, 2) := by decide +kernel
theorem dX2_init_71 : decode cX2_init 71 = .ok (.putfield 30, 3) := by decide +kernel
theorem dX2_init_74 : decode cX2_init 74 = .ok (.return_, 1) := by decide +kernel
theorem dX2_copyFrom_0 : decode cX2_copyFrom 0 = .ok (.aload_n 1, 1) := by decide +kernel
theorem dX2_copyFrom_1 : decode cX2_copyFrom 1 = .ok (.getfield 9, 3) := by decide +kernel
theorem dX2_copyFrom_4 : decode cX2_copyFrom 4 = .ok (.iconst 0, 1) := by decide +kernel
theorem dX2_copyFrom_5 : decode cX2_copyFrom 5 = .ok (.aload_n 0, 1) := by decide +kernel
theorem dX2_copyFrom_6 : decode cX2_copyFrom 6 = .ok (.getfield 9, 3) := by decide +kernel
theorem dX2_copyFrom_9 : decode cX2_copyFrom 9 = .ok (.iconst 0, 1) := by decide +kernel
theorem dX2_copyFrom_10 : decode cX2_copyFrom 10 = .ok (.bipush 8, 2) := by decide +kernel
theorem dX2_copyFrom_12 : decode cX2_copyFrom 12 = .ok (.invokestatic 33, 3) := by decide +kernel
theorem dX2_copyFrom_15 : decode cX2_copyFrom 15 = .ok (.aload_n 1, 1) := by decide +kernel
theorem dX2_copyFrom_16 : decode cX2_copyFrom 16 = .ok (.getfield 15, 3) := by decide +kernel
theorem dX2_copyFrom_19 : decode cX2_copyFrom 19 = .ok (.iconst 0, 1) := by decide +kernel
theorem dX2_copyFrom_20 : decode cX2_copyFrom 20 = .ok (.aload_n 0, 1) := by decide +kernel
theorem dX2_copyFrom_21 : decode cX2_copyFrom 21 = .ok (.getfield 15, 3) := by decide +kernel
theorem dX2_copyFrom_24 : decode cX2_copyFrom 24 = .ok (.iconst 0, 1) := by decide +kernel
theorem dX2_copyFrom_25 : decode cX2_copyFrom 25 = .ok (.bipush 8, 2) := by decide +kernel
theorem dX2_copyFrom_27 : decode cX2_copyFrom 27 = .ok (.invokestatic 33, 3) := by decide +kernel
theorem dX2_copyFrom_30 : decode cX2_copyFrom 30 = .ok (.aload_n 1, 1) := by decide +kernel
theorem dX2_copyFrom_31 : decode cX2_copyFrom 31 = .ok (.getfield 18, 3) := by decide +kernel
theorem dX2_copyFrom_34 : decode cX2_copyFrom 34 = .ok (.iconst 0, 1) := by decide +kernel
theorem dX2_copyFrom_35 : decode cX2_copyFrom 35 = .ok (.aload_n 0, 1) := by decide +kernel
theorem dX2_copyFrom_36 : decode cX2_copyFrom 36 = .ok (.getfield 18, 3) := by decide +kernel
theorem dX2_copyFrom_39 : decode cX2_copyFrom 39 = .ok (.iconst 0, 1) := by decide +kernel
theorem dX2_copyFrom_40 : decode cX2_copyFrom 40 = .ok (.bipush 8, 2) := by decide +kernel
theorem dX2_copyFrom_42 : decode cX2_copyFrom 42 = .ok (.invokestatic 33, 3) := by decide +kernel
theorem dX2_copyFrom_45 : decode cX2_copyFrom 45 = .ok (.aload_n 1, 1) := by decide +kernel
theorem dX2_copyFrom_46 : decode cX2_copyFrom 46 = .ok (.getfield 21, 3) := by decide +kernel
theorem dX2_copyFrom_49 : decode cX2_copyFrom 49 = .ok (.iconst 0, 1) := by decide +kernel
theorem dX2_copyFrom_50 : decode cX2_copyFrom 50 = .ok (.aload_n 0, 1) := by decide +kernel
theorem dX2_copyFrom_51 : decode cX2_copyFrom 51 = .ok (.getfield 21, 3) := by decide +kernel
theorem dX2_copyFrom_54 : decode cX2_copyFrom 54 = .ok (.iconst 0, 1) := by decide +kernel
theorem dX2_copyFrom_55 : decode cX2_copyFrom 55 = .ok (.bipush 8, 2) := by decide +kernel
theorem dX2_copyFrom_57 : decode cX2_copyFrom 57 = .ok (.invokestatic 33, 3) := by decide +kernel
theorem dX2_copyFrom_60 : decode cX2_copyFrom 60 = .ok (.aload_n 1, 1) := by decide +kernel
theorem dX2_copyFrom_61 : decode cX2_copyFrom 61 = .ok (.getfield 24, 3) := by decide +kernel
theorem dX2_copyFrom_64 : decode cX2_copyFrom 64 = .ok (.iconst 0, 1) := by decide +kernel
theorem dX2_copyFrom_65 : decode cX2_copyFrom 65 = .ok (.aload_n 0, 1) := by decide +kernel
theorem dX2_copyFrom_66 : decode cX2_copyFrom 66 = .ok (.getfield 24, 3) := by decide +kernel
theorem dX2_copyFrom_69 : decode cX2_copyFrom 69 = .ok (.iconst 0, 1) := by decide +kernel
theorem dX2_copyFrom_70 : decode cX2_copyFrom 70 = .ok (.bipush 8, 2) := by decide +kernel
theorem dX2_copyFrom_72 : decode cX2_copyFrom 72 = .ok (.invokestatic 33, 3) := by decide +kernel
theorem dX2_copyFrom_75 : decode cX2_copyFrom 75 = .ok (.aload_n 1, 1) := by decide +kernel
theorem dX2_copyFrom_76 : decode cX2_copyFrom 76 = .ok (.getfield 27, 3) := by decide +kernel
theorem dX2_copyFrom_79 : decode cX2_copyFrom 79 = .ok (.iconst 0, 1) := by decide +kernel
theorem dX2_copyFrom_80 : decode cX2_copyFrom 80 = .ok (.aload_n 0, 1) := by decide +kernel
theorem dX2_copyFrom_81 : decode cX2_copyFrom 81 = .ok (.getfield 27, 3) := by decide +kernel
theorem dX2_copyFrom_84 : decode cX2_copyFrom 84 = .ok (.iconst 0, 1) := by decide +kernel
theorem dX2_copyFrom_85 : decode cX2_copyFrom 85 = .ok (.iconst 3, 1) := by decide +kernel
theorem dX2_copyFrom_86 : decode cX2_copyFrom 86 = .ok (.invokestatic 33, 3) := by decide +kernel
theorem dX2_copyFrom_89 : decode cX2_copyFrom 89 = .ok (.aload_n 1, 1) := by decide +kernel
theorem dX2_copyFrom_90 : decode cX2_copyFrom 90 = .ok (.getfield 30, 3) := by decide +kernel
theorem dX2_copyFrom_93 : decode cX2_copyFrom 93 = .ok (.iconst 0, 1) := by decide +kernel
theorem dX2_copyFrom_94 : decode cX2_copyFrom 94 = .ok (.aload_n 0, 1) := by decide +kernel
theorem dX2_copyFrom_95 : decode cX2_copyFrom 95 = .ok (.getfield 30, 3) := by decide +kernel
theorem dX2_copyFrom_98 : decode cX2_copyFrom 98 = .ok (.iconst 0, 1) := by decide +kernel
theorem dX2_copyFrom_99 : decode cX2_copyFrom 99 = .ok (.bipush 120, 2) := by decide +kernel
theorem dX2_copyFrom_101 : decode cX2_copyFrom 101 = .ok (.invokestatic 33, 3) := by decide +kernel
theorem dX2_copyFrom_104 : decode cX2_copyFrom 104 = .ok (.aload_n 0, 1) := by decide +kernel
theorem dX2_copyFrom_105 : decode cX2_copyFrom 105 = .ok (.aload_n 1, 1) := by decide +kernel
theorem dX2_copyFrom_106 : decode cX2_copyFrom 106 = .ok (.getfield 39, 3) := by decide +kernel
theorem dX2_copyFrom_109 : decode cX2_copyFrom 109 = .ok (.putfield 39, 3) := by decide +kernel
theorem dX2_copyFrom_112 : decode cX2_copyFrom 112 = .ok (.aload_n 0, 1) := by decide +kernel
theorem dX2_copyFrom_113 : decode cX2_copyFrom 113 = .ok (.aload_n 1, 1) := by decide +kernel
theorem dX2_copyFrom_114 : decode cX2_copyFrom 114 = .ok (.getfield 43, 3) := by decide +kernel
theorem dX2_copyFrom_117 : decode cX2_copyFrom 117 = .ok (.putfield 43, 3) := by decide +kernel
theorem dX2_copyFrom_120 : decode cX2_copyFrom 120 = .ok (.aload_n 0, 1) := by decide +kernel
theorem dX2_copyFrom_121 : decode cX2_copyFrom 121 = .ok (.aload_n 1, 1) := by decide +kernel
theorem dX2_copyFrom_122 : decode cX2_copyFrom 122 = .ok (.getfield 46, 3) := by decide +kernel
theorem dX2_copyFrom_125 : decode cX2_copyFrom 125 = .ok (.putfield 46, 3) := by decide +kernel
theorem dX2_copyFrom_128 : decode cX2_copyFrom 128 = .ok (.aload_n 0, 1) := by decide +kernel
theorem dX2_copyFrom_129 : decode cX2_copyFrom 129 = .ok (.aload_n 1, 1) := by decide +kernel
theorem dX2_copyFrom_130 : decode cX2_copyFrom 130 = .ok (.getfield 49, 3) := by decide +kernel
theorem dX2_copyFrom_133 : decode cX2_copyFrom 133 = .ok (.putfield 49, 3) := by decide +kernel
theorem dX2_copyFrom_136 : decode cX2_copyFrom 136 = .ok (.aload_n 0, 1) := by decide +kernel
theorem dX2_copyFrom_137 : decode cX2_copyFrom 137 = .ok (.aload_n 1, 1) := by decide +kernel
theorem dX2_copyFrom_138 : decode cX2_copyFrom 138 = .ok (.getfield 52, 3) := by decide +kernel
theorem dX2_copyFrom_141 : decode cX2_copyFrom 141 = .ok (.putfield 52, 3) := by decide +kernel
theorem dX2_copyFrom_144 : decode cX2_copyFrom 144 = .ok (.aload_n 0, 1) := by decide +kernel
theorem dX2_copyFrom_145 : decode cX2_copyFrom 145 = .ok (.aload_n 1, 1) := by decide +kernel
theorem dX2_copyFrom_146 : decode cX2_copyFrom 146 = .ok (.getfield 55, 3) := by decide +kernel
theorem dX2_copyFrom_149 : decode cX2_copyFrom 149 = .ok (.putfield 55, 3) := by decide +kernel
theorem dX2_copyFrom_152 : decode cX2_copyFrom 152 = .ok (.return_, 1) := by decide +kernel
theorem dX2_hasRoomFor_0 : decode cX2_hasRoomFor 0 = .ok (.aload_n 0, 1) := by decide +kernel
theorem dX2_hasRoomFor_1 : decode cX2_hasRoomFor 1 = .ok (.getfield 39, 3) := by decide +kernel
theorem dX2_hasRoomFor_4 : decode cX2_hasRoomFor 4 = .ok (.iload_n 1, 1) := by decide +kernel
theorem dX2_hasRoomFor_5 : decode cX2_hasRoomFor 5 = .ok (.iadd, 1) := by decide +kernel
theorem dX2_hasRoomFor_6 : decode cX2_hasRoomFor 6 = .ok (.bipush 120, 2) := by decide +kernel
theorem dX2_hasRoomFor_8 : decode cX2_hasRoomFor 8 = .ok (.if_icmp .gt 7, 3) := by decide +kernel
theorem dX2_hasRoomFor_11 : decode cX2_hasRoomFor 11 = .ok (.iconst 1, 1) := by decide +kernel
theorem dX2_hasRoomFor_12 : decode cX2_hasRoomFor 12 = .ok (.goto 4, 3) := by decide +kernel
theorem dX2_hasRoomFor_15 : decode cX2_hasRoomFor 15 = .ok (.iconst 0, 1) := by decide +kernel
theorem dX2_hasRoomFor_16 : decode cX2_hasRoomFor 16 = .ok (.ireturn, 1) := by decide +kernel
theorem dX2_addPulse_0 : decode cX2_addPulse 0 = .ok (.aload_n 0, 1) := by decide +kernel
theorem dX2_addPulse_1 : decode cX2_addPulse 1 = .ok (.getfield 39, 3) := by decide +kernel
theorem dX2_addPulse_4 : decode cX2_addPulse 4 = .ok (.ifCond .lt 32, 3) := by decide +kernel
theorem dX2_addPulse_7 : decode cX2_addPulse 7 = .ok (.aload_n 0, 1) := by decide +kernel
theorem dX2_addPulse_8 : decode cX2_addPulse 8 = .ok (.getfield 39, 3) := by decide +kernel
theorem dX2_addPulse_11 : decode cX2_addPulse 11 = .ok (.bipush 120, 2) := by decide +kernel
theorem dX2_addPulse_13 : decode cX2_addPulse 13 = .ok (.if_icmp .ge 23, 3) := by decide +kernel
theorem dX2_addPulse_16 : decode cX2_addPulse 16 = .ok (.aload_n 0, 1) := by decide +kernel
theorem dX2_addPulse_17 : decode cX2_addPulse 17 = .ok (.getfield 30, 3) := by decide +kernel
theorem dX2_addPulse_20 : decode cX2_addPulse 20 = .ok (.aload_n 0, 1) := by decide +kernel
theorem dX2_addPulse_21 : decode cX2_addPulse 21 = .ok (.getfield 39, 3) := by decide +kernel
theorem dX2_addPulse_24 : decode cX2_addPulse 24 = .ok (.iload_n 1, 1) := by decide +kernel
theorem dX2_addPulse_25 : decode cX2_addPulse 25 = .ok (.iastore, 1) := by decide +kernel
theorem dX2_addPulse_26 : decode cX2_addPulse 26 = .ok (.aload_n 0, 1) := by decide +kernel
theorem dX2_addPulse_27 : decode cX2_addPulse 27 = .ok (.dup, 1) := by decide +kernel
theorem dX2_addPulse_28 : decode cX2_addPulse 28 = .ok (.getfield 39, 3) := by decide +kernel
theorem dX2_addPulse_31 : decode cX2_addPulse 31 = .ok (.iconst 1, 1) := by decide +kernel
theorem dX2_addPulse_32 : decode cX2_addPulse 32 = .ok (.iadd, 1) := by decide +kernel
theorem dX2_addPulse_33 : decode cX2_addPulse 33 = .ok (.putfield 39, 3) := by decide +kernel
theorem dX2_addPulse_36 : decode cX2_addPulse 36 = .ok (.return_, 1) := by decide +kernel
set_option maxRecDepth 20000 in
theorem ggX2_addWord_X2_lengthFor : GoodIn wsX2_addWord wsX2_lengthFor := goodIn_r _ [4] (by decide +kernel) (by decide +kernel)
set_option maxRecDepth 20000 in
theorem gX2_addWord_X2_lengthFor : GoodIn wsX2_addWord (va_wsS RX2 58 yX2_lengthFor wsX2_lengthFor) := goodIn_app (goodIn_of _ (by decide +kernel)) ggX2_addWord_X2_lengthFor
set_option maxRecDepth 20000 in
theorem ggX2_addWord_X2_addPulse : GoodIn wsX2_addWord wsX2_addPulse := goodIn_r _ [8, 9, 10, 11, 12, 13, 14, 15, 16, 17, 18, 19, 20, 21, 22, 23] (by decide +kernel) (by decide +kernel)
set_option maxRecDepth 20000 in
theorem gX2_addWord_X2_addPulse : GoodIn wsX2_addWord (wsV RX2 62 RX2 yX2_addPulse wsX2_addPulse) := goodIn_app (goodIn_of _ (by decide +kernel)) ggX2_addWord_X2_addPulse
theorem dX2_addWord_0 : decode cX2_addWord 0 = .ok (.bipush 11, 2) := by decide +kernel
theorem dX2_addWord_2 : decode cX2_addWord 2 = .ok (.istore_n 2, 1) := by decide +kernel
theorem dX2_addWord_3 : decode cX2_addWord 3 = .ok (.iload_n 2, 1) := by decide +kernel
theorem dX2_addWord_4 : decode cX2_addWord 4 = .ok (.ifCond .lt 30, 3) := by decide +kernel
theorem dX2_addWord_7 : decode cX2_addWord 7 = .ok (.aload_n 0, 1) := by decide +kernel
theorem dX2_addWord_8 : decode cX2_addWord 8 = .ok (.iload_n 1, 1) := by decide +kernel
theorem dX2_addWord_9 : decode cX2_addWord 9 = .ok (.iload_n 2, 1) := by decide +kernel
theorem dX2_addWord_10 : decode cX2_addWord 10 = .ok (.ishr, 1) := by decide +kernel
theorem dX2_addWord_11 : decode cX2_addWord 11 = .ok (.iconst 1, 1) := by decide +kernel
theorem dX2_addWord_12 : decode cX2_addWord 12 = .ok (.iand, 1) := by decide +kernel
theorem dX2_addWord_13 : decode cX2_addWord 13 = .ok (.iconst 1, 1) := by decide +kernel
theorem dX2_addWord_14 : decode cX2_addWord 14 = .ok (.if_icmp .ne 7, 3) := by decide +kernel
theorem dX2_addWord_17 : decode cX2_addWord 17 = .ok (.iconst 1, 1) := by decide +kernel
theorem dX2_addWord_18 : decode cX2_addWord 18 = .ok (.goto 4, 3) := by decide +kernel
theorem dX2_addWord_21 : decode cX2_addWord 21 = .ok (.iconst 0, 1) := by decide +kernel
theorem dX2_addWord_22 : decode cX2_addWord 22 = .ok (.invokestatic 58, 3) := by decide +kernel
theorem dX2_addWord_25 : decode cX2_addWord 25 = .ok (.invokevirtual 62, 3) := by decide +kernel
theorem dX2_addWord_28 : decode cX2_addWord 28 = .ok (.iinc 2 (-1), 3) := by decide +kernel
theorem dX2_addWord_31 : decode cX2_addWord 31 = .ok (.goto (-28), 3) := by decide +kernel
theorem dX2_addWord_34 : decode cX2_addWord 34 = .ok (.return_, 1) := by decide +kernel
theorem dX2_takesWords_0 : decode cX2_takesWords 0 = .ok (.aload_n 0, 1) := by decide +kernel
theorem dX2_takesWords_1 : decode cX2_takesWords 1 = .ok (.getfield 9, 3) := by decide +kernel
theorem dX2_takesWords_4 : decode cX2_takesWords 4 = .ok (.iload_n 1, 1) := by decide +kernel
theorem dX2_takesWords_5 : decode cX2_takesWords 5 = .ok (.iaload, 1) := by decide +kernel
theorem dX2_takesWords_6 : decode cX2_takesWords 6 = .ok (.ifCond .eq 13, 3) := by decide +kernel
theorem dX2_takesWords_9 : decode cX2_takesWords 9 = .ok (.aload_n 0, 1) := by decide +kernel
theorem dX2_takesWords_10 : decode cX2_takesWords 10 = .ok (.getfield 9, 3) := by decide +kernel
theorem dX2_takesWords_13 : decode cX2_takesWords 13 = .ok (.iload_n 1, 1) := by decide +kernel
theorem dX2_takesWords_14 : decode cX2_takesWords 14 = .ok (.iaload, 1) := by decide +kernel
theorem dX2_takesWords_15 : decode cX2_takesWords 15 = .ok (.iconst 1, 1) := by decide +kernel
theorem dX2_takesWords_16 : decode cX2_takesWords 16 = .ok (.if_icmp .ne 7, 3) := by decide +kernel
theorem dX2_takesWords_19 : decode cX2_takesWords 19 = .ok (.iconst 1, 1) := by decide +kernel
theorem dX2_takesWords_20 : decode cX2_takesWords 20 = .ok (.goto 4, 3) := by decide +kernel
theorem dX2_takesWords_23 : decode cX2_takesWords 23 = .ok (.iconst 0, 1) := by decide +kernel
theorem dX2_takesWords_24 : decode cX2_takesWords 24 = .ok (.ireturn, 1) := by decide +kernel
theorem dX2_isReadAs1_0 : decode cX2_isReadAs1 0 = .ok (.iload_n 1, 1) := by decide +kernel
theorem dX2_isReadAs1_1 : decode cX2_isReadAs1 1 = .ok (.aload_n 0, 1) := by decide +kernel
theorem dX2_isReadAs1_2 : decode cX2_isReadAs1 2 = .ok (.getfield 27, 3) := by decide +kernel
theorem dX2_isReadAs1_5 : decode cX2_isReadAs1 5 = .ok (.iconst 0, 1) := by decide +kernel
theorem dX2_isReadAs1_6 : decode cX2_isReadAs1 6 = .ok (.iaload, 1) := by decide +kernel
theorem dX2_isReadAs1_7 : decode cX2_isReadAs1 7 = .ok (.if_icmp .lt 7, 3) := by decide +kernel
theorem dX2_isReadAs1_10 : decode cX2_isReadAs1 10 = .ok (.iconst 1, 1) := by decide +kernel
theorem dX2_isReadAs1_11 : decode cX2_isReadAs1 11 = .ok (.goto 4, 3) := by decide +kernel
theorem dX2_isReadAs1_14 : decode cX2_isReadAs1 14 = .ok (.iconst 0, 1) := by decide +kernel
theorem dX2_isReadAs1_15 : decode cX2_isReadAs1 15 = .ok (.ireturn, 1) := by decide +kernel
set_option maxRecDepth 20000 in
theorem ggX2_handedOn_X2_isReadAs1 : GoodIn wsX2_handedOn wsX2_isReadAs1 := goodIn_r _ [6, 1, 10, 11, 12, 13, 14, 15, 16, 17, 18, 19, 20, 21, 22] (by decide +kernel) (by decide +kernel)
set_option maxRecDepth 20000 in
theorem gX2_handedOn_X2_isReadAs1 : GoodIn wsX2_handedOn (wsV RX2 66 RX2 yX2_isReadAs1 wsX2_isReadAs1) := goodIn_app (goodIn_of _ (by decide +kernel)) ggX2_handedOn_X2_isReadAs1
set_option maxRecDepth 20000 in
theorem ggX2_handedOn_X2_lengthFor : GoodIn wsX2_handedOn wsX2_lengthFor := goodIn_r _ [9] (by decide +kernel) (by decide +kernel)
set_option maxRecDepth 20000 in
theorem gX2_handedOn_X2_lengthFor : GoodIn wsX2_handedOn (va_wsS RX2 58 yX2_lengthFor wsX2_lengthFor) := goodIn_app (goodIn_of _ (by decide +kernel)) ggX2_handedOn_X2_lengthFor
theorem dX2_handedOn_0 : decode cX2_handedOn 0 = .ok (.aload_n 0, 1) := by decide +kernel
theorem dX2_handedOn_1 : decode cX2_handedOn 1 = .ok (.getfield 27, 3) := by decide +kernel
theorem dX2_handedOn_4 : decode cX2_handedOn 4 = .ok (.iconst 1, 1) := by decide +kernel
theorem dX2_handedOn_5 : decode cX2_handedOn 5 = .ok (.iaload, 1) := by decide +kernel
theorem dX2_handedOn_6 : decode cX2_handedOn 6 = .ok (.iconst 1, 1) := by decide +kernel
theorem dX2_handedOn_7 : decode cX2_handedOn 7 = .ok (.if_icmp .ne 14, 3) := by decide +kernel
theorem dX2_handedOn_10 : decode cX2_handedOn 10 = .ok (.aload_n 0, 1) := by decide +kernel
theorem dX2_handedOn_11 : decode cX2_handedOn 11 = .ok (.iload_n 1, 1) := by decide +kernel
theorem dX2_handedOn_12 : decode cX2_handedOn 12 = .ok (.invokevirtual 66, 3) := by decide +kernel
theorem dX2_handedOn_15 : decode cX2_handedOn 15 = .ok (.invokestatic 58, 3) := by decide +kernel
theorem dX2_handedOn_18 : decode cX2_handedOn 18 = .ok (.goto 4, 3) := by decide +kernel
theorem dX2_handedOn_21 : decode cX2_handedOn 21 = .ok (.iload_n 1, 1) := by decide +kernel
theorem dX2_handedOn_22 : decode cX2_handedOn 22 = .ok (.ireturn, 1) := by decide +kernel
theorem dX2_lengthFor_0 : decode cX2_lengthFor 0 = .ok (.iload_n 0, 1) := by decide +kernel
theorem dX2_lengthFor_1 : decode cX2_lengthFor 1 = .ok (.ifCond .eq 8, 3) := by decide +kernel
theorem dX2_lengthFor_4 : decode cX2_lengthFor 4 = .ok (.bipush 8, 2) := by decide +kernel
theorem dX2_lengthFor_6 : decode cX2_lengthFor 6 = .ok (.goto 4, 3) := by decide +kernel
theorem dX2_lengthFor_9 : decode cX2_lengthFor 9 = .ok (.iconst 4, 1) := by decide +kernel
theorem dX2_lengthFor_10 : decode cX2_lengthFor 10 = .ok (.ireturn, 1) := by decide +kernel
theorem dX2_shortened_0 : decode cX2_shortened 0 = .ok (.iload_n 0, 1) := by decide +kernel
theorem dX2_shortened_1 : decode cX2_shortened 1 = .ok (.iload_n 1, 1) := by decide +kernel
theorem dX2_shortened_2 : decode cX2_shortened 2 = .ok (.isub, 1) := by decide +kernel
theorem dX2_shortened_3 : decode cX2_shortened 3 = .ok (.iconst 1, 1) := by decide +kernel
theorem dX2_shortened_4 : decode cX2_shortened 4 = .ok (.if_icmp .ge 7, 3) := by decide +kernel
theorem dX2_shortened_7 : decode cX2_shortened 7 = .ok (.iconst 1, 1) := by decide +kernel
theorem dX2_shortened_8 : decode cX2_shortened 8 = .ok (.goto 6, 3) := by decide +kernel
theorem dX2_shortened_11 : decode cX2_shortened 11 = .ok (.iload_n 0, 1) := by decide +kernel
theorem dX2_shortened_12 : decode cX2_shortened 12 = .ok (.iload_n 1, 1) := by decide +kernel
theorem dX2_shortened_13 : decode cX2_shortened 13 = .ok (.isub, 1) := by decide +kernel
theorem dX2_shortened_14 : decode cX2_shortened 14 = .ok (.ireturn, 1) := by decide +kernel
theorem dX2_brightnessOf_0 : decode cX2_brightnessOf 0 = .ok (.iload_n 0, 1) := by decide +kernel
theorem dX2_brightnessOf_1 : decode cX2_brightnessOf 1 = .ok (.bipush 8, 2) := by decide +kernel
theorem dX2_brightnessOf_3 : decode cX2_brightnessOf 3 = .ok (.iconst 4, 1) := by decide +kernel
theorem dX2_brightnessOf_4 : decode cX2_brightnessOf 4 = .ok (.iload_n 1, 1) := by decide +kernel
theorem dX2_brightnessOf_5 : decode cX2_brightnessOf 5 = .ok (.imul, 1) := by decide +kernel
theorem dX2_brightnessOf_6 : decode cX2_brightnessOf 6 = .ok (.isub, 1) := by decide +kernel
theorem dX2_brightnessOf_7 : decode cX2_brightnessOf 7 = .ok (.ishr, 1) := by decide +kernel
theorem dX2_brightnessOf_8 : decode cX2_brightnessOf 8 = .ok (.bipush 15, 2) := by decide +kernel
theorem dX2_brightnessOf_10 : decode cX2_brightnessOf 10 = .ok (.iand, 1) := by decide +kernel
theorem dX2_brightnessOf_11 : decode cX2_brightnessOf 11 = .ok (.ireturn, 1) := by decide +kernel
set_option maxRecDepth 20000 in
theorem ggX2_currentWanted_X2_brightnessOf : GoodIn wsX2_currentWanted wsX2_brightnessOf := goodIn_r _ [5] (by decide +kernel) (by decide +kernel)
set_option maxRecDepth 20000 in
theorem gX2_currentWanted_X2_brightnessOf : GoodIn wsX2_currentWanted (va_wsS RX2 70 yX2_brightnessOf wsX2_brightnessOf) := goodIn_app (goodIn_of _ (by decide +kernel)) ggX2_currentWanted_X2_brightnessOf
theorem dX2_currentWanted_0 : decode cX2_currentWanted 0 = .ok (.iconst 0, 1) := by decide +kernel
theorem dX2_currentWanted_1 : decode cX2_currentWanted 1 = .ok (.istore_n 1, 1) := by decide +kernel
theorem dX2_currentWanted_2 : decode cX2_currentWanted 2 = .ok (.iconst 0, 1) := by decide +kernel
theorem dX2_currentWanted_3 : decode cX2_currentWanted 3 = .ok (.istore_n 2, 1) := by decide +kernel
theorem dX2_currentWanted_4 : decode cX2_currentWanted 4 = .ok (.iload_n 2, 1) := by decide +kernel
theorem dX2_currentWanted_5 : decode cX2_currentWanted 5 = .ok (.bipush 8, 2) := by decide +kernel
theorem dX2_currentWanted_7 : decode cX2_currentWanted 7 = .ok (.if_icmp .ge 35, 3) := by decide +kernel
theorem dX2_currentWanted_10 : decode cX2_currentWanted 10 = .ok (.iconst 0, 1) := by decide +kernel
theorem dX2_currentWanted_11 : decode cX2_currentWanted 11 = .ok (.istore_n 3, 1) := by decide +kernel
theorem dX2_currentWanted_12 : decode cX2_currentWanted 12 = .ok (.iload_n 3, 1) := by decide +kernel
theorem dX2_currentWanted_13 : decode cX2_currentWanted 13 = .ok (.iconst 3, 1) := by decide +kernel
theorem dX2_currentWanted_14 : decode cX2_currentWanted 14 = .ok (.if_icmp .ge 22, 3) := by decide +kernel
theorem dX2_currentWanted_17 : decode cX2_currentWanted 17 = .ok (.iload_n 1, 1) := by decide +kernel
theorem dX2_currentWanted_18 : decode cX2_currentWanted 18 = .ok (.aload_n 0, 1) := by decide +kernel
theorem dX2_currentWanted_19 : decode cX2_currentWanted 19 = .ok (.getfield 21, 3) := by decide +kernel
theorem dX2_currentWanted_22 : decode cX2_currentWanted 22 = .ok (.iload_n 2, 1) := by decide +kernel
theorem dX2_currentWanted_23 : decode cX2_currentWanted 23 = .ok (.iaload, 1) := by decide +kernel
theorem dX2_currentWanted_24 : decode cX2_currentWanted 24 = .ok (.iload_n 3, 1) := by decide +kernel
theorem dX2_currentWanted_25 : decode cX2_currentWanted 25 = .ok (.invokestatic 70, 3) := by decide +kernel
theorem dX2_currentWanted_28 : decode cX2_currentWanted 28 = .ok (.iadd, 1) := by decide +kernel
theorem dX2_currentWanted_29 : decode cX2_currentWanted 29 = .ok (.istore_n 1, 1) := by decide +kernel
theorem dX2_currentWanted_30 : decode cX2_currentWanted 30 = .ok (.iinc 3 1, 3) := by decide +kernel
theorem dX2_currentWanted_33 : decode cX2_currentWanted 33 = .ok (.goto (-21), 3) := by decide +kernel
theorem dX2_currentWanted_36 : decode cX2_currentWanted 36 = .ok (.iinc 2 1, 3) := by decide +kernel
theorem dX2_currentWanted_39 : decode cX2_currentWanted 39 = .ok (.goto (-35), 3) := by decide +kernel
theorem dX2_currentWanted_42 : decode cX2_currentWanted 42 = .ok (.iload_n 1, 1) := by decide +kernel
theorem dX2_currentWanted_43 : decode cX2_currentWanted 43 = .ok (.ireturn, 1) := by decide +kernel
theorem dX2_shown_0 : decode cX2_shown 0 = .ok (.iload_n 2, 1) := by decide +kernel
theorem dX2_shown_1 : decode cX2_shown 1 = .ok (.ifCond .le 13, 3) := by decide +kernel
theorem dX2_shown_4 : decode cX2_shown 4 = .ok (.iload_n 2, 1) := by decide +kernel
theorem dX2_shown_5 : decode cX2_shown 5 = .ok (.aload_n 0, 1) := by decide +kernel
theorem dX2_shown_6 : decode cX2_shown 6 = .ok (.getfield 27, 3) := by decide +kernel
theorem dX2_shown_9 : decode cX2_shown 9 = .ok (.iconst 2, 1) := by decide +kernel
theorem dX2_shown_10 : decode cX2_shown 10 = .ok (.iaload, 1) := by decide +kernel
theorem dX2_shown_11 : decode cX2_shown 11 = .ok (.if_icmp .gt 5, 3) := by decide +kernel
theorem dX2_shown_14 : decode cX2_shown 14 = .ok (.iload_n 1, 1) := by decide +kernel
theorem dX2_shown_15 : decode cX2_shown 15 = .ok (.ireturn, 1) := by decide +kernel
theorem dX2_shown_16 : decode cX2_shown 16 = .ok (.iload_n 1, 1) := by decide +kernel
theorem dX2_shown_17 : decode cX2_shown 17 = .ok (.aload_n 0, 1) := by decide +kernel
theorem dX2_shown_18 : decode cX2_shown 18 = .ok (.getfield 27, 3) := by decide +kernel
theorem dX2_shown_21 : decode cX2_shown 21 = .ok (.iconst 2, 1) := by decide +kernel
theorem dX2_shown_22 : decode cX2_shown 22 = .ok (.iaload, 1) := by decide +kernel
theorem dX2_shown_23 : decode cX2_shown 23 = .ok (.imul, 1) := by decide +kernel
theorem dX2_shown_24 : decode cX2_shown 24 = .ok (.iload_n 2, 1) := by decide +kernel
theorem dX2_shown_25 : decode cX2_shown 25 = .ok (.idiv, 1) := by decide +kernel
theorem dX2_shown_26 : decode cX2_shown 26 = .ok (.ireturn, 1) := by decide +kernel
set_option maxRecDepth 20000 in
theorem ggX2_shownTogether_X2_currentWanted : GoodIn wsX2_shownTogether wsX2_currentWanted := goodIn_r _ [6, 1, 7, 8, 5, 9, 15, 16, 17, 18, 19, 20, 21, 22, 23, 24, 25, 26, 27] (by decide +kernel) (by decide +kernel)
set_option maxRecDepth 20000 in
theorem gX2_shownTogether_X2_currentWanted : GoodIn wsX2_shownTogether (wsV RX2 74 RX2 yX2_currentWanted wsX2_currentWanted) := goodIn_app (goodIn_of _ (by decide +kernel)) ggX2_shownTogether_X2_currentWanted
set_option maxRecDepth 20000 in
theorem ggX2_shownTogether_X2_brightnessOf : GoodIn wsX2_shownTogether wsX2_brightnessOf := goodIn_r _ [9] (by decide +kernel) (by decide +kernel)
set_option maxRecDepth 20000 in
theorem gX2_shownTogether_X2_brightnessOf : GoodIn wsX2_shownTogether (va_wsS RX2 70 yX2_brightnessOf wsX2_brightnessOf) := goodIn_app (goodIn_of _ (by decide +kernel)) ggX2_shownTogether_X2_brightnessOf
set_option maxRecDepth 20000 in
theorem ggX2_shownTogether_X2_shown : GoodIn wsX2_shownTogether wsX2_shown := goodIn_r _ [13, 14, 15, 16, 17, 18, 19, 20, 21, 22, 23, 24, 25, 26, 27] (by decide +kernel) (by decide +kernel)
set_option maxRecDepth 20000 in
theorem gX2_shownTogether_X2_shown : GoodIn wsX2_shownTogether (wsV RX2 78 RX2 yX2_shown wsX2_shown) := goodIn_app (goodIn_of _ (by decide +kernel)) ggX2_shownTogether_X2_shown
theorem dX2_shownTogether_0 : decode cX2_shownTogether 0 = .ok (.aload_n 0, 1) := by decide +kernel
theorem dX2_shownTogether_1 : decode cX2_shownTogether 1 = .ok (.invokevirtual 74, 3) := by decide +kernel
theorem dX2_shownTogether_4 : decode cX2_shownTogether 4 = .ok (.istore_n 1, 1) := by decide +kernel
theorem dX2_shownTogether_5 : decode cX2_shownTogether 5 = .ok (.iconst 0, 1) := by decide +kernel
theorem dX2_shownTogether_6 : decode cX2_shownTogether 6 = .ok (.istore_n 2, 1) := by decide +kernel
theorem dX2_shownTogether_7 : decode cX2_shownTogether 7 = .ok (.iconst 0, 1) := by decide +kernel
theorem dX2_shownTogether_8 : decode cX2_shownTogether 8 = .ok (.istore_n 3, 1) := by decide +kernel
theorem dX2_shownTogether_9 : decode cX2_shownTogether 9 = .ok (.iload_n 3, 1) := by decide +kernel
theorem dX2_shownTogether_10 : decode cX2_shownTogether 10 = .ok (.bipush 8, 2) := by decide +kernel
theorem dX2_shownTogether_12 : decode cX2_shownTogether 12 = .ok (.if_icmp .ge 43, 3) := by decide +kernel
theorem dX2_shownTogether_15 : decode cX2_shownTogether 15 = .ok (.iconst 0, 1) := by decide +kernel
theorem dX2_shownTogether_16 : decode cX2_shownTogether 16 = .ok (.istore 4, 2) := by decide +kernel
theorem dX2_shownTogether_18 : decode cX2_shownTogether 18 = .ok (.iload 4, 2) := by decide +kernel
theorem dX2_shownTogether_20 : decode cX2_shownTogether 20 = .ok (.iconst 3, 1) := by decide +kernel
theorem dX2_shownTogether_21 : decode cX2_shownTogether 21 = .ok (.if_icmp .ge 28, 3) := by decide +kernel
theorem dX2_shownTogether_24 : decode cX2_shownTogether 24 = .ok (.iload_n 2, 1) := by decide +kernel
theorem dX2_shownTogether_25 : decode cX2_shownTogether 25 = .ok (.aload_n 0, 1) := by decide +kernel
theorem dX2_shownTogether_26 : decode cX2_shownTogether 26 = .ok (.aload_n 0, 1) := by decide +kernel
theorem dX2_shownTogether_27 : decode cX2_shownTogether 27 = .ok (.getfield 21, 3) := by decide +kernel
theorem dX2_shownTogether_30 : decode cX2_shownTogether 30 = .ok (.iload_n 3, 1) := by decide +kernel
theorem dX2_shownTogether_31 : decode cX2_shownTogether 31 = .ok (.iaload, 1) := by decide +kernel
theorem dX2_shownTogether_32 : decode cX2_shownTogether 32 = .ok (.iload 4, 2) := by decide +kernel
theorem dX2_shownTogether_34 : decode cX2_shownTogether 34 = .ok (.invokestatic 70, 3) := by decide +kernel
theorem dX2_shownTogether_37 : decode cX2_shownTogether 37 = .ok (.iload_n 1, 1) := by decide +kernel
theorem dX2_shownTogether_38 : decode cX2_shownTogether 38 = .ok (.invokevirtual 78, 3) := by decide +kernel
theorem dX2_shownTogether_41 : decode cX2_shownTogether 41 = .ok (.iadd, 1) := by decide +kernel
theorem dX2_shownTogether_42 : decode cX2_shownTogether 42 = .ok (.istore_n 2, 1) := by decide +kernel
theorem dX2_shownTogether_43 : decode cX2_shownTogether 43 = .ok (.iinc 4 1, 3) := by decide +kernel
theorem dX2_shownTogether_46 : decode cX2_shownTogether 46 = .ok (.goto (-28), 3) := by decide +kernel
theorem dX2_shownTogether_49 : decode cX2_shownTogether 49 = .ok (.iinc 3 1, 3) := by decide +kernel
theorem dX2_shownTogether_52 : decode cX2_shownTogether 52 = .ok (.goto (-43), 3) := by decide +kernel
theorem dX2_shownTogether_55 : decode cX2_shownTogether 55 = .ok (.iload_n 2, 1) := by decide +kernel
theorem dX2_shownTogether_56 : decode cX2_shownTogether 56 = .ok (.ireturn, 1) := by decide +kernel
theorem dX2_lampsThatShine_0 : decode cX2_lampsThatShine 0 = .ok (.iconst 0, 1) := by decide +kernel
theorem dX2_lampsThatShine_1 : decode cX2_lampsThatShine 1 = .ok (.istore_n 1, 1) := by decide +kernel
theorem dX2_lampsThatShine_2 : decode cX2_lampsThatShine 2 = .ok (.iconst 0, 1) := by decide +kernel
theorem dX2_lampsThatShine_3 : decode cX2_lampsThatShine 3 = .ok (.istore_n 2, 1) := by decide +kernel
theorem dX2_lampsThatShine_4 : decode cX2_lampsThatShine 4 = .ok (.iload_n 2, 1) := by decide +kernel
theorem dX2_lampsThatShine_5 : decode cX2_lampsThatShine 5 = .ok (.bipush 8, 2) := by decide +kernel
theorem dX2_lampsThatShine_7 : decode cX2_lampsThatShine 7 = .ok (.if_icmp .ge 21, 3) := by decide +kernel
theorem dX2_lampsThatShine_10 : decode cX2_lampsThatShine 10 = .ok (.aload_n 0, 1) := by decide +kernel
theorem dX2_lampsThatShine_11 : decode cX2_lampsThatShine 11 = .ok (.getfield 21, 3) := by decide +kernel
theorem dX2_lampsThatShine_14 : decode cX2_lampsThatShine 14 = .ok (.iload_n 2, 1) := by decide +kernel
theorem dX2_lampsThatShine_15 : decode cX2_lampsThatShine 15 = .ok (.iaload, 1) := by decide +kernel
theorem dX2_lampsThatShine_16 : decode cX2_lampsThatShine 16 = .ok (.ifCond .eq 6, 3) := by decide +kernel
theorem dX2_lampsThatShine_19 : decode cX2_lampsThatShine 19 = .ok (.iinc 1 1, 3) := by decide +kernel
theorem dX2_lampsThatShine_22 : decode cX2_lampsThatShine 22 = .ok (.iinc 2 1, 3) := by decide +kernel
theorem dX2_lampsThatShine_25 : decode cX2_lampsThatShine 25 = .ok (.goto (-21), 3) := by decide +kernel
theorem dX2_lampsThatShine_28 : decode cX2_lampsThatShine 28 = .ok (.iload_n 1, 1) := by decide +kernel
theorem dX2_lampsThatShine_29 : decode cX2_lampsThatShine 29 = .ok (.ireturn, 1) := by decide +kernel
set_option maxRecDepth 20000 in
theorem ggX2_wordsUpTo_X2_takesWords : GoodIn wsX2_wordsUpTo wsX2_takesWords := goodIn_r _ [6, 1, 7, 8, 9, 10, 11, 12, 13, 14, 15, 16, 17, 18, 19] (by decide +kernel) (by decide +kernel)
set_option maxRecDepth 20000 in
theorem gX2_wordsUpTo_X2_takesWords : GoodIn wsX2_wordsUpTo (wsV RX2 81 RX2 yX2_takesWords wsX2_takesWords) := goodIn_app (goodIn_of _ (by decide +kernel)) ggX2_wordsUpTo_X2_takesWords
theorem dX2_wordsUpTo_0 : decode cX2_wordsUpTo 0 = .ok (.aload_n 0, 1) := by decide +kernel
theorem dX2_wordsUpTo_1 : decode cX2_wordsUpTo 1 = .ok (.iload_n 1, 1) := by decide +kernel
theorem dX2_wordsUpTo_2 : decode cX2_wordsUpTo 2 = .ok (.invokevirtual 81, 3) := by decide +kernel
theorem dX2_wordsUpTo_5 : decode cX2_wordsUpTo 5 = .ok (.ifCond .ne 5, 3) := by decide +kernel
theorem dX2_wordsUpTo_8 : decode cX2_wordsUpTo 8 = .ok (.iconst (-1), 1) := by decide +kernel
theorem dX2_wordsUpTo_9 : decode cX2_wordsUpTo 9 = .ok (.ireturn, 1) := by decide +kernel
theorem dX2_wordsUpTo_10 : decode cX2_wordsUpTo 10 = .ok (.iconst 1, 1) := by decide +kernel
theorem dX2_wordsUpTo_11 : decode cX2_wordsUpTo 11 = .ok (.istore_n 2, 1) := by decide +kernel
theorem dX2_wordsUpTo_12 : decode cX2_wordsUpTo 12 = .ok (.iconst 0, 1) := by decide +kernel
theorem dX2_wordsUpTo_13 : decode cX2_wordsUpTo 13 = .ok (.istore_n 3, 1) := by decide +kernel
theorem dX2_wordsUpTo_14 : decode cX2_wordsUpTo 14 = .ok (.iload_n 3, 1) := by decide +kernel
theorem dX2_wordsUpTo_15 : decode cX2_wordsUpTo 15 = .ok (.iload_n 1, 1) := by decide +kernel
theorem dX2_wordsUpTo_16 : decode cX2_wordsUpTo 16 = .ok (.if_icmp .ge 32, 3) := by decide +kernel
theorem dX2_wordsUpTo_19 : decode cX2_wordsUpTo 19 = .ok (.aload_n 0, 1) := by decide +kernel
theorem dX2_wordsUpTo_20 : decode cX2_wordsUpTo 20 = .ok (.getfield 9, 3) := by decide +kernel
theorem dX2_wordsUpTo_23 : decode cX2_wordsUpTo 23 = .ok (.iload_n 3, 1) := by decide +kernel
theorem dX2_wordsUpTo_24 : decode cX2_wordsUpTo 24 = .ok (.iaload, 1) := by decide +kernel
theorem dX2_wordsUpTo_25 : decode cX2_wordsUpTo 25 = .ok (.iconst 2, 1) := by decide +kernel
theorem dX2_wordsUpTo_26 : decode cX2_wordsUpTo 26 = .ok (.if_icmp .ne 5, 3) := by decide +kernel
theorem dX2_wordsUpTo_29 : decode cX2_wordsUpTo 29 = .ok (.iconst (-1), 1) := by decide +kernel
theorem dX2_wordsUpTo_30 : decode cX2_wordsUpTo 30 = .ok (.ireturn, 1) := by decide +kernel
theorem dX2_wordsUpTo_31 : decode cX2_wordsUpTo 31 = .ok (.aload_n 0, 1) := by decide +kernel
theorem dX2_wordsUpTo_32 : decode cX2_wordsUpTo 32 = .ok (.iload_n 3, 1) := by decide +kernel
theorem dX2_wordsUpTo_33 : decode cX2_wordsUpTo 33 = .ok (.invokevirtual 81, 3) := by decide +kernel
theorem dX2_wordsUpTo_36 : decode cX2_wordsUpTo 36 = .ok (.ifCond .eq 6, 3) := by decide +kernel
theorem dX2_wordsUpTo_39 : decode cX2_wordsUpTo 39 = .ok (.iinc 2 1, 3) := by decide +kernel
theorem dX2_wordsUpTo_42 : decode cX2_wordsUpTo 42 = .ok (.iinc 3 1, 3) := by decide +kernel
theorem dX2_wordsUpTo_45 : decode cX2_wordsUpTo 45 = .ok (.goto (-31), 3) := by decide +kernel
theorem dX2_wordsUpTo_48 : decode cX2_wordsUpTo 48 = .ok (.iload_n 2, 1) := by decide +kernel
theorem dX2_wordsUpTo_49 : decode cX2_wordsUpTo 49 = .ok (.ireturn, 1) := by decide +kernel
set_option maxRecDepth 20000 in
theorem ggX2_wordByPlace_X2_wordsUpTo : GoodIn wsX2_wordByPlace wsX2_wordsUpTo := goodIn_r _ [8, 9, 10, 11, 12, 7, 13, 34, 35, 36, 37, 38, 39, 40, 41, 42, 43, 44, 45, 46] (by decide +kernel) (by decide +kernel)
set_option maxRecDepth 20000 in
theorem gX2_wordByPlace_X2_wordsUpTo : GoodIn wsX2_wordByPlace (wsV RX2 84 RX2 yX2_wordsUpTo wsX2_wordsUpTo) := goodIn_app (goodIn_of _ (by decide +kernel)) ggX2_wordByPlace_X2_wordsUpTo
set_option maxRecDepth 20000 in
theorem ggX2_wordByPlace_X2_lengthAt : GoodIn wsX2_wordByPlace wsX2_lengthAt := goodIn_r _ [17, 18, 19, 20, 7, 21, 10, 11, 12, 13, 9, 22, 23, 24, 25, 26, 27, 28, 29, 30, 31, 32, 33, 34, 35, 36, 37, 38, 39, 40, 41, 42, 43, 44, 45, 46] (by decide +kernel) (by decide +kernel)
set_option maxRecDepth 20000 in
theorem gX2_wordByPlace_X2_lengthAt : GoodIn wsX2_wordByPlace (wsV RX2 88 RX2 yX2_lengthAt wsX2_lengthAt) := goodIn_app (goodIn_of _ (by decide +kernel)) ggX2_wordByPlace_X2_lengthAt
set_option maxRecDepth 20000 in
theorem ggX2_wordByPlace_X2_isReadAs1 : GoodIn wsX2_wordByPlace wsX2_isReadAs1 := goodIn_r _ [30, 26, 34, 35, 36, 37, 38, 39, 40, 41, 42, 43, 44, 45, 46] (by decide +kernel) (by decide +kernel)
set_option maxRecDepth 20000 in
theorem gX2_wordByPlace_X2_isReadAs1 : GoodIn wsX2_wordByPlace (wsV RX2 66 RX2 yX2_isReadAs1 wsX2_isReadAs1) := goodIn_app (goodIn_of _ (by decide +kernel)) ggX2_wordByPlace_X2_isReadAs1
theorem dX2_wordByPlace_0 : decode cX2_wordByPlace 0 = .ok (.aload_n 0, 1) := by decide +kernel
theorem dX2_wordByPlace_1 : decode cX2_wordByPlace 1 = .ok (.iload_n 1, 1) := by decide +kernel
theorem dX2_wordByPlace_2 : decode cX2_wordByPlace 2 = .ok (.invokevirtual 84, 3) := by decide +kernel
theorem dX2_wordByPlace_5 : decode cX2_wordByPlace 5 = .ok (.istore_n 2, 1) := by decide +kernel
theorem dX2_wordByPlace_6 : decode cX2_wordByPlace 6 = .ok (.iload_n 2, 1) := by decide +kernel
theorem dX2_wordByPlace_7 : decode cX2_wordByPlace 7 = .ok (.bipush 12, 2) := by decide +kernel
theorem dX2_wordByPlace_9 : decode cX2_wordByPlace 9 = .ok (.imul, 1) := by decide +kernel
theorem dX2_wordByPlace_10 : decode cX2_wordByPlace 10 = .ok (.istore_n 3, 1) := by decide +kernel
theorem dX2_wordByPlace_11 : decode cX2_wordByPlace 11 = .ok (.iload_n 2, 1) := by decide +kernel
theorem dX2_wordByPlace_12 : decode cX2_wordByPlace 12 = .ok (.iconst (-1), 1) := by decide +kernel
theorem dX2_wordByPlace_13 : decode cX2_wordByPlace 13 = .ok (.if_icmp .eq 17, 3) := by decide +kernel
theorem dX2_wordByPlace_16 : decode cX2_wordByPlace 16 = .ok (.iload_n 3, 1) := by decide +kernel
theorem dX2_wordByPlace_17 : decode cX2_wordByPlace 17 = .ok (.aload_n 0, 1) := by decide +kernel
theorem dX2_wordByPlace_18 : decode cX2_wordByPlace 18 = .ok (.getfield 39, 3) := by decide +kernel
theorem dX2_wordByPlace_21 : decode cX2_wordByPlace 21 = .ok (.if_icmp .gt 9, 3) := by decide +kernel
theorem dX2_wordByPlace_24 : decode cX2_wordByPlace 24 = .ok (.iload_n 3, 1) := by decide +kernel
theorem dX2_wordByPlace_25 : decode cX2_wordByPlace 25 = .ok (.bipush 120, 2) := by decide +kernel
theorem dX2_wordByPlace_27 : decode cX2_wordByPlace 27 = .ok (.if_icmp .le 10, 3) := by decide +kernel
theorem dX2_wordByPlace_30 : decode cX2_wordByPlace 30 = .ok (.aload_n 0, 1) := by decide +kernel
theorem dX2_wordByPlace_31 : decode cX2_wordByPlace 31 = .ok (.getfield 18, 3) := by decide +kernel
theorem dX2_wordByPlace_34 : decode cX2_wordByPlace 34 = .ok (.iload_n 1, 1) := by decide +kernel
theorem dX2_wordByPlace_35 : decode cX2_wordByPlace 35 = .ok (.iaload, 1) := by decide +kernel
theorem dX2_wordByPlace_36 : decode cX2_wordByPlace 36 = .ok (.ireturn, 1) := by decide +kernel
theorem dX2_wordByPlace_37 : decode cX2_wordByPlace 37 = .ok (.iconst 0, 1) := by decide +kernel
theorem dX2_wordByPlace_38 : decode cX2_wordByPlace 38 = .ok (.istore 4, 2) := by decide +kernel
theorem dX2_wordByPlace_40 : decode cX2_wordByPlace 40 = .ok (.iload_n 3, 1) := by decide +kernel
theorem dX2_wordByPlace_41 : decode cX2_wordByPlace 41 = .ok (.bipush 12, 2) := by decide +kernel
theorem dX2_wordByPlace_43 : decode cX2_wordByPlace 43 = .ok (.isub, 1) := by decide +kernel
theorem dX2_wordByPlace_44 : decode cX2_wordByPlace 44 = .ok (.istore 5, 2) := by decide +kernel
theorem dX2_wordByPlace_46 : decode cX2_wordByPlace 46 = .ok (.iload 5, 2) := by decide +kernel
theorem dX2_wordByPlace_48 : decode cX2_wordByPlace 48 = .ok (.ifCond .lt 46, 3) := by decide +kernel
theorem dX2_wordByPlace_51 : decode cX2_wordByPlace 51 = .ok (.iload 5, 2) := by decide +kernel
theorem dX2_wordByPlace_53 : decode cX2_wordByPlace 53 = .ok (.iload_n 3, 1) := by decide +kernel
theorem dX2_wordByPlace_54 : decode cX2_wordByPlace 54 = .ok (.if_icmp .ge 40, 3) := by decide +kernel
theorem dX2_wordByPlace_57 : decode cX2_wordByPlace 57 = .ok (.iconst 2, 1) := by decide +kernel
theorem dX2_wordByPlace_58 : decode cX2_wordByPlace 58 = .ok (.iload 4, 2) := by decide +kernel
theorem dX2_wordByPlace_60 : decode cX2_wordByPlace 60 = .ok (.imul, 1) := by decide +kernel
theorem dX2_wordByPlace_61 : decode cX2_wordByPlace 61 = .ok (.aload_n 0, 1) := by decide +kernel
theorem dX2_wordByPlace_62 : decode cX2_wordByPlace 62 = .ok (.aload_n 0, 1) := by decide +kernel
theorem dX2_wordByPlace_63 : decode cX2_wordByPlace 63 = .ok (.iload_n 1, 1) := by decide +kernel
theorem dX2_wordByPlace_64 : decode cX2_wordByPlace 64 = .ok (.aload_n 0, 1) := by decide +kernel
theorem dX2_wordByPlace_65 : decode cX2_wordByPlace 65 = .ok (.getfield 30, 3) := by decide +kernel
theorem dX2_wordByPlace_68 : decode cX2_wordByPlace 68 = .ok (.iload 5, 2) := by decide +kernel
theorem dX2_wordByPlace_70 : decode cX2_wordByPlace 70 = .ok (.iaload, 1) := by decide +kernel
theorem dX2_wordByPlace_71 : decode cX2_wordByPlace 71 = .ok (.invokevirtual 88, 3) := by decide +kernel
theorem dX2_wordByPlace_74 : decode cX2_wordByPlace 74 = .ok (.invokevirtual 66, 3) := by decide +kernel
theorem dX2_wordByPlace_77 : decode cX2_wordByPlace 77 = .ok (.ifCond .eq 7, 3) := by decide +kernel
theorem dX2_wordByPlace_80 : decode cX2_wordByPlace 80 = .ok (.iconst 1, 1) := by decide +kernel
theorem dX2_wordByPlace_81 : decode cX2_wordByPlace 81 = .ok (.goto 4, 3) := by decide +kernel
theorem dX2_wordByPlace_84 : decode cX2_wordByPlace 84 = .ok (.iconst 0, 1) := by decide +kernel
theorem dX2_wordByPlace_85 : decode cX2_wordByPlace 85 = .ok (.iadd, 1) := by decide +kernel
theorem dX2_wordByPlace_86 : decode cX2_wordByPlace 86 = .ok (.istore 4, 2) := by decide +kernel
theorem dX2_wordByPlace_88 : decode cX2_wordByPlace 88 = .ok (.iinc 5 1, 3) := by decide +kernel
theorem dX2_wordByPlace_91 : decode cX2_wordByPlace 91 = .ok (.goto (-45), 3) := by decide +kernel
theorem dX2_wordByPlace_94 : decode cX2_wordByPlace 94 = .ok (.iload 4, 2) := by decide +kernel
theorem dX2_wordByPlace_96 : decode cX2_wordByPlace 96 = .ok (.ireturn, 1) := by decide +kernel
set_option maxRecDepth 20000 in
theorem ggX2_lengthAt_X2_shortened : GoodIn wsX2_lengthAt wsX2_shortened := goodIn_r _ [5] (by decide +kernel) (by decide +kernel)
set_option maxRecDepth 20000 in
theorem gX2_lengthAt_X2_shortened : GoodIn wsX2_lengthAt (va_wsS RX2 91 yX2_shortened wsX2_shortened) := goodIn_app (goodIn_of _ (by decide +kernel)) ggX2_lengthAt_X2_shortened
set_option maxRecDepth 20000 in
theorem ggX2_lengthAt_X2_takesWords : GoodIn wsX2_lengthAt wsX2_takesWords := goodIn_r _ [9, 10, 23, 24, 25, 26, 27, 28, 29, 30, 31, 32, 33, 34, 35] (by decide +kernel) (by decide +kernel)
set_option maxRecDepth 20000 in
theorem gX2_lengthAt_X2_takesWords : GoodIn wsX2_lengthAt (wsV RX2 81 RX2 yX2_takesWords wsX2_takesWords) := goodIn_app (goodIn_of _ (by decide +kernel)) ggX2_lengthAt_X2_takesWords
set_option maxRecDepth 20000 in
theorem ggX2_lengthAt_X2_handedOn : GoodIn wsX2_lengthAt wsX2_handedOn := goodIn_r _ [14, 15, 16, 17, 18, 4, 19, 20, 21, 22, 23, 24, 25, 26, 27, 28, 29, 30, 31, 32, 33, 34, 35] (by decide +kernel) (by decide +kernel)
set_option maxRecDepth 20000 in
theorem gX2_lengthAt_X2_handedOn : GoodIn wsX2_lengthAt (wsV RX2 94 RX2 yX2_handedOn wsX2_handedOn) := goodIn_app (goodIn_of _ (by decide +kernel)) ggX2_lengthAt_X2_handedOn
theorem dX2_lengthAt_0 : decode cX2_lengthAt 0 = .ok (.iload_n 2, 1) := by decide +kernel
theorem dX2_lengthAt_1 : decode cX2_lengthAt 1 = .ok (.istore_n 3, 1) := by decide +kernel
theorem dX2_lengthAt_2 : decode cX2_lengthAt 2 = .ok (.iconst 0, 1) := by decide +kernel
theorem dX2_lengthAt_3 : decode cX2_lengthAt 3 = .ok (.istore 4, 2) := by decide +kernel
theorem dX2_lengthAt_5 : decode cX2_lengthAt 5 = .ok (.iload 4, 2) := by decide +kernel
theorem dX2_lengthAt_7 : decode cX2_lengthAt 7 = .ok (.iload_n 1, 1) := by decide +kernel
theorem dX2_lengthAt_8 : decode cX2_lengthAt 8 = .ok (.if_icmp .ge 36, 3) := by decide +kernel
theorem dX2_lengthAt_11 : decode cX2_lengthAt 11 = .ok (.iload_n 3, 1) := by decide +kernel
theorem dX2_lengthAt_12 : decode cX2_lengthAt 12 = .ok (.aload_n 0, 1) := by decide +kernel
theorem dX2_lengthAt_13 : decode cX2_lengthAt 13 = .ok (.getfield 15, 3) := by decide +kernel
theorem dX2_lengthAt_16 : decode cX2_lengthAt 16 = .ok (.iload 4, 2) := by decide +kernel
theorem dX2_lengthAt_18 : decode cX2_lengthAt 18 = .ok (.iaload, 1) := by decide +kernel
theorem dX2_lengthAt_19 : decode cX2_lengthAt 19 = .ok (.invokestatic 91, 3) := by decide +kernel
theorem dX2_lengthAt_22 : decode cX2_lengthAt 22 = .ok (.istore_n 3, 1) := by decide +kernel
theorem dX2_lengthAt_23 : decode cX2_lengthAt 23 = .ok (.aload_n 0, 1) := by decide +kernel
theorem dX2_lengthAt_24 : decode cX2_lengthAt 24 = .ok (.iload 4, 2) := by decide +kernel
theorem dX2_lengthAt_26 : decode cX2_lengthAt 26 = .ok (.invokevirtual 81, 3) := by decide +kernel
theorem dX2_lengthAt_29 : decode cX2_lengthAt 29 = .ok (.ifCond .eq 9, 3) := by decide +kernel
theorem dX2_lengthAt_32 : decode cX2_lengthAt 32 = .ok (.aload_n 0, 1) := by decide +kernel
theorem dX2_lengthAt_33 : decode cX2_lengthAt 33 = .ok (.iload_n 3, 1) := by decide +kernel
theorem dX2_lengthAt_34 : decode cX2_lengthAt 34 = .ok (.invokevirtual 94, 3) := by decide +kernel
theorem dX2_lengthAt_37 : decode cX2_lengthAt 37 = .ok (.istore_n 3, 1) := by decide +kernel
theorem dX2_lengthAt_38 : decode cX2_lengthAt 38 = .ok (.iinc 4 1, 3) := by decide +kernel
theorem dX2_lengthAt_41 : decode cX2_lengthAt 41 = .ok (.goto (-36), 3) := by decide +kernel
theorem dX2_lengthAt_44 : decode cX2_lengthAt 44 = .ok (.iload_n 3, 1) := by decide +kernel
theorem dX2_lengthAt_45 : decode cX2_lengthAt 45 = .ok (.aload_n 0, 1) := by decide +kernel
theorem dX2_lengthAt_46 : decode cX2_lengthAt 46 = .ok (.getfield 15, 3) := by decide +kernel
theorem dX2_lengthAt_49 : decode cX2_lengthAt 49 = .ok (.iload_n 1, 1) := by decide +kernel
theorem dX2_lengthAt_50 : decode cX2_lengthAt 50 = .ok (.iaload, 1) := by decide +kernel
theorem dX2_lengthAt_51 : decode cX2_lengthAt 51 = .ok (.invokestatic 91, 3) := by decide +kernel
theorem dX2_lengthAt_54 : decode cX2_lengthAt 54 = .ok (.ireturn, 1) := by decide +kernel
set_option maxRecDepth 20000 in
theorem ggX2_wrongWith_X2_shortened : GoodIn wsX2_wrongWith wsX2_shortened := goodIn_r _ [7] (by decide +kernel) (by decide +kernel)
set_option maxRecDepth 20000 in
theorem gX2_wrongWith_X2_shortened : GoodIn wsX2_wrongWith (va_wsS RX2 91 yX2_shortened wsX2_shortened) := goodIn_app (goodIn_of _ (by decide +kernel)) ggX2_wrongWith_X2_shortened
set_option maxRecDepth 20000 in
theorem ggX2_wrongWith_X2_takesWords : GoodIn wsX2_wrongWith wsX2_takesWords := goodIn_r _ [11, 3, 24, 25, 26, 27, 28, 29, 30, 31, 32, 33, 34, 35, 36] (by decide +kernel) (by decide +kernel)
set_option maxRecDepth 20000 in
theorem gX2_wrongWith_X2_takesWords : GoodIn wsX2_wrongWith (wsV RX2 81 RX2 yX2_takesWords wsX2_takesWords) := goodIn_app (goodIn_of _ (by decide +kernel)) ggX2_wrongWith_X2_takesWords
set_option maxRecDepth 20000 in
theorem ggX2_wrongWith_X2_isReadAs1 : GoodIn wsX2_wrongWith wsX2_isReadAs1 := goodIn_r _ [15, 16, 24, 25, 26, 27, 28, 29, 30, 31, 32, 33, 34, 35, 36] (by decide +kernel) (by decide +kernel)
set_option maxRecDepth 20000 in
theorem gX2_wrongWith_X2_isReadAs1 : GoodIn wsX2_wrongWith (wsV RX2 66 RX2 yX2_isReadAs1 wsX2_isReadAs1) := goodIn_app (goodIn_of _ (by decide +kernel)) ggX2_wrongWith_X2_isReadAs1
set_option maxRecDepth 20000 in
theorem ggX2_wrongWith_X2_handedOn : GoodIn wsX2_wrongWith wsX2_handedOn := goodIn_r _ [20, 16, 12, 13, 14, 6, 15, 21, 22, 23, 24, 25, 26, 27, 28, 29, 30, 31, 32, 33, 34, 35, 36] (by decide +kernel) (by decide +kernel)
set_option maxRecDepth 20000 in
theorem gX2_wrongWith_X2_handedOn : GoodIn wsX2_wrongWith (wsV RX2 94 RX2 yX2_handedOn wsX2_handedOn) := goodIn_app (goodIn_of _ (by decide +kernel)) ggX2_wrongWith_X2_handedOn
theorem dX2_wrongWith_0 : decode cX2_wrongWith 0 = .ok (.bipush 8, 2) := by decide +kernel
theorem dX2_wrongWith_2 : decode cX2_wrongWith 2 = .ok (.istore 4, 2) := by decide +kernel
theorem dX2_wrongWith_4 : decode cX2_wrongWith 4 = .ok (.iconst 4, 1) := by decide +kernel
theorem dX2_wrongWith_5 : decode cX2_wrongWith 5 = .ok (.istore 5, 2) := by decide +kernel
theorem dX2_wrongWith_7 : decode cX2_wrongWith 7 = .ok (.iconst 1, 1) := by decide +kernel
theorem dX2_wrongWith_8 : decode cX2_wrongWith 8 = .ok (.istore 6, 2) := by decide +kernel
theorem dX2_wrongWith_10 : decode cX2_wrongWith 10 = .ok (.iconst 0, 1) := by decide +kernel
theorem dX2_wrongWith_11 : decode cX2_wrongWith 11 = .ok (.istore 7, 2) := by decide +kernel
theorem dX2_wrongWith_13 : decode cX2_wrongWith 13 = .ok (.iconst 0, 1) := by decide +kernel
theorem dX2_wrongWith_14 : decode cX2_wrongWith 14 = .ok (.istore 8, 2) := by decide +kernel
theorem dX2_wrongWith_16 : decode cX2_wrongWith 16 = .ok (.iload 8, 2) := by decide +kernel
theorem dX2_wrongWith_18 : decode cX2_wrongWith 18 = .ok (.bipush 8, 2) := by decide +kernel
theorem dX2_wrongWith_20 : decode cX2_wrongWith 20 = .ok (.if_icmp .ge 163, 3) := by decide +kernel
theorem dX2_wrongWith_23 : decode cX2_wrongWith 23 = .ok (.iload 8, 2) := by decide +kernel
theorem dX2_wrongWith_25 : decode cX2_wrongWith 25 = .ok (.iload_n 2, 1) := by decide +kernel
theorem dX2_wrongWith_26 : decode cX2_wrongWith 26 = .ok (.if_icmp .ne 7, 3) := by decide +kernel
theorem dX2_wrongWith_29 : decode cX2_wrongWith 29 = .ok (.iload_n 3, 1) := by decide +kernel
theorem dX2_wrongWith_30 : decode cX2_wrongWith 30 = .ok (.goto 10, 3) := by decide +kernel
theorem dX2_wrongWith_33 : decode cX2_wrongWith 33 = .ok (.aload_n 0, 1) := by decide +kernel
theorem dX2_wrongWith_34 : decode cX2_wrongWith 34 = .ok (.getfield 15, 3) := by decide +kernel
theorem dX2_wrongWith_37 : decode cX2_wrongWith 37 = .ok (.iload 8, 2) := by decide +kernel
theorem dX2_wrongWith_39 : decode cX2_wrongWith 39 = .ok (.iaload, 1) := by decide +kernel
theorem dX2_wrongWith_40 : decode cX2_wrongWith 40 = .ok (.istore 9, 2) := by decide +kernel
theorem dX2_wrongWith_42 : decode cX2_wrongWith 42 = .ok (.iload 4, 2) := by decide +kernel
theorem dX2_wrongWith_44 : decode cX2_wrongWith 44 = .ok (.iload 9, 2) := by decide +kernel
theorem dX2_wrongWith_46 : decode cX2_wrongWith 46 = .ok (.invokestatic 91, 3) := by decide +kernel
theorem dX2_wrongWith_49 : decode cX2_wrongWith 49 = .ok (.istore 4, 2) := by decide +kernel
theorem dX2_wrongWith_51 : decode cX2_wrongWith 51 = .ok (.iload 5, 2) := by decide +kernel
theorem dX2_wrongWith_53 : decode cX2_wrongWith 53 = .ok (.iload 9, 2) := by decide +kernel
theorem dX2_wrongWith_55 : decode cX2_wrongWith 55 = .ok (.invokestatic 91, 3) := by decide +kernel
theorem dX2_wrongWith_58 : decode cX2_wrongWith 58 = .ok (.istore 5, 2) := by decide +kernel
theorem dX2_wrongWith_60 : decode cX2_wrongWith 60 = .ok (.aload_n 0, 1) := by decide +kernel
theorem dX2_wrongWith_61 : decode cX2_wrongWith 61 = .ok (.getfield 18, 3) := by decide +kernel
theorem dX2_wrongWith_64 : decode cX2_wrongWith 64 = .ok (.iload 8, 2) := by decide +kernel
theorem dX2_wrongWith_66 : decode cX2_wrongWith 66 = .ok (.iaload, 1) := by decide +kernel
theorem dX2_wrongWith_67 : decode cX2_wrongWith 67 = .ok (.istore 10, 2) := by decide +kernel
theorem dX2_wrongWith_69 : decode cX2_wrongWith 69 = .ok (.aload_n 0, 1) := by decide +kernel
theorem dX2_wrongWith_70 : decode cX2_wrongWith 70 = .ok (.iload 8, 2) := by decide +kernel
theorem dX2_wrongWith_72 : decode cX2_wrongWith 72 = .ok (.invokevirtual 81, 3) := by decide +kernel
theorem dX2_wrongWith_75 : decode cX2_wrongWith 75 = .ok (.ifCond .eq 59, 3) := by decide +kernel
theorem dX2_wrongWith_78 : decode cX2_wrongWith 78 = .ok (.iload 6, 2) := by decide +kernel
theorem dX2_wrongWith_80 : decode cX2_wrongWith 80 = .ok (.ifCond .eq 54, 3) := by decide +kernel
theorem dX2_wrongWith_83 : decode cX2_wrongWith 83 = .ok (.aload_n 0, 1) := by decide +kernel
theorem dX2_wrongWith_84 : decode cX2_wrongWith 84 = .ok (.iload 4, 2) := by decide +kernel
theorem dX2_wrongWith_86 : decode cX2_wrongWith 86 = .ok (.invokevirtual 66, 3) := by decide +kernel
theorem dX2_wrongWith_89 : decode cX2_wrongWith 89 = .ok (.ifCond .eq 7, 3) := by decide +kernel
theorem dX2_wrongWith_92 : decode cX2_wrongWith 92 = .ok (.iload_n 1, 1) := by decide +kernel
theorem dX2_wrongWith_93 : decode cX2_wrongWith 93 = .ok (.goto 4, 3) := by decide +kernel
theorem dX2_wrongWith_96 : decode cX2_wrongWith 96 = .ok (.iconst 0, 1) := by decide +kernel
theorem dX2_wrongWith_97 : decode cX2_wrongWith 97 = .ok (.aload_n 0, 1) := by decide +kernel
theorem dX2_wrongWith_98 : decode cX2_wrongWith 98 = .ok (.iload 5, 2) := by decide +kernel
theorem dX2_wrongWith_100 : decode cX2_wrongWith 100 = .ok (.invokevirtual 66, 3) := by decide +kernel
theorem dX2_wrongWith_103 : decode cX2_wrongWith 103 = .ok (.ifCond .eq 11, 3) := by decide +kernel
theorem dX2_wrongWith_106 : decode cX2_wrongWith 106 = .ok (.sipush 4095, 3) := by decide +kernel
theorem dX2_wrongWith_109 : decode cX2_wrongWith 109 = .ok (.iload_n 1, 1) := by decide +kernel
theorem dX2_wrongWith_110 : decode cX2_wrongWith 110 = .ok (.isub, 1) := by decide +kernel
theorem dX2_wrongWith_111 : decode cX2_wrongWith 111 = .ok (.goto 4, 3) := by decide +kernel
theorem dX2_wrongWith_114 : decode cX2_wrongWith 114 = .ok (.iconst 0, 1) := by decide +kernel
theorem dX2_wrongWith_115 : decode cX2_wrongWith 115 = .ok (.ior, 1) := by decide +kernel
theorem dX2_wrongWith_116 : decode cX2_wrongWith 116 = .ok (.istore 10, 2) := by decide +kernel
theorem dX2_wrongWith_118 : decode cX2_wrongWith 118 = .ok (.aload_n 0, 1) := by decide +kernel
theorem dX2_wrongWith_119 : decode cX2_wrongWith 119 = .ok (.iload 4, 2) := by decide +kernel
theorem dX2_wrongWith_121 : decode cX2_wrongWith 121 = .ok (.invokevirtual 94, 3) := by decide +kernel
theorem dX2_wrongWith_124 : decode cX2_wrongWith 124 = .ok (.istore 4, 2) := by decide +kernel
theorem dX2_wrongWith_126 : decode cX2_wrongWith 126 = .ok (.aload_n 0, 1) := by decide +kernel
theorem dX2_wrongWith_127 : decode cX2_wrongWith 127 = .ok (.iload 5, 2) := by decide +kernel
theorem dX2_wrongWith_129 : decode cX2_wrongWith 129 = .ok (.invokevirtual 94, 3) := by decide +kernel
theorem dX2_wrongWith_132 : decode cX2_wrongWith 132 = .ok (.istore 5, 2) := by decide +kernel
theorem dX2_wrongWith_134 : decode cX2_wrongWith 134 = .ok (.iload_n 1, 1) := by decide +kernel
theorem dX2_wrongWith_135 : decode cX2_wrongWith 135 = .ok (.aload_n 0, 1) := by decide +kernel
theorem dX2_wrongWith_136 : decode cX2_wrongWith 136 = .ok (.getfield 9, 3) := by decide +kernel
theorem dX2_wrongWith_139 : decode cX2_wrongWith 139 = .ok (.iload 8, 2) := by decide +kernel
theorem dX2_wrongWith_141 : decode cX2_wrongWith 141 = .ok (.iaload, 1) := by decide +kernel
theorem dX2_wrongWith_142 : decode cX2_wrongWith 142 = .ok (.ifCond .ne 8, 3) := by decide +kernel
theorem dX2_wrongWith_145 : decode cX2_wrongWith 145 = .ok (.iload 10, 2) := by decide +kernel
theorem dX2_wrongWith_147 : decode cX2_wrongWith 147 = .ok (.goto 4, 3) := by decide +kernel
theorem dX2_wrongWith_150 : decode cX2_wrongWith 150 = .ok (.iconst 0, 1) := by decide +kernel
theorem dX2_wrongWith_151 : decode cX2_wrongWith 151 = .ok (.if_icmp .eq 12, 3) := by decide +kernel
theorem dX2_wrongWith_154 : decode cX2_wrongWith 154 = .ok (.iload 7, 2) := by decide +kernel
theorem dX2_wrongWith_156 : decode cX2_wrongWith 156 = .ok (.iconst 1, 1) := by decide +kernel
theorem dX2_wrongWith_157 : decode cX2_wrongWith 157 = .ok (.iload 8, 2) := by decide +kernel
theorem dX2_wrongWith_159 : decode cX2_wrongWith 159 = .ok (.ishl, 1) := by decide +kernel
theorem dX2_wrongWith_160 : decode cX2_wrongWith 160 = .ok (.ior, 1) := by decide +kernel
theorem dX2_wrongWith_161 : decode cX2_wrongWith 161 = .ok (.istore 7, 2) := by decide +kernel
theorem dX2_wrongWith_163 : decode cX2_wrongWith 163 = .ok (.aload_n 0, 1) := by decide +kernel
theorem dX2_wrongWith_164 : decode cX2_wrongWith 164 = .ok (.getfield 9, 3) := by decide +kernel
theorem dX2_wrongWith_167 : decode cX2_wrongWith 167 = .ok (.iload 8, 2) := by decide +kernel
theorem dX2_wrongWith_169 : decode cX2_wrongWith 169 = .ok (.iaload, 1) := by decide +kernel
theorem dX2_wrongWith_170 : decode cX2_wrongWith 170 = .ok (.iconst 2, 1) := by decide +kernel
theorem dX2_wrongWith_171 : decode cX2_wrongWith 171 = .ok (.if_icmp .ne 6, 3) := by decide +kernel
theorem dX2_wrongWith_174 : decode cX2_wrongWith 174 = .ok (.iconst 0, 1) := by decide +kernel
theorem dX2_wrongWith_175 : decode cX2_wrongWith 175 = .ok (.istore 6, 2) := by decide +kernel
theorem dX2_wrongWith_177 : decode cX2_wrongWith 177 = .ok (.iinc 8 1, 3) := by decide +kernel
theorem dX2_wrongWith_180 : decode cX2_wrongWith 180 = .ok (.goto (-164), 3) := by decide +kernel
theorem dX2_wrongWith_183 : decode cX2_wrongWith 183 = .ok (.iload 7, 2) := by decide +kernel
theorem dX2_wrongWith_185 : decode cX2_wrongWith 185 = .ok (.ireturn, 1) := by decide +kernel
theorem dX3_init_0 : decode cX3_init 0 = .ok (.aload_n 0, 1) := by decide +kernel
theorem dX3_init_1 : decode cX3_init 1 = .ok (.invokespecial 3, 3) := by decide +kernel
theorem dX3_init_4 : decode cX3_init 4 = .ok (.aload_n 0, 1) := by decide +kernel
theorem dX3_init_5 : decode cX3_init 5 = .ok (.bipush 60, 2) := by decide +kernel
theorem dX3_init_7 : decode cX3_init 7 = .ok (.newarray .char, 2) := by decide +kernel
theorem dX3_init_9 : decode cX3_init 9 = .ok (.putfield 9, 3) := by decide +kernel
theorem dX3_init_12 : decode cX3_init 12 = .ok (.return_, 1) := by decide +kernel
theorem dX3_add_0 : decode cX3_add 0 = .ok (.aload_n 0, 1) := by decide +kernel
theorem dX3_add_1 : decode cX3_add 1 = .ok (.getfield 15, 3) := by decide +kernel
theorem dX3_add_4 : decode cX3_add 4 = .ok (.ifCond .lt 32, 3) := by decide +kernel
theorem dX3_add_7 : decode cX3_add 7 = .ok (.aload_n 0, 1) := by decide +kernel
theorem dX3_add_8 : decode cX3_add 8 = .ok (.getfield 15, 3) := by decide +kernel
theorem dX3_add_11 : decode cX3_add 11 = .ok (.bipush 60, 2) := by decide +kernel
theorem dX3_add_13 : decode cX3_add 13 = .ok (.if_icmp .ge 23, 3) := by decide +kernel
theorem dX3_add_16 : decode cX3_add 16 = .ok (.aload_n 0, 1) := by decide +kernel
theorem dX3_add_17 : decode cX3_add 17 = .ok (.getfield 9, 3) := by decide +kernel
theorem dX3_add_20 : decode cX3_add 20 = .ok (.aload_n 0, 1) := by decide +kernel
theorem dX3_add_21 : decode cX3_add 21 = .ok (.getfield 15, 3) := by decide +kernel
theorem dX3_add_24 : decode cX3_add 24 = .ok (.iload_n 1, 1) := by decide +kernel
theorem dX3_add_25 : decode cX3_add 25 = .ok (.castore, 1) := by decide +kernel
theorem dX3_add_26 : decode cX3_add 26 = .ok (.aload_n 0, 1) := by decide +kernel
theorem dX3_add_27 : decode cX3_add 27 = .ok (.dup, 1) := by decide +kernel
theorem dX3_add_28 : decode cX3_add 28 = .ok (.getfield 15, 3) := by decide +kernel
theorem dX3_add_31 : decode cX3_add 31 = .ok (.iconst 1, 1) := by decide +kernel
theorem dX3_add_32 : decode cX3_add 32 = .ok (.iadd, 1) := by decide +kernel
theorem dX3_add_33 : decode cX3_add 33 = .ok (.putfield 15, 3) := by decide +kernel
theorem dX3_add_36 : decode cX3_add 36 = .ok (.return_, 1) := by decide +kernel
theorem dX3_empty_0 : decode cX3_empty 0 = .ok (.aload_n 0, 1) := by decide +kernel
theorem dX3_empty_1 : decode cX3_empty 1 = .ok (.iconst 0, 1) := by decide +kernel
theorem dX3_empty_2 : decode cX3_empty 2 = .ok (.putfield 15, 3) := by decide +kernel
theorem dX3_empty_5 : decode cX3_empty 5 = .ok (.return_, 1) := by decide +kernel
set_option maxRecDepth 20000 in
theorem ggX3_errorPlace_X3_fits : GoodIn wsX3_errorPlace wsX3_fits := goodIn_r _ [6, 7, 8, 9, 5, 10, 1, 11, 12, 13, 14, 15, 16] (by decide +kernel) (by decide +kernel)
set_option maxRecDepth 20000 in
theorem gX3_errorPlace_X3_fits : GoodIn wsX3_errorPlace (wsV RX3 19 RX3 yX3_fits wsX3_fits) := goodIn_app (goodIn_of _ (by decide +kernel)) ggX3_errorPlace_X3_fits
theorem dX3_errorPlace_0 : decode cX3_errorPlace 0 = .ok (.iconst 0, 1) := by decide +kernel
theorem dX3_errorPlace_1 : decode cX3_errorPlace 1 = .ok (.istore_n 1, 1) := by decide +kernel
theorem dX3_errorPlace_2 : decode cX3_errorPlace 2 = .ok (.iload_n 1, 1) := by decide +kernel
theorem dX3_errorPlace_3 : decode cX3_errorPlace 3 = .ok (.aload_n 0, 1) := by decide +kernel
theorem dX3_errorPlace_4 : decode cX3_errorPlace 4 = .ok (.getfield 15, 3) := by decide +kernel
theorem dX3_errorPlace_7 : decode cX3_errorPlace 7 = .ok (.if_icmp .ge 19, 3) := by decide +kernel
theorem dX3_errorPlace_10 : decode cX3_errorPlace 10 = .ok (.aload_n 0, 1) := by decide +kernel
theorem dX3_errorPlace_11 : decode cX3_errorPlace 11 = .ok (.iload_n 1, 1) := by decide +kernel
theorem dX3_errorPlace_12 : decode cX3_errorPlace 12 = .ok (.invokevirtual 19, 3) := by decide +kernel
theorem dX3_errorPlace_15 : decode cX3_errorPlace 15 = .ok (.ifCond .ne 5, 3) := by decide +kernel
theorem dX3_errorPlace_18 : decode cX3_errorPlace 18 = .ok (.iload_n 1, 1) := by decide +kernel
theorem dX3_errorPlace_19 : decode cX3_errorPlace 19 = .ok (.ireturn, 1) := by decide +kernel
theorem dX3_errorPlace_20 : decode cX3_errorPlace 20 = .ok (.iinc 1 1, 3) := by decide +kernel
theorem dX3_errorPlace_23 : decode cX3_errorPlace 23 = .ok (.goto (-21), 3) := by decide +kernel
theorem dX3_errorPlace_26 : decode cX3_errorPlace 26 = .ok (.aload_n 0, 1) := by decide +kernel
theorem dX3_errorPlace_27 : decode cX3_errorPlace 27 = .ok (.getfield 15, 3) := by decide +kernel
theorem dX3_errorPlace_30 : decode cX3_errorPlace 30 = .ok (.ireturn, 1) := by decide +kernel
set_option maxRecDepth 20000 in
theorem ggX3_fits_X3_signAt : GoodIn wsX3_fits wsX3_signAt := goodIn_r _ [5, 6, 7, 11, 12] (by decide +kernel) (by decide +kernel)
set_option maxRecDepth 20000 in
theorem gX3_fits_X3_signAt : GoodIn wsX3_fits (wsV RX3 23 RX3 yX3_signAt wsX3_signAt) := goodIn_app (goodIn_of _ (by decide +kernel)) ggX3_fits_X3_signAt
set_option maxRecDepth 20000 in
theorem ggX3_fits_X3_digitOf : GoodIn wsX3_fits wsX3_digitOf := goodIn_r _ [10] (by decide +kernel) (by decide +kernel)
set_option maxRecDepth 20000 in
theorem gX3_fits_X3_digitOf : GoodIn wsX3_fits (va_wsS RX3 27 yX3_digitOf wsX3_digitOf) := goodIn_app (goodIn_of _ (by decide +kernel)) ggX3_fits_X3_digitOf
theorem dX3_fits_0 : decode cX3_fits 0 = .ok (.iload_n 1, 1) := by decide +kernel
theorem dX3_fits_1 : decode cX3_fits 1 = .ok (.iconst 4, 1) := by decide +kernel
theorem dX3_fits_2 : decode cX3_fits 2 = .ok (.idiv, 1) := by decide +kernel
theorem dX3_fits_3 : decode cX3_fits 3 = .ok (.istore_n 2, 1) := by decide +kernel
theorem dX3_fits_4 : decode cX3_fits 4 = .ok (.iload_n 2, 1) := by decide +kernel
theorem dX3_fits_5 : decode cX3_fits 5 = .ok (.bipush 10, 2) := by decide +kernel
theorem dX3_fits_7 : decode cX3_fits 7 = .ok (.if_icmp .ge 15, 3) := by decide +kernel
theorem dX3_fits_10 : decode cX3_fits 10 = .ok (.aload_n 0, 1) := by decide +kernel
theorem dX3_fits_11 : decode cX3_fits 11 = .ok (.iload_n 1, 1) := by decide +kernel
theorem dX3_fits_12 : decode cX3_fits 12 = .ok (.iconst 1, 1) := by decide +kernel
theorem dX3_fits_13 : decode cX3_fits 13 = .ok (.isub, 1) := by decide +kernel
theorem dX3_fits_14 : decode cX3_fits 14 = .ok (.invokevirtual 23, 3) := by decide +kernel
theorem dX3_fits_17 : decode cX3_fits 17 = .ok (.bipush 33, 2) := by decide +kernel
theorem dX3_fits_19 : decode cX3_fits 19 = .ok (.if_icmp .ne 5, 3) := by decide +kernel
theorem dX3_fits_22 : decode cX3_fits 22 = .ok (.iconst 0, 1) := by decide +kernel
theorem dX3_fits_23 : decode cX3_fits 23 = .ok (.ireturn, 1) := by decide +kernel
theorem dX3_fits_24 : decode cX3_fits 24 = .ok (.aload_n 0, 1) := by decide +kernel
theorem dX3_fits_25 : decode cX3_fits 25 = .ok (.iload_n 1, 1) := by decide +kernel
theorem dX3_fits_26 : decode cX3_fits 26 = .ok (.invokevirtual 23, 3) := by decide +kernel
theorem dX3_fits_29 : decode cX3_fits 29 = .ok (.istore_n 3, 1) := by decide +kernel
theorem dX3_fits_30 : decode cX3_fits 30 = .ok (.iload_n 1, 1) := by decide +kernel
theorem dX3_fits_31 : decode cX3_fits 31 = .ok (.iconst 4, 1) := by decide +kernel
theorem dX3_fits_32 : decode cX3_fits 32 = .ok (.irem, 1) := by decide +kernel
theorem dX3_fits_33 : decode cX3_fits 33 = .ok (.iconst 3, 1) := by decide +kernel
theorem dX3_fits_34 : decode cX3_fits 34 = .ok (.if_icmp .ge 17, 3) := by decide +kernel
theorem dX3_fits_37 : decode cX3_fits 37 = .ok (.iload_n 3, 1) := by decide +kernel
theorem dX3_fits_38 : decode cX3_fits 38 = .ok (.invokestatic 27, 3) := by decide +kernel
theorem dX3_fits_41 : decode cX3_fits 41 = .ok (.iconst (-1), 1) := by decide +kernel
theorem dX3_fits_42 : decode cX3_fits 42 = .ok (.if_icmp .eq 7, 3) := by decide +kernel
theorem dX3_fits_45 : decode cX3_fits 45 = .ok (.iconst 1, 1) := by decide +kernel
theorem dX3_fits_46 : decode cX3_fits 46 = .ok (.goto 4, 3) := by decide +kernel
theorem dX3_fits_49 : decode cX3_fits 49 = .ok (.iconst 0, 1) := by decide +kernel
theorem dX3_fits_50 : decode cX3_fits 50 = .ok (.ireturn, 1) := by decide +kernel
theorem dX3_fits_51 : decode cX3_fits 51 = .ok (.iload_n 3, 1) := by decide +kernel
theorem dX3_fits_52 : decode cX3_fits 52 = .ok (.bipush 33, 2) := by decide +kernel
theorem dX3_fits_54 : decode cX3_fits 54 = .ok (.if_icmp .eq 15, 3) := by decide +kernel
theorem dX3_fits_57 : decode cX3_fits 57 = .ok (.iload_n 3, 1) := by decide +kernel
theorem dX3_fits_58 : decode cX3_fits 58 = .ok (.bipush 44, 2) := by decide +kernel
theorem dX3_fits_60 : decode cX3_fits 60 = .ok (.if_icmp .ne 13, 3) := by decide +kernel
theorem dX3_fits_63 : decode cX3_fits 63 = .ok (.iload_n 2, 1) := by decide +kernel
theorem dX3_fits_64 : decode cX3_fits 64 = .ok (.bipush 9, 2) := by decide +kernel
theorem dX3_fits_66 : decode cX3_fits 66 = .ok (.if_icmp .ge 7, 3) := by decide +kernel
theorem dX3_fits_69 : decode cX3_fits 69 = .ok (.iconst 1, 1) := by decide +kernel
theorem dX3_fits_70 : decode cX3_fits 70 = .ok (.goto 4, 3) := by decide +kernel
theorem dX3_fits_73 : decode cX3_fits 73 = .ok (.iconst 0, 1) := by decide +kernel
theorem dX3_fits_74 : decode cX3_fits 74 = .ok (.ireturn, 1) := by decide +kernel
set_option maxRecDepth 20000 in
theorem ggX3_wordsTold_X3_endsWithGap : GoodIn wsX3_wordsTold wsX3_endsWithGap := goodIn_r _ [6, 1, 7, 8, 9, 5, 10, 11, 23, 24] (by decide +kernel) (by decide +kernel)
set_option maxRecDepth 20000 in
theorem gX3_wordsTold_X3_endsWithGap : GoodIn wsX3_wordsTold (wsV RX3 31 RX3 yX3_endsWithGap wsX3_endsWithGap) := goodIn_app (goodIn_of _ (by decide +kernel)) ggX3_wordsTold_X3_endsWithGap
set_option maxRecDepth 20000 in
theorem ggX3_wordsTold_X3_errorPlace : GoodIn wsX3_wordsTold wsX3_errorPlace := goodIn_r _ [15, 1, 16, 17, 18, 5, 19, 7, 8, 9, 10, 11, 20, 21, 22, 23, 24] (by decide +kernel) (by decide +kernel)
set_option maxRecDepth 20000 in
theorem gX3_wordsTold_X3_errorPlace : GoodIn wsX3_wordsTold (wsV RX3 35 RX3 yX3_errorPlace wsX3_errorPlace) := goodIn_app (goodIn_of _ (by decide +kernel)) ggX3_wordsTold_X3_errorPlace
theorem dX3_wordsTold_0 : decode cX3_wordsTold 0 = .ok (.aload_n 0, 1) := by decide +kernel
theorem dX3_wordsTold_1 : decode cX3_wordsTold 1 = .ok (.invokevirtual 31, 3) := by decide +kernel
theorem dX3_wordsTold_4 : decode cX3_wordsTold 4 = .ok (.ifCond .eq 12, 3) := by decide +kernel
theorem dX3_wordsTold_7 : decode cX3_wordsTold 7 = .ok (.aload_n 0, 1) := by decide +kernel
theorem dX3_wordsTold_8 : decode cX3_wordsTold 8 = .ok (.getfield 15, 3) := by decide +kernel
theorem dX3_wordsTold_11 : decode cX3_wordsTold 11 = .ok (.iconst 1, 1) := by decide +kernel
theorem dX3_wordsTold_12 : decode cX3_wordsTold 12 = .ok (.isub, 1) := by decide +kernel
theorem dX3_wordsTold_13 : decode cX3_wordsTold 13 = .ok (.goto 7, 3) := by decide +kernel
theorem dX3_wordsTold_16 : decode cX3_wordsTold 16 = .ok (.aload_n 0, 1) := by decide +kernel
theorem dX3_wordsTold_17 : decode cX3_wordsTold 17 = .ok (.getfield 15, 3) := by decide +kernel
theorem dX3_wordsTold_20 : decode cX3_wordsTold 20 = .ok (.istore_n 1, 1) := by decide +kernel
theorem dX3_wordsTold_21 : decode cX3_wordsTold 21 = .ok (.aload_n 0, 1) := by decide +kernel
theorem dX3_wordsTold_22 : decode cX3_wordsTold 22 = .ok (.invokevirtual 35, 3) := by decide +kernel
theorem dX3_wordsTold_25 : decode cX3_wordsTold 25 = .ok (.aload_n 0, 1) := by decide +kernel
theorem dX3_wordsTold_26 : decode cX3_wordsTold 26 = .ok (.getfield 15, 3) := by decide +kernel
theorem dX3_wordsTold_29 : decode cX3_wordsTold 29 = .ok (.if_icmp .lt 10, 3) := by decide +kernel
theorem dX3_wordsTold_32 : decode cX3_wordsTold 32 = .ok (.iload_n 1, 1) := by decide +kernel
theorem dX3_wordsTold_33 : decode cX3_wordsTold 33 = .ok (.iconst 4, 1) := by decide +kernel
theorem dX3_wordsTold_34 : decode cX3_wordsTold 34 = .ok (.irem, 1) := by decide +kernel
theorem dX3_wordsTold_35 : decode cX3_wordsTold 35 = .ok (.iconst 3, 1) := by decide +kernel
theorem dX3_wordsTold_36 : decode cX3_wordsTold 36 = .ok (.if_icmp .eq 5, 3) := by decide +kernel
theorem dX3_wordsTold_39 : decode cX3_wordsTold 39 = .ok (.iconst 0, 1) := by decide +kernel
theorem dX3_wordsTold_40 : decode cX3_wordsTold 40 = .ok (.ireturn, 1) := by decide +kernel
theorem dX3_wordsTold_41 : decode cX3_wordsTold 41 = .ok (.iload_n 1, 1) := by decide +kernel
theorem dX3_wordsTold_42 : decode cX3_wordsTold 42 = .ok (.iconst 1, 1) := by decide +kernel
theorem dX3_wordsTold_43 : decode cX3_wordsTold 43 = .ok (.iadd, 1) := by decide +kernel
theorem dX3_wordsTold_44 : decode cX3_wordsTold 44 = .ok (.iconst 4, 1) := by decide +kernel
theorem dX3_wordsTold_45 : decode cX3_wordsTold 45 = .ok (.idiv, 1) := by decide +kernel
theorem dX3_wordsTold_46 : decode cX3_wordsTold 46 = .ok (.ireturn, 1) := by decide +kernel
set_option maxRecDepth 20000 in
theorem ggX3_endsWithGap_X3_signAt : GoodIn wsX3_endsWithGap wsX3_signAt := goodIn_r _ [6, 1, 7, 8, 9] (by decide +kernel) (by decide +kernel)
set_option maxRecDepth 20000 in
theorem gX3_endsWithGap_X3_signAt : GoodIn wsX3_endsWithGap (wsV RX3 23 RX3 yX3_signAt wsX3_signAt) := goodIn_app (goodIn_of _ (by decide +kernel)) ggX3_endsWithGap_X3_signAt
theorem dX3_endsWithGap_0 : decode cX3_endsWithGap 0 = .ok (.aload_n 0, 1) := by decide +kernel
theorem dX3_endsWithGap_1 : decode cX3_endsWithGap 1 = .ok (.aload_n 0, 1) := by decide +kernel
theorem dX3_endsWithGap_2 : decode cX3_endsWithGap 2 = .ok (.getfield 15, 3) := by decide +kernel
theorem dX3_endsWithGap_5 : decode cX3_endsWithGap 5 = .ok (.iconst 1, 1) := by decide +kernel
theorem dX3_endsWithGap_6 : decode cX3_endsWithGap 6 = .ok (.isub, 1) := by decide +kernel
theorem dX3_endsWithGap_7 : decode cX3_endsWithGap 7 = .ok (.invokevirtual 23, 3) := by decide +kernel
theorem dX3_endsWithGap_10 : decode cX3_endsWithGap 10 = .ok (.bipush 33, 2) := by decide +kernel
theorem dX3_endsWithGap_12 : decode cX3_endsWithGap 12 = .ok (.if_icmp .ne 7, 3) := by decide +kernel
theorem dX3_endsWithGap_15 : decode cX3_endsWithGap 15 = .ok (.iconst 1, 1) := by decide +kernel
theorem dX3_endsWithGap_16 : decode cX3_endsWithGap 16 = .ok (.goto 4, 3) := by decide +kernel
theorem dX3_endsWithGap_19 : decode cX3_endsWithGap 19 = .ok (.iconst 0, 1) := by decide +kernel
theorem dX3_endsWithGap_20 : decode cX3_endsWithGap 20 = .ok (.ireturn, 1) := by decide +kernel
set_option maxRecDepth 20000 in
theorem ggX3_wordAt_X3_signAt : GoodIn wsX3_wordAt wsX3_signAt := goodIn_r _ [5, 6, 7, 11, 12] (by decide +kernel) (by decide +kernel)
set_option maxRecDepth 20000 in
theorem gX3_wordAt_X3_signAt : GoodIn wsX3_wordAt (wsV RX3 23 RX3 yX3_signAt wsX3_signAt) := goodIn_app (goodIn_of _ (by decide +kernel)) ggX3_wordAt_X3_signAt
set_option maxRecDepth 20000 in
theorem ggX3_wordAt_X3_digitOf : GoodIn wsX3_wordAt wsX3_digitOf := goodIn_r _ [10] (by decide +kernel) (by decide +kernel)
set_option maxRecDepth 20000 in
theorem gX3_wordAt_X3_digitOf : GoodIn wsX3_wordAt (va_wsS RX3 27 yX3_digitOf wsX3_digitOf) := goodIn_app (goodIn_of _ (by decide +kernel)) ggX3_wordAt_X3_digitOf
theorem dX3_wordAt_0 : decode cX3_wordAt 0 = .ok (.iconst 0, 1) := by decide +kernel
theorem dX3_wordAt_1 : decode cX3_wordAt 1 = .ok (.istore_n 2, 1) := by decide +kernel
theorem dX3_wordAt_2 : decode cX3_wordAt 2 = .ok (.iconst 0, 1) := by decide +kernel
theorem dX3_wordAt_3 : decode cX3_wordAt 3 = .ok (.istore_n 3, 1) := by decide +kernel
theorem dX3_wordAt_4 : decode cX3_wordAt 4 = .ok (.iload_n 3, 1) := by decide +kernel
theorem dX3_wordAt_5 : decode cX3_wordAt 5 = .ok (.iconst 3, 1) := by decide +kernel
theorem dX3_wordAt_6 : decode cX3_wordAt 6 = .ok (.if_icmp .ge 27, 3) := by decide +kernel
theorem dX3_wordAt_9 : decode cX3_wordAt 9 = .ok (.bipush 16, 2) := by decide +kernel
theorem dX3_wordAt_11 : decode cX3_wordAt 11 = .ok (.iload_n 2, 1) := by decide +kernel
theorem dX3_wordAt_12 : decode cX3_wordAt 12 = .ok (.imul, 1) := by decide +kernel
theorem dX3_wordAt_13 : decode cX3_wordAt 13 = .ok (.aload_n 0, 1) := by decide +kernel
theorem dX3_wordAt_14 : decode cX3_wordAt 14 = .ok (.iload_n 1, 1) := by decide +kernel
theorem dX3_wordAt_15 : decode cX3_wordAt 15 = .ok (.iconst 4, 1) := by decide +kernel
theorem dX3_wordAt_16 : decode cX3_wordAt 16 = .ok (.imul, 1) := by decide +kernel
theorem dX3_wordAt_17 : decode cX3_wordAt 17 = .ok (.iload_n 3, 1) := by decide +kernel
theorem dX3_wordAt_18 : decode cX3_wordAt 18 = .ok (.iadd, 1) := by decide +kernel
theorem dX3_wordAt_19 : decode cX3_wordAt 19 = .ok (.invokevirtual 23, 3) := by decide +kernel
theorem dX3_wordAt_22 : decode cX3_wordAt 22 = .ok (.invokestatic 27, 3) := by decide +kernel
theorem dX3_wordAt_25 : decode cX3_wordAt 25 = .ok (.iadd, 1) := by decide +kernel
theorem dX3_wordAt_26 : decode cX3_wordAt 26 = .ok (.istore_n 2, 1) := by decide +kernel
theorem dX3_wordAt_27 : decode cX3_wordAt 27 = .ok (.iinc 3 1, 3) := by decide +kernel
theorem dX3_wordAt_30 : decode cX3_wordAt 30 = .ok (.goto (-26), 3) := by decide +kernel
theorem dX3_wordAt_33 : decode cX3_wordAt 33 = .ok (.iload_n 2, 1) := by decide +kernel
theorem dX3_wordAt_34 : decode cX3_wordAt 34 = .ok (.ireturn, 1) := by decide +kernel
theorem dX3_signAt_0 : decode cX3_signAt 0 = .ok (.iload_n 1, 1) := by decide +kernel
theorem dX3_signAt_1 : decode cX3_signAt 1 = .ok (.ifCond .lt 26, 3) := by decide +kernel
theorem dX3_signAt_4 : decode cX3_signAt 4 = .ok (.iload_n 1, 1) := by decide +kernel
theorem dX3_signAt_5 : decode cX3_signAt 5 = .ok (.aload_n 0, 1) := by decide +kernel
theorem dX3_signAt_6 : decode cX3_signAt 6 = .ok (.getfield 15, 3) := by decide +kernel
theorem dX3_signAt_9 : decode cX3_signAt 9 = .ok (.if_icmp .ge 18, 3) := by decide +kernel
theorem dX3_signAt_12 : decode cX3_signAt 12 = .ok (.iload_n 1, 1) := by decide +kernel
theorem dX3_signAt_13 : decode cX3_signAt 13 = .ok (.bipush 60, 2) := by decide +kernel
theorem dX3_signAt_15 : decode cX3_signAt 15 = .ok (.if_icmp .ge 12, 3) := by decide +kernel
theorem dX3_signAt_18 : decode cX3_signAt 18 = .ok (.aload_n 0, 1) := by decide +kernel
theorem dX3_signAt_19 : decode cX3_signAt 19 = .ok (.getfield 9, 3) := by decide +kernel
theorem dX3_signAt_22 : decode cX3_signAt 22 = .ok (.iload_n 1, 1) := by decide +kernel
theorem dX3_signAt_23 : decode cX3_signAt 23 = .ok (.caload, 1) := by decide +kernel
theorem dX3_signAt_24 : decode cX3_signAt 24 = .ok (.goto 5, 3) := by decide +kernel
theorem dX3_signAt_27 : decode cX3_signAt 27 = .ok (.bipush 32, 2) := by decide +kernel
theorem dX3_signAt_29 : decode cX3_signAt 29 = .ok (.ireturn, 1) := by decide +kernel
theorem dX3_digitOf_0 : decode cX3_digitOf 0 = .ok (.iload_n 0, 1) := by decide +kernel
theorem dX3_digitOf_1 : decode cX3_digitOf 1 = .ok (.bipush 48, 2) := by decide +kernel
theorem dX3_digitOf_3 : decode cX3_digitOf 3 = .ok (.if_icmp .lt 14, 3) := by decide +kernel
theorem dX3_digitOf_6 : decode cX3_digitOf 6 = .ok (.iload_n 0, 1) := by decide +kernel
theorem dX3_digitOf_7 : decode cX3_digitOf 7 = .ok (.bipush 57, 2) := by decide +kernel
theorem dX3_digitOf_9 : decode cX3_digitOf 9 = .ok (.if_icmp .gt 8, 3) := by decide +kernel
theorem dX3_digitOf_12 : decode cX3_digitOf 12 = .ok (.iload_n 0, 1) := by decide +kernel
theorem dX3_digitOf_13 : decode cX3_digitOf 13 = .ok (.bipush 48, 2) := by decide +kernel
theorem dX3_digitOf_15 : decode cX3_digitOf 15 = .ok (.isub, 1) := by decide +kernel
theorem dX3_digitOf_16 : decode cX3_digitOf 16 = .ok (.ireturn, 1) := by decide +kernel
theorem dX3_digitOf_17 : decode cX3_digitOf 17 = .ok (.iload_n 0, 1) := by decide +kernel
theorem dX3_digitOf_18 : decode cX3_digitOf 18 = .ok (.bipush 97, 2) := by decide +kernel
theorem dX3_digitOf_20 : decode cX3_digitOf 20 = .ok (.if_icmp .lt 19, 3) := by decide +kernel
theorem dX3_digitOf_23 : decode cX3_digitOf 23 = .ok (.iload_n 0, 1) := by decide +kernel
theorem dX3_digitOf_24 : decode cX3_digitOf 24 = .ok (.bipush 102, 2) := by decide +kernel
theorem dX3_digitOf_26 : decode cX3_digitOf 26 = .ok (.if_icmp .gt 13, 3) := by decide +kernel
theorem dX3_digitOf_29 : decode cX3_digitOf 29 = .ok (.iload_n 0, 1) := by decide +kernel
theorem dX3_digitOf_30 : decode cX3_digitOf 30 = .ok (.bipush 97, 2) := by decide +kernel
theorem dX3_digitOf_32 : decode cX3_digitOf 32 = .ok (.isub, 1) := by decide +kernel
theorem dX3_digitOf_33 : decode cX3_digitOf 33 = .ok (.bipush 10, 2) := by decide +kernel
theorem dX3_digitOf_35 : decode cX3_digitOf 35 = .ok (.iadd, 1) := by decide +kernel
theorem dX3_digitOf_36 : decode cX3_digitOf 36 = .ok (.goto 4, 3) := by decide +kernel
theorem dX3_digitOf_39 : decode cX3_digitOf 39 = .ok (.iconst (-1), 1) := by decide +kernel
theorem dX3_digitOf_40 : decode cX3_digitOf 40 = .ok (.ireturn, 1) := by decide +kernel
end
section
set_option maxRecDepth 20000 in
theorem ggX4_init_X2_init : GoodIn wsX4_init wsX2_init := goodIn_r _ [22, 23, 2, 3, 24, 25, 26, 27, 28, 29, 30, 31, 48, 49, 50, 51, 52, 53, 54, 55, 56, 57, 58, 59, 60] (by decide +kernel) (by decide +kernel)
set_option maxRecDepth 20000 in
theorem gX4_init_X2_init_n9 : GoodIn wsX4_init (wsX2_init) := ggX4_init_X2_init
set_option maxRecDepth 20000 in
theorem ggX4_init_X1_init : GoodIn wsX4_init wsX1_init := goodIn_r _ [33, 34, 2, 3, 24, 35, 36, 37, 66, 67, 68, 69, 70, 71] (by decide +kernel) (by decide +kernel)
set_option maxRecDepth 20000 in
theorem gX4_init_X1_init_n18 : GoodIn wsX4_init (wsX1_init) := ggX4_init_X1_init
set_option maxRecDepth 20000 in
theorem ggX4_init_X3_init : GoodIn wsX4_init wsX3_init := goodIn_r _ [39, 40, 2, 3, 41, 42, 72, 73] (by decide +kernel) (by decide +kernel)
set_option maxRecDepth 20000 in
theorem gX4_init_X3_init_n25 : GoodIn wsX4_init (wsX3_init) := ggX4_init_X3_init
set_option maxRecDepth 20000 in
theorem ggX4_init_X0_init : GoodIn wsX4_init wsX0_init := goodIn_r _ [44, 45, 2, 3, 46, 47, 74, 75] (by decide +kernel) (by decide +kernel)
set_option maxRecDepth 20000 in
theorem gX4_init_X0_init_n32 : GoodIn wsX4_init (wsX0_init) := ggX4_init_X0_init
theorem dX4_init_0 : decode cX4_init 0 = .ok (.aload_n 0, 1) := by decide +kernel
theorem dX4_init_1 : decode cX4_init 1 = .ok (.invokespecial 1, 3) := by decide +kernel
theorem dX4_init_4 : decode cX4_init 4 = .ok (.aload_n 0, 1) := by decide +kernel
theorem dX4_init_5 : decode cX4_init 5 = .ok (.new 7, 3) := by decide +kernel
theorem dX4_init_8 : decode cX4_init 8 = .ok (.dup, 1) := by decide +kernel
theorem dX4_init_9 : decode cX4_init 9 = .ok (.invokespecial 9, 3) := by decide +kernel
theorem dX4_init_12 : decode cX4_init 12 = .ok (.putfield 10, 3) := by decide +kernel
theorem dX4_init_15 : decode cX4_init 15 = .ok (.aload_n 0, 1) := by decide +kernel
theorem dX4_init_16 : decode cX4_init 16 = .ok (.new 16, 3) := by decide +kernel
theorem dX4_init_19 : decode cX4_init 19 = .ok (.dup, 1) := by decide +kernel
theorem dX4_init_20 : decode cX4_init 20 = .ok (.invokespecial 18, 3) := by decide +kernel
theorem dX4_init_23 : decode cX4_init 23 = .ok (.putfield 19, 3) := by decide +kernel
theorem dX4_init_26 : decode cX4_init 26 = .ok (.aload_n 0, 1) := by decide +kernel
theorem dX4_init_27 : decode cX4_init 27 = .ok (.new 23, 3) := by decide +kernel
theorem dX4_init_30 : decode cX4_init 30 = .ok (.dup, 1) := by decide +kernel
theorem dX4_init_31 : decode cX4_init 31 = .ok (.invokespecial 25, 3) := by decide +kernel
theorem dX4_init_34 : decode cX4_init 34 = .ok (.putfield 26, 3) := by decide +kernel
theorem dX4_init_37 : decode cX4_init 37 = .ok (.aload_n 0, 1) := by decide +kernel
theorem dX4_init_38 : decode cX4_init 38 = .ok (.new 30, 3) := by decide +kernel
theorem dX4_init_41 : decode cX4_init 41 = .ok (.dup, 1) := by decide +kernel
theorem dX4_init_42 : decode cX4_init 42 = .ok (.invokespecial 32, 3) := by decide +kernel
theorem dX4_init_45 : decode cX4_init 45 = .ok (.putfield 33, 3) := by decide +kernel
theorem dX4_init_48 : decode cX4_init 48 = .ok (.aload_n 0, 1) := by decide +kernel
theorem dX4_init_49 : decode cX4_init 49 = .ok (.iconst 2, 1) := by decide +kernel
theorem dX4_init_50 : decode cX4_init 50 = .ok (.anewarray 7, 3) := by decide +kernel
theorem dX4_init_53 : decode cX4_init 53 = .ok (.putfield 37, 3) := by decide +kernel
theorem dX4_init_56 : decode cX4_init 56 = .ok (.return_, 1) := by decide +kernel
set_option maxRecDepth 20000 in
theorem ggX4_mode_X4_isLamp : GoodIn wsX4_mode wsX4_isLamp := goodIn_r _ [11] (by decide +kernel) (by decide +kernel)
set_option maxRecDepth 20000 in
theorem gX4_mode_X4_isLamp : GoodIn wsX4_mode (va_wsS RX4 41 yX4_isLamp wsX4_isLamp) := goodIn_app (goodIn_of _ (by decide +kernel)) ggX4_mode_X4_isLamp
set_option maxRecDepth 20000 in
theorem ggX4_mode_X0_save : GoodIn wsX4_mode wsX0_save := goodIn_r _ [16, 17, 18, 19, 20, 21, 22, 23, 24, 15, 25, 26, 27, 28, 29, 30, 31, 32, 33, 34, 35, 36, 37, 38, 39, 40, 41, 42, 43, 44, 45, 46, 47, 48, 49, 50, 51, 52, 71, 72, 58, 59, 60, 61, 62, 63, 64, 65, 66, 67, 68, 69, 70] (by decide +kernel) (by decide +kernel)
set_option maxRecDepth 20000 in
theorem gX4_mode_X0_save : GoodIn wsX4_mode (wsV RX4 57 RX0 yX0_save wsX0_save) := goodIn_app (goodIn_of _ (by decide +kernel)) ggX4_mode_X0_save
theorem dX4_mode_0 : decode cX4_mode 0 = .ok (.iload_n 1, 1) := by decide +kernel
theorem dX4_mode_1 : decode cX4_mode 1 = .ok (.invokestatic 41, 3) := by decide +kernel
theorem dX4_mode_4 : decode cX4_mode 4 = .ok (.ifCond .ne 13, 3) := by decide +kernel
theorem dX4_mode_7 : decode cX4_mode 7 = .ok (.new 45, 3) := by decide +kernel
theorem dX4_mode_10 : decode cX4_mode 10 = .ok (.dup, 1) := by decide +kernel
theorem dX4_mode_11 : decode cX4_mode 11 = .ok (.ldc 47, 2) := by decide +kernel
theorem dX4_mode_13 : decode cX4_mode 13 = .ok (.invokespecial 49, 3) := by decide +kernel
theorem dX4_mode_16 : decode cX4_mode 16 = .ok (.athrow, 1) := by decide +kernel
theorem dX4_mode_17 : decode cX4_mode 17 = .ok (.iload_n 2, 1) := by decide +kernel
theorem dX4_mode_18 : decode cX4_mode 18 = .ok (.ifCond .lt 8, 3) := by decide +kernel
theorem dX4_mode_21 : decode cX4_mode 21 = .ok (.iload_n 2, 1) := by decide +kernel
theorem dX4_mode_22 : decode cX4_mode 22 = .ok (.iconst 3, 1) := by decide +kernel
theorem dX4_mode_23 : decode cX4_mode 23 = .ok (.if_icmp .le 13, 3) := by decide +kernel
theorem dX4_mode_26 : decode cX4_mode 26 = .ok (.new 52, 3) := by decide +kernel
theorem dX4_mode_29 : decode cX4_mode 29 = .ok (.dup, 1) := by decide +kernel
theorem dX4_mode_30 : decode cX4_mode 30 = .ok (.ldc 54, 2) := by decide +kernel
theorem dX4_mode_32 : decode cX4_mode 32 = .ok (.invokespecial 56, 3) := by decide +kernel
theorem dX4_mode_35 : decode cX4_mode 35 = .ok (.athrow, 1) := by decide +kernel
theorem dX4_mode_36 : decode cX4_mode 36 = .ok (.aload_n 0, 1) := by decide +kernel
theorem dX4_mode_37 : decode cX4_mode 37 = .ok (.getfield 33, 3) := by decide +kernel
theorem dX4_mode_40 : decode cX4_mode 40 = .ok (.aload_n 0, 1) := by decide +kernel
theorem dX4_mode_41 : decode cX4_mode 41 = .ok (.getfield 10, 3) := by decide +kernel
theorem dX4_mode_44 : decode cX4_mode 44 = .ok (.invokevirtual 57, 3) := by decide +kernel
theorem dX4_mode_47 : decode cX4_mode 47 = .ok (.aload_n 0, 1) := by decide +kernel
theorem dX4_mode_48 : decode cX4_mode 48 = .ok (.getfield 10, 3) := by decide +kernel
theorem dX4_mode_51 : decode cX4_mode 51 = .ok (.getfield 61, 3) := by decide +kernel
theorem dX4_mode_54 : decode cX4_mode 54 = .ok (.iload_n 1, 1) := by decide +kernel
theorem dX4_mode_55 : decode cX4_mode 55 = .ok (.iaload, 1) := by decide +kernel
theorem dX4_mode_56 : decode cX4_mode 56 = .ok (.istore_n 3, 1) := by decide +kernel
theorem dX4_mode_57 : decode cX4_mode 57 = .ok (.aload_n 0, 1) := by decide +kernel
theorem dX4_mode_58 : decode cX4_mode 58 = .ok (.getfield 10, 3) := by decide +kernel
theorem dX4_mode_61 : decode cX4_mode 61 = .ok (.getfield 61, 3) := by decide +kernel
theorem dX4_mode_64 : decode cX4_mode 64 = .ok (.iload_n 1, 1) := by decide +kernel
theorem dX4_mode_65 : decode cX4_mode 65 = .ok (.iload_n 2, 1) := by decide +kernel
theorem dX4_mode_66 : decode cX4_mode 66 = .ok (.iastore, 1) := by decide +kernel
theorem dX4_mode_67 : decode cX4_mode 67 = .ok (.iload_n 3, 1) := by decide +kernel
theorem dX4_mode_68 : decode cX4_mode 68 = .ok (.ireturn, 1) := by decide +kernel
set_option maxRecDepth 20000 in
theorem ggX4_loss_X4_isLamp : GoodIn wsX4_loss wsX4_isLamp := goodIn_r _ [11] (by decide +kernel) (by decide +kernel)
set_option maxRecDepth 20000 in
theorem gX4_loss_X4_isLamp : GoodIn wsX4_loss (va_wsS RX4 41 yX4_isLamp wsX4_isLamp) := goodIn_app (goodIn_of _ (by decide +kernel)) ggX4_loss_X4_isLamp
set_option maxRecDepth 20000 in
theorem ggX4_loss_X0_save : GoodIn wsX4_loss wsX0_save := goodIn_r _ [16, 17, 18, 19, 20, 21, 22, 23, 24, 15, 25, 26, 27, 28, 29, 30, 31, 32, 33, 34, 35, 36, 37, 38, 39, 40, 41, 42, 43, 44, 45, 46, 47, 48, 49, 50, 51, 52, 71, 72, 58, 59, 60, 61, 62, 63, 64, 65, 66, 67, 68, 69, 70] (by decide +kernel) (by decide +kernel)
set_option maxRecDepth 20000 in
theorem gX4_loss_X0_save : GoodIn wsX4_loss (wsV RX4 57 RX0 yX0_save wsX0_save) := goodIn_app (goodIn_of _ (by decide +kernel)) ggX4_loss_X0_save
theorem dX4_loss_0 : decode cX4_loss 0 = .ok (.iload_n 1, 1) := by decide +kernel
theorem dX4_loss_1 : decode cX4_loss 1 = .ok (.invokestatic 41, 3) := by decide +kernel
theorem dX4_loss_4 : decode cX4_loss 4 = .ok (.ifCond .ne 13, 3) := by decide +kernel
theorem dX4_loss_7 : decode cX4_loss 7 = .ok (.new 45, 3) := by decide +kernel
theorem dX4_loss_10 : decode cX4_loss 10 = .ok (.dup, 1) := by decide +kernel
theorem dX4_loss_11 : decode cX4_loss 11 = .ok (.ldc 47, 2) := by decide +kernel
theorem dX4_loss_13 : decode cX4_loss 13 = .ok (.invokespecial 49, 3) := by decide +kernel
theorem dX4_loss_16 : decode cX4_loss 16 = .ok (.athrow, 1) := by decide +kernel
theorem dX4_loss_17 : decode cX4_loss 17 = .ok (.iload_n 2, 1) := by decide +kernel
theorem dX4_loss_18 : decode cX4_loss 18 = .ok (.ifCond .lt 9, 3) := by decide +kernel
theorem dX4_loss_21 : decode cX4_loss 21 = .ok (.iload_n 2, 1) := by decide +kernel
theorem dX4_loss_22 : decode cX4_loss 22 = .ok (.bipush 6, 2) := by decide +kernel
theorem dX4_loss_24 : decode cX4_loss 24 = .ok (.if_icmp .le 13, 3) := by decide +kernel
theorem dX4_loss_27 : decode cX4_loss 27 = .ok (.new 52, 3) := by decide +kernel
theorem dX4_loss_30 : decode cX4_loss 30 = .ok (.dup, 1) := by decide +kernel
theorem dX4_loss_31 : decode cX4_loss 31 = .ok (.ldc 65, 2) := by decide +kernel
theorem dX4_loss_33 : decode cX4_loss 33 = .ok (.invokespecial 56, 3) := by decide +kernel
theorem dX4_loss_36 : decode cX4_loss 36 = .ok (.athrow, 1) := by decide +kernel
theorem dX4_loss_37 : decode cX4_loss 37 = .ok (.aload_n 0, 1) := by decide +kernel
theorem dX4_loss_38 : decode cX4_loss 38 = .ok (.getfield 33, 3) := by decide +kernel
theorem dX4_loss_41 : decode cX4_loss 41 = .ok (.aload_n 0, 1) := by decide +kernel
theorem dX4_loss_42 : decode cX4_loss 42 = .ok (.getfield 10, 3) := by decide +kernel
theorem dX4_loss_45 : decode cX4_loss 45 = .ok (.invokevirtual 57, 3) := by decide +kernel
theorem dX4_loss_48 : decode cX4_loss 48 = .ok (.aload_n 0, 1) := by decide +kernel
theorem dX4_loss_49 : decode cX4_loss 49 = .ok (.getfield 10, 3) := by decide +kernel
theorem dX4_loss_52 : decode cX4_loss 52 = .ok (.getfield 67, 3) := by decide +kernel
theorem dX4_loss_55 : decode cX4_loss 55 = .ok (.iload_n 1, 1) := by decide +kernel
theorem dX4_loss_56 : decode cX4_loss 56 = .ok (.iaload, 1) := by decide +kernel
theorem dX4_loss_57 : decode cX4_loss 57 = .ok (.istore_n 3, 1) := by decide +kernel
theorem dX4_loss_58 : decode cX4_loss 58 = .ok (.aload_n 0, 1) := by decide +kernel
theorem dX4_loss_59 : decode cX4_loss 59 = .ok (.getfield 10, 3) := by decide +kernel
theorem dX4_loss_62 : decode cX4_loss 62 = .ok (.getfield 67, 3) := by decide +kernel
theorem dX4_loss_65 : decode cX4_loss 65 = .ok (.iload_n 1, 1) := by decide +kernel
theorem dX4_loss_66 : decode cX4_loss 66 = .ok (.iload_n 2, 1) := by decide +kernel
theorem dX4_loss_67 : decode cX4_loss 67 = .ok (.iastore, 1) := by decide +kernel
theorem dX4_loss_68 : decode cX4_loss 68 = .ok (.iload_n 3, 1) := by decide +kernel
theorem dX4_loss_69 : decode cX4_loss 69 = .ok (.ireturn, 1) := by decide +kernel
set_option maxRecDepth 20000 in
theorem ggX4_set_X4_isSetting : GoodIn wsX4_set wsX4_isSetting := goodIn_r _ [13] (by decide +kernel) (by decide +kernel)
set_option maxRecDepth 20000 in
theorem gX4_set_X4_isSetting : GoodIn wsX4_set (va_wsS RX4 70 yX4_isSetting wsX4_isSetting) := goodIn_app (goodIn_of _ (by decide +kernel)) ggX4_set_X4_isSetting
set_option maxRecDepth 20000 in
theorem ggX4_set_X0_save : GoodIn wsX4_set wsX0_save := goodIn_r _ [18, 19, 20, 21, 22, 23, 24, 25, 26, 17, 27, 28, 29, 30, 31, 32, 33, 34, 35, 36, 37, 38, 39, 40, 41, 42, 43, 44, 45, 46, 47, 48, 49, 50, 51, 52, 53, 54, 73, 74, 60, 61, 62, 63, 64, 65, 66, 67, 68, 69, 70, 71, 72] (by decide +kernel) (by decide +kernel)
set_option maxRecDepth 20000 in
theorem gX4_set_X0_save : GoodIn wsX4_set (wsV RX4 57 RX0 yX0_save wsX0_save) := goodIn_app (goodIn_of _ (by decide +kernel)) ggX4_set_X0_save
theorem dX4_set_0 : decode cX4_set 0 = .ok (.iload_n 1, 1) := by decide +kernel
theorem dX4_set_1 : decode cX4_set 1 = .ok (.invokestatic 70, 3) := by decide +kernel
theorem dX4_set_4 : decode cX4_set 4 = .ok (.ifCond .ne 13, 3) := by decide +kernel
theorem dX4_set_7 : decode cX4_set 7 = .ok (.new 45, 3) := by decide +kernel
theorem dX4_set_10 : decode cX4_set 10 = .ok (.dup, 1) := by decide +kernel
theorem dX4_set_11 : decode cX4_set 11 = .ok (.ldc 73, 2) := by decide +kernel
theorem dX4_set_13 : decode cX4_set 13 = .ok (.invokespecial 49, 3) := by decide +kernel
theorem dX4_set_16 : decode cX4_set 16 = .ok (.athrow, 1) := by decide +kernel
theorem dX4_set_17 : decode cX4_set 17 = .ok (.iload_n 2, 1) := by decide +kernel
theorem dX4_set_18 : decode cX4_set 18 = .ok (.getstatic 75, 3) := by decide +kernel
theorem dX4_set_21 : decode cX4_set 21 = .ok (.iload_n 1, 1) := by decide +kernel
theorem dX4_set_22 : decode cX4_set 22 = .ok (.iaload, 1) := by decide +kernel
theorem dX4_set_23 : decode cX4_set 23 = .ok (.if_icmp .lt 12, 3) := by decide +kernel
theorem dX4_set_26 : decode cX4_set 26 = .ok (.iload_n 2, 1) := by decide +kernel
theorem dX4_set_27 : decode cX4_set 27 = .ok (.getstatic 78, 3) := by decide +kernel
theorem dX4_set_30 : decode cX4_set 30 = .ok (.iload_n 1, 1) := by decide +kernel
theorem dX4_set_31 : decode cX4_set 31 = .ok (.iaload, 1) := by decide +kernel
theorem dX4_set_32 : decode cX4_set 32 = .ok (.if_icmp .le 13, 3) := by decide +kernel
theorem dX4_set_35 : decode cX4_set 35 = .ok (.new 52, 3) := by decide +kernel
theorem dX4_set_38 : decode cX4_set 38 = .ok (.dup, 1) := by decide +kernel
theorem dX4_set_39 : decode cX4_set 39 = .ok (.ldc 81, 2) := by decide +kernel
theorem dX4_set_41 : decode cX4_set 41 = .ok (.invokespecial 56, 3) := by decide +kernel
theorem dX4_set_44 : decode cX4_set 44 = .ok (.athrow, 1) := by decide +kernel
theorem dX4_set_45 : decode cX4_set 45 = .ok (.aload_n 0, 1) := by decide +kernel
theorem dX4_set_46 : decode cX4_set 46 = .ok (.getfield 33, 3) := by decide +kernel
theorem dX4_set_49 : decode cX4_set 49 = .ok (.aload_n 0, 1) := by decide +kernel
theorem dX4_set_50 : decode cX4_set 50 = .ok (.getfield 10, 3) := by decide +kernel
theorem dX4_set_53 : decode cX4_set 53 = .ok (.invokevirtual 57, 3) := by decide +kernel
theorem dX4_set_56 : decode cX4_set 56 = .ok (.aload_n 0, 1) := by decide +kernel
theorem dX4_set_57 : decode cX4_set 57 = .ok (.getfield 10, 3) := by decide +kernel
theorem dX4_set_60 : decode cX4_set 60 = .ok (.getfield 83, 3) := by decide +kernel
theorem dX4_set_63 : decode cX4_set 63 = .ok (.iload_n 1, 1) := by decide +kernel
theorem dX4_set_64 : decode cX4_set 64 = .ok (.iaload, 1) := by decide +kernel
theorem dX4_set_65 : decode cX4_set 65 = .ok (.istore_n 3, 1) := by decide +kernel
theorem dX4_set_66 : decode cX4_set 66 = .ok (.aload_n 0, 1) := by decide +kernel
theorem dX4_set_67 : decode cX4_set 67 = .ok (.getfield 10, 3) := by decide +kernel
theorem dX4_set_70 : decode cX4_set 70 = .ok (.getfield 83, 3) := by decide +kernel
theorem dX4_set_73 : decode cX4_set 73 = .ok (.iload_n 1, 1) := by decide +kernel
theorem dX4_set_74 : decode cX4_set 74 = .ok (.iload_n 2, 1) := by decide +kernel
theorem dX4_set_75 : decode cX4_set 75 = .ok (.iastore, 1) := by decide +kernel
theorem dX4_set_76 : decode cX4_set 76 = .ok (.iload_n 3, 1) := by decide +kernel
theorem dX4_set_77 : decode cX4_set 77 = .ok (.ireturn, 1) := by decide +kernel
set_option maxRecDepth 20000 in
theorem ggX4_pulse_X0_save : GoodIn wsX4_pulse wsX0_save := goodIn_r _ [10, 11, 12, 13, 14, 15, 16, 17, 18, 9, 19, 20, 21, 22, 23, 24, 25, 26, 27, 28, 29, 30, 31, 32, 33, 34, 35, 36, 37, 38, 39, 40, 41, 42, 43, 44, 45, 46, 79, 80, 66, 67, 68, 69, 70, 71, 72, 73, 74, 75, 76, 77, 78] (by decide +kernel) (by decide +kernel)
set_option maxRecDepth 20000 in
theorem gX4_pulse_X0_save : GoodIn wsX4_pulse (wsV RX4 57 RX0 yX0_save wsX0_save) := goodIn_app (goodIn_of _ (by decide +kernel)) ggX4_pulse_X0_save
set_option maxRecDepth 20000 in
theorem ggX4_pulse_X2_hasRoomFor : GoodIn wsX4_pulse wsX2_hasRoomFor := goodIn_r _ [50, 41, 66, 67, 68, 69, 70, 71, 72, 73, 74, 75, 76, 77, 78] (by decide +kernel) (by decide +kernel)
set_option maxRecDepth 20000 in
theorem gX4_pulse_X2_hasRoomFor : GoodIn wsX4_pulse (wsV RX4 88 RX2 yX2_hasRoomFor wsX2_hasRoomFor) := goodIn_app (goodIn_of _ (by decide +kernel)) ggX4_pulse_X2_hasRoomFor
set_option maxRecDepth 20000 in
theorem ggX4_pulse_X4_refuse : GoodIn wsX4_pulse wsX4_refuse := goodIn_r _ [55, 4, 56, 61, 62, 63, 64, 65, 66, 67, 68, 69, 70, 71, 72, 73, 74, 75, 76, 77, 78] (by decide +kernel) (by decide +kernel)
set_option maxRecDepth 20000 in
theorem gX4_pulse_X4_refuse : GoodIn wsX4_pulse (wsV RX4 91 RX4 yX4_refuse wsX4_refuse) := goodIn_app (goodIn_of _ (by decide +kernel)) ggX4_pulse_X4_refuse
set_option maxRecDepth 20000 in
theorem ggX4_pulse_X2_addPulse : GoodIn wsX4_pulse wsX2_addPulse := goodIn_r _ [60, 41, 32, 66, 67, 68, 69, 70, 71, 72, 73, 74, 75, 76, 77, 78] (by decide +kernel) (by decide +kernel)
set_option maxRecDepth 20000 in
theorem gX4_pulse_X2_addPulse : GoodIn wsX4_pulse (wsV RX4 95 RX2 yX2_addPulse wsX2_addPulse) := goodIn_app (goodIn_of _ (by decide +kernel)) ggX4_pulse_X2_addPulse
theorem dX4_pulse_0 : decode cX4_pulse 0 = .ok (.iload_n 1, 1) := by decide +kernel
theorem dX4_pulse_1 : decode cX4_pulse 1 = .ok (.iconst 1, 1) := by decide +kernel
theorem dX4_pulse_2 : decode cX4_pulse 2 = .ok (.if_icmp .lt 9, 3) := by decide +kernel
theorem dX4_pulse_5 : decode cX4_pulse 5 = .ok (.iload_n 1, 1) := by decide +kernel
theorem dX4_pulse_6 : decode cX4_pulse 6 = .ok (.bipush 20, 2) := by decide +kernel
theorem dX4_pulse_8 : decode cX4_pulse 8 = .ok (.if_icmp .le 13, 3) := by decide +kernel
theorem dX4_pulse_11 : decode cX4_pulse 11 = .ok (.new 52, 3) := by decide +kernel
theorem dX4_pulse_14 : decode cX4_pulse 14 = .ok (.dup, 1) := by decide +kernel
theorem dX4_pulse_15 : decode cX4_pulse 15 = .ok (.ldc 86, 2) := by decide +kernel
theorem dX4_pulse_17 : decode cX4_pulse 17 = .ok (.invokespecial 56, 3) := by decide +kernel
theorem dX4_pulse_20 : decode cX4_pulse 20 = .ok (.athrow, 1) := by decide +kernel
theorem dX4_pulse_21 : decode cX4_pulse 21 = .ok (.aload_n 0, 1) := by decide +kernel
theorem dX4_pulse_22 : decode cX4_pulse 22 = .ok (.getfield 33, 3) := by decide +kernel
theorem dX4_pulse_25 : decode cX4_pulse 25 = .ok (.aload_n 0, 1) := by decide +kernel
theorem dX4_pulse_26 : decode cX4_pulse 26 = .ok (.getfield 10, 3) := by decide +kernel
theorem dX4_pulse_29 : decode cX4_pulse 29 = .ok (.invokevirtual 57, 3) := by decide +kernel
theorem dX4_pulse_32 : decode cX4_pulse 32 = .ok (.aload_n 0, 1) := by decide +kernel
theorem dX4_pulse_33 : decode cX4_pulse 33 = .ok (.getfield 10, 3) := by decide +kernel
theorem dX4_pulse_36 : decode cX4_pulse 36 = .ok (.iconst 1, 1) := by decide +kernel
theorem dX4_pulse_37 : decode cX4_pulse 37 = .ok (.invokevirtual 88, 3) := by decide +kernel
theorem dX4_pulse_40 : decode cX4_pulse 40 = .ok (.ifCond .ne 8, 3) := by decide +kernel
theorem dX4_pulse_43 : decode cX4_pulse 43 = .ok (.aload_n 0, 1) := by decide +kernel
theorem dX4_pulse_44 : decode cX4_pulse 44 = .ok (.invokevirtual 91, 3) := by decide +kernel
theorem dX4_pulse_47 : decode cX4_pulse 47 = .ok (.ireturn, 1) := by decide +kernel
theorem dX4_pulse_48 : decode cX4_pulse 48 = .ok (.aload_n 0, 1) := by decide +kernel
theorem dX4_pulse_49 : decode cX4_pulse 49 = .ok (.getfield 10, 3) := by decide +kernel
theorem dX4_pulse_52 : decode cX4_pulse 52 = .ok (.iload_n 1, 1) := by decide +kernel
theorem dX4_pulse_53 : decode cX4_pulse 53 = .ok (.invokevirtual 95, 3) := by decide +kernel
theorem dX4_pulse_56 : decode cX4_pulse 56 = .ok (.aload_n 0, 1) := by decide +kernel
theorem dX4_pulse_57 : decode cX4_pulse 57 = .ok (.getfield 10, 3) := by decide +kernel
theorem dX4_pulse_60 : decode cX4_pulse 60 = .ok (.getfield 99, 3) := by decide +kernel
theorem dX4_pulse_63 : decode cX4_pulse 63 = .ok (.ireturn, 1) := by decide +kernel
set_option maxRecDepth 20000 in
theorem ggX4_send_X4_isWord : GoodIn wsX4_send wsX4_isWord := goodIn_r _ [9] (by decide +kernel) (by decide +kernel)
set_option maxRecDepth 20000 in
theorem gX4_send_X4_isWord : GoodIn wsX4_send (va_wsS RX4 103 yX4_isWord wsX4_isWord) := goodIn_app (goodIn_of _ (by decide +kernel)) ggX4_send_X4_isWord
set_option maxRecDepth 20000 in
theorem ggX4_send_X0_save : GoodIn wsX4_send wsX0_save := goodIn_r _ [14, 15, 16, 17, 18, 19, 20, 21, 22, 13, 23, 24, 25, 26, 27, 28, 29, 30, 31, 32, 33, 34, 35, 36, 37, 38, 39, 40, 41, 42, 43, 44, 45, 46, 47, 48, 49, 50, 89, 90, 76, 77, 78, 79, 80, 81, 82, 83, 84, 85, 86, 87, 88] (by decide +kernel) (by decide +kernel)
set_option maxRecDepth 20000 in
theorem gX4_send_X0_save : GoodIn wsX4_send (wsV RX4 57 RX0 yX0_save wsX0_save) := goodIn_app (goodIn_of _ (by decide +kernel)) ggX4_send_X0_save
set_option maxRecDepth 20000 in
theorem ggX4_send_X2_hasRoomFor : GoodIn wsX4_send wsX2_hasRoomFor := goodIn_r _ [54, 45, 76, 77, 78, 79, 80, 81, 82, 83, 84, 85, 86, 87, 88] (by decide +kernel) (by decide +kernel)
set_option maxRecDepth 20000 in
theorem gX4_send_X2_hasRoomFor : GoodIn wsX4_send (wsV RX4 88 RX2 yX2_hasRoomFor wsX2_hasRoomFor) := goodIn_app (goodIn_of _ (by decide +kernel)) ggX4_send_X2_hasRoomFor
set_option maxRecDepth 20000 in
theorem ggX4_send_X4_refuse : GoodIn wsX4_send wsX4_refuse := goodIn_r _ [58, 4, 59, 71, 72, 73, 74, 75, 76, 77, 78, 79, 80, 81, 82, 83, 84, 85, 86, 87, 88] (by decide +kernel) (by decide +kernel)
set_option maxRecDepth 20000 in
theorem gX4_send_X4_refuse : GoodIn wsX4_send (wsV RX4 91 RX4 yX4_refuse wsX4_refuse) := goodIn_app (goodIn_of _ (by decide +kernel)) ggX4_send_X4_refuse
set_option maxRecDepth 20000 in
theorem ggX4_send_X2_addWord : GoodIn wsX4_send wsX2_addWord := goodIn_r _ [63, 64, 65, 19, 66, 67, 68, 69, 70, 45, 36, 76, 77, 78, 79, 80, 81, 82, 83, 84, 85, 86, 87, 88] (by decide +kernel) (by decide +kernel)
set_option maxRecDepth 20000 in
theorem gX4_send_X2_addWord : GoodIn wsX4_send (wsV RX4 108 RX2 yX2_addWord wsX2_addWord) := goodIn_app (goodIn_of _ (by decide +kernel)) ggX4_send_X2_addWord
theorem dX4_send_0 : decode cX4_send 0 = .ok (.iload_n 1, 1) := by decide +kernel
theorem dX4_send_1 : decode cX4_send 1 = .ok (.invokestatic 103, 3) := by decide +kernel
theorem dX4_send_4 : decode cX4_send 4 = .ok (.ifCond .ne 13, 3) := by decide +kernel
theorem dX4_send_7 : decode cX4_send 7 = .ok (.new 52, 3) := by decide +kernel
theorem dX4_send_10 : decode cX4_send 10 = .ok (.dup, 1) := by decide +kernel
theorem dX4_send_11 : decode cX4_send 11 = .ok (.ldc 106, 2) := by decide +kernel
theorem dX4_send_13 : decode cX4_send 13 = .ok (.invokespecial 56, 3) := by decide +kernel
theorem dX4_send_16 : decode cX4_send 16 = .ok (.athrow, 1) := by decide +kernel
theorem dX4_send_17 : decode cX4_send 17 = .ok (.aload_n 0, 1) := by decide +kernel
theorem dX4_send_18 : decode cX4_send 18 = .ok (.getfield 33, 3) := by decide +kernel
theorem dX4_send_21 : decode cX4_send 21 = .ok (.aload_n 0, 1) := by decide +kernel
theorem dX4_send_22 : decode cX4_send 22 = .ok (.getfield 10, 3) := by decide +kernel
theorem dX4_send_25 : decode cX4_send 25 = .ok (.invokevirtual 57, 3) := by decide +kernel
theorem dX4_send_28 : decode cX4_send 28 = .ok (.aload_n 0, 1) := by decide +kernel
theorem dX4_send_29 : decode cX4_send 29 = .ok (.getfield 10, 3) := by decide +kernel
theorem dX4_send_32 : decode cX4_send 32 = .ok (.bipush 12, 2) := by decide +kernel
theorem dX4_send_34 : decode cX4_send 34 = .ok (.invokevirtual 88, 3) := by decide +kernel
theorem dX4_send_37 : decode cX4_send 37 = .ok (.ifCond .ne 8, 3) := by decide +kernel
theorem dX4_send_40 : decode cX4_send 40 = .ok (.aload_n 0, 1) := by decide +kernel
theorem dX4_send_41 : decode cX4_send 41 = .ok (.invokevirtual 91, 3) := by decide +kernel
theorem dX4_send_44 : decode cX4_send 44 = .ok (.ireturn, 1) := by decide +kernel
theorem dX4_send_45 : decode cX4_send 45 = .ok (.aload_n 0, 1) := by decide +kernel
theorem dX4_send_46 : decode cX4_send 46 = .ok (.getfield 10, 3) := by decide +kernel
theorem dX4_send_49 : decode cX4_send 49 = .ok (.iload_n 1, 1) := by decide +kernel
theorem dX4_send_50 : decode cX4_send 50 = .ok (.invokevirtual 108, 3) := by decide +kernel
theorem dX4_send_53 : decode cX4_send 53 = .ok (.aload_n 0, 1) := by decide +kernel
theorem dX4_send_54 : decode cX4_send 54 = .ok (.getfield 10, 3) := by decide +kernel
theorem dX4_send_57 : decode cX4_send 57 = .ok (.getfield 99, 3) := by decide +kernel
theorem dX4_send_60 : decode cX4_send 60 = .ok (.ireturn, 1) := by decide +kernel
set_option maxRecDepth 20000 in
theorem ggX4_gap_X0_save : GoodIn wsX4_gap wsX0_save := goodIn_r _ [7, 8, 9, 10, 11, 12, 13, 14, 15, 6, 16, 17, 18, 19, 20, 21, 22, 23, 24, 25, 26, 27, 28, 29, 30, 31, 32, 33, 34, 35, 36, 37, 38, 39, 40, 41, 42, 43, 114, 115, 116, 117, 118, 119, 120, 121, 122, 123, 124, 125, 126, 127, 128] (by decide +kernel) (by decide +kernel)
set_option maxRecDepth 20000 in
theorem gX4_gap_X0_save : GoodIn wsX4_gap (wsV RX4 57 RX0 yX0_save wsX0_save) := goodIn_app (goodIn_of _ (by decide +kernel)) ggX4_gap_X0_save
set_option maxRecDepth 20000 in
theorem ggX4_gap_X4_letGapBe : GoodIn wsX4_gap wsX4_letGapBe := goodIn_r _ [48, 49, 2, 50, 51, 52, 53, 54, 55, 56, 57, 58, 59, 60, 61, 62, 63, 64, 65, 66, 67, 68, 35, 36, 37, 69, 70, 71, 72, 73, 74, 75, 76, 77, 78, 79, 80, 81, 82, 83, 12, 84, 85, 86, 87, 88, 23, 89, 90, 91, 92, 93, 94, 95, 96, 97, 98, 99, 100, 28, 101, 102, 103, 104, 105, 106, 107, 108, 109, 110, 111, 112, 113, 116, 117, 118, 119, 120, 121, 122, 123, 124, 125, 126, 127, 128, 129, 130, 131, 132, 133, 134] (by decide +kernel) (by decide +kernel)
set_option maxRecDepth 20000 in
theorem gX4_gap_X4_letGapBe : GoodIn wsX4_gap (wsV RX4 111 RX4 yX4_letGapBe wsX4_letGapBe) := goodIn_app (goodIn_of _ (by decide +kernel)) ggX4_gap_X4_letGapBe
theorem dX4_gap_0 : decode cX4_gap 0 = .ok (.aload_n 0, 1) := by decide +kernel
theorem dX4_gap_1 : decode cX4_gap 1 = .ok (.getfield 33, 3) := by decide +kernel
theorem dX4_gap_4 : decode cX4_gap 4 = .ok (.aload_n 0, 1) := by decide +kernel
theorem dX4_gap_5 : decode cX4_gap 5 = .ok (.getfield 10, 3) := by decide +kernel
theorem dX4_gap_8 : decode cX4_gap 8 = .ok (.invokevirtual 57, 3) := by decide +kernel
theorem dX4_gap_11 : decode cX4_gap 11 = .ok (.aload_n 0, 1) := by decide +kernel
theorem dX4_gap_12 : decode cX4_gap 12 = .ok (.invokevirtual 111, 3) := by decide +kernel
theorem dX4_gap_15 : decode cX4_gap 15 = .ok (.ireturn, 1) := by decide +kernel
set_option maxRecDepth 20000 in
theorem ggX4_drop_X0_save : GoodIn wsX4_drop wsX0_save := goodIn_r _ [9, 10, 11, 12, 13, 14, 15, 16, 17, 8, 18, 19, 20, 21, 22, 23, 24, 25, 26, 27, 28, 29, 30, 31, 32, 33, 34, 35, 36, 37, 38, 39, 40, 41, 42, 43, 44, 45, 64, 65, 51, 52, 53, 54, 55, 56, 57, 58, 59, 60, 61, 62, 63] (by decide +kernel) (by decide +kernel)
set_option maxRecDepth 20000 in
theorem gX4_drop_X0_save : GoodIn wsX4_drop (wsV RX4 57 RX0 yX0_save wsX0_save) := goodIn_app (goodIn_of _ (by decide +kernel)) ggX4_drop_X0_save
theorem dX4_drop_0 : decode cX4_drop 0 = .ok (.aload_n 0, 1) := by decide +kernel
theorem dX4_drop_1 : decode cX4_drop 1 = .ok (.getfield 33, 3) := by decide +kernel
theorem dX4_drop_4 : decode cX4_drop 4 = .ok (.aload_n 0, 1) := by decide +kernel
theorem dX4_drop_5 : decode cX4_drop 5 = .ok (.getfield 10, 3) := by decide +kernel
theorem dX4_drop_8 : decode cX4_drop 8 = .ok (.invokevirtual 57, 3) := by decide +kernel
theorem dX4_drop_11 : decode cX4_drop 11 = .ok (.aload_n 0, 1) := by decide +kernel
theorem dX4_drop_12 : decode cX4_drop 12 = .ok (.getfield 10, 3) := by decide +kernel
theorem dX4_drop_15 : decode cX4_drop 15 = .ok (.getfield 99, 3) := by decide +kernel
theorem dX4_drop_18 : decode cX4_drop 18 = .ok (.istore_n 1, 1) := by decide +kernel
theorem dX4_drop_19 : decode cX4_drop 19 = .ok (.aload_n 0, 1) := by decide +kernel
theorem dX4_drop_20 : decode cX4_drop 20 = .ok (.getfield 10, 3) := by decide +kernel
theorem dX4_drop_23 : decode cX4_drop 23 = .ok (.dup, 1) := by decide +kernel
theorem dX4_drop_24 : decode cX4_drop 24 = .ok (.getfield 114, 3) := by decide +kernel
theorem dX4_drop_27 : decode cX4_drop 27 = .ok (.iload_n 1, 1) := by decide +kernel
theorem dX4_drop_28 : decode cX4_drop 28 = .ok (.iadd, 1) := by decide +kernel
theorem dX4_drop_29 : decode cX4_drop 29 = .ok (.putfield 114, 3) := by decide +kernel
theorem dX4_drop_32 : decode cX4_drop 32 = .ok (.aload_n 0, 1) := by decide +kernel
theorem dX4_drop_33 : decode cX4_drop 33 = .ok (.getfield 10, 3) := by decide +kernel
theorem dX4_drop_36 : decode cX4_drop 36 = .ok (.iconst 0, 1) := by decide +kernel
theorem dX4_drop_37 : decode cX4_drop 37 = .ok (.putfield 99, 3) := by decide +kernel
theorem dX4_drop_40 : decode cX4_drop 40 = .ok (.iload_n 1, 1) := by decide +kernel
theorem dX4_drop_41 : decode cX4_drop 41 = .ok (.ireturn, 1) := by decide +kernel
set_option maxRecDepth 20000 in
theorem ggX4_append_X3_add : GoodIn wsX4_append wsX3_add := goodIn_r _ [11, 12, 13, 19, 20] (by decide +kernel) (by decide +kernel)
set_option maxRecDepth 20000 in
theorem gX4_append_X3_add : GoodIn wsX4_append (wsV RX4 127 RX3 yX3_add wsX3_add) := goodIn_app (goodIn_of _ (by decide +kernel)) ggX4_append_X3_add
theorem dX4_append_0 : decode cX4_append 0 = .ok (.iload_n 1, 1) := by decide +kernel
theorem dX4_append_1 : decode cX4_append 1 = .ok (.bipush 33, 2) := by decide +kernel
theorem dX4_append_3 : decode cX4_append 3 = .ok (.if_icmp .lt 9, 3) := by decide +kernel
theorem dX4_append_6 : decode cX4_append 6 = .ok (.iload_n 1, 1) := by decide +kernel
theorem dX4_append_7 : decode cX4_append 7 = .ok (.bipush 126, 2) := by decide +kernel
theorem dX4_append_9 : decode cX4_append 9 = .ok (.if_icmp .le 13, 3) := by decide +kernel
theorem dX4_append_12 : decode cX4_append 12 = .ok (.new 52, 3) := by decide +kernel
theorem dX4_append_15 : decode cX4_append 15 = .ok (.dup, 1) := by decide +kernel
theorem dX4_append_16 : decode cX4_append 16 = .ok (.ldc 117, 2) := by decide +kernel
theorem dX4_append_18 : decode cX4_append 18 = .ok (.invokespecial 56, 3) := by decide +kernel
theorem dX4_append_21 : decode cX4_append 21 = .ok (.athrow, 1) := by decide +kernel
theorem dX4_append_22 : decode cX4_append 22 = .ok (.aload_n 0, 1) := by decide +kernel
theorem dX4_append_23 : decode cX4_append 23 = .ok (.getfield 26, 3) := by decide +kernel
theorem dX4_append_26 : decode cX4_append 26 = .ok (.getfield 119, 3) := by decide +kernel
theorem dX4_append_29 : decode cX4_append 29 = .ok (.bipush 60, 2) := by decide +kernel
theorem dX4_append_31 : decode cX4_append 31 = .ok (.if_icmp .lt 13, 3) := by decide +kernel
theorem dX4_append_34 : decode cX4_append 34 = .ok (.new 122, 3) := by decide +kernel
theorem dX4_append_37 : decode cX4_append 37 = .ok (.dup, 1) := by decide +kernel
theorem dX4_append_38 : decode cX4_append 38 = .ok (.ldc 124, 2) := by decide +kernel
theorem dX4_append_40 : decode cX4_append 40 = .ok (.invokespecial 126, 3) := by decide +kernel
theorem dX4_append_43 : decode cX4_append 43 = .ok (.athrow, 1) := by decide +kernel
theorem dX4_append_44 : decode cX4_append 44 = .ok (.aload_n 0, 1) := by decide +kernel
theorem dX4_append_45 : decode cX4_append 45 = .ok (.getfield 26, 3) := by decide +kernel
theorem dX4_append_48 : decode cX4_append 48 = .ok (.iload_n 1, 1) := by decide +kernel
theorem dX4_append_49 : decode cX4_append 49 = .ok (.i2c, 1) := by decide +kernel
theorem dX4_append_50 : decode cX4_append 50 = .ok (.invokevirtual 127, 3) := by decide +kernel
theorem dX4_append_53 : decode cX4_append 53 = .ok (.aload_n 0, 1) := by decide +kernel
theorem dX4_append_54 : decode cX4_append 54 = .ok (.getfield 26, 3) := by decide +kernel
theorem dX4_append_57 : decode cX4_append 57 = .ok (.getfield 119, 3) := by decide +kernel
theorem dX4_append_60 : decode cX4_append 60 = .ok (.ireturn, 1) := by decide +kernel
set_option maxRecDepth 20000 in
theorem ggX4_clearBuffer_X3_empty : GoodIn wsX4_clearBuffer wsX3_empty := goodIn_r _ [7, 8, 14, 15] (by decide +kernel) (by decide +kernel)
set_option maxRecDepth 20000 in
theorem gX4_clearBuffer_X3_empty : GoodIn wsX4_clearBuffer (wsV RX4 131 RX3 yX3_empty wsX3_empty) := goodIn_app (goodIn_of _ (by decide +kernel)) ggX4_clearBuffer_X3_empty
theorem dX4_clearBuffer_0 : decode cX4_clearBuffer 0 = .ok (.aload_n 0, 1) := by decide +kernel
theorem dX4_clearBuffer_1 : decode cX4_clearBuffer 1 = .ok (.getfield 26, 3) := by decide +kernel
theorem dX4_clearBuffer_4 : decode cX4_clearBuffer 4 = .ok (.getfield 119, 3) := by decide +kernel
theorem dX4_clearBuffer_7 : decode cX4_clearBuffer 7 = .ok (.istore_n 1, 1) := by decide +kernel
theorem dX4_clearBuffer_8 : decode cX4_clearBuffer 8 = .ok (.aload_n 0, 1) := by decide +kernel
theorem dX4_clearBuffer_9 : decode cX4_clearBuffer 9 = .ok (.getfield 26, 3) := by decide +kernel
theorem dX4_clearBuffer_12 : decode cX4_clearBuffer 12 = .ok (.invokevirtual 131, 3) := by decide +kernel
theorem dX4_clearBuffer_15 : decode cX4_clearBuffer 15 = .ok (.iload_n 1, 1) := by decide +kernel
theorem dX4_clearBuffer_16 : decode cX4_clearBuffer 16 = .ok (.ireturn, 1) := by decide +kernel
set_option maxRecDepth 20000 in
theorem ggX4_firstError_X3_errorPlace : GoodIn wsX4_firstError wsX3_errorPlace := goodIn_r _ [6, 7, 8, 9, 10, 5, 11, 12, 13, 14, 15, 16, 17, 18, 19, 25, 26] (by decide +kernel) (by decide +kernel)
set_option maxRecDepth 20000 in
theorem gX4_firstError_X3_errorPlace : GoodIn wsX4_firstError (wsV RX4 134 RX3 yX3_errorPlace wsX3_errorPlace) := goodIn_app (goodIn_of _ (by decide +kernel)) ggX4_firstError_X3_errorPlace
theorem dX4_firstError_0 : decode cX4_firstError 0 = .ok (.aload_n 0, 1) := by decide +kernel
theorem dX4_firstError_1 : decode cX4_firstError 1 = .ok (.getfield 26, 3) := by decide +kernel
theorem dX4_firstError_4 : decode cX4_firstError 4 = .ok (.invokevirtual 134, 3) := by decide +kernel
theorem dX4_firstError_7 : decode cX4_firstError 7 = .ok (.ireturn, 1) := by decide +kernel
set_option maxRecDepth 20000 in
theorem ggX4_load_X3_wordsTold : GoodIn wsX4_load wsX3_wordsTold := goodIn_r _ [10, 11, 12, 13, 14, 9, 15, 16, 17, 18, 19, 20, 21, 22, 23, 24, 25, 26, 27, 28, 29, 30, 31, 169, 170] (by decide +kernel) (by decide +kernel)
set_option maxRecDepth 20000 in
theorem gX4_load_X3_wordsTold : GoodIn wsX4_load (wsV RX4 137 RX3 yX3_wordsTold wsX3_wordsTold) := goodIn_app (goodIn_of _ (by decide +kernel)) ggX4_load_X3_wordsTold
set_option maxRecDepth 20000 in
theorem ggX4_load_X0_save : GoodIn wsX4_load wsX0_save := goodIn_r _ [36, 37, 38, 39, 40, 41, 42, 43, 44, 35, 45, 46, 47, 48, 49, 50, 51, 52, 53, 54, 55, 56, 57, 58, 59, 60, 61, 62, 63, 64, 65, 66, 67, 68, 69, 70, 71, 72, 171, 172, 173, 174, 175, 176, 177, 178, 179, 180, 181, 182, 183, 184, 185] (by decide +kernel) (by decide +kernel)
set_option maxRecDepth 20000 in
theorem gX4_load_X0_save : GoodIn wsX4_load (wsV RX4 57 RX0 yX0_save wsX0_save) := goodIn_app (goodIn_of _ (by decide +kernel)) ggX4_load_X0_save
set_option maxRecDepth 20000 in
theorem ggX4_load_X2_hasRoomFor : GoodIn wsX4_load wsX2_hasRoomFor := goodIn_r _ [76, 67, 173, 174, 175, 176, 177, 178, 179, 180, 181, 182, 183, 184, 185] (by decide +kernel) (by decide +kernel)
set_option maxRecDepth 20000 in
theorem gX4_load_X2_hasRoomFor : GoodIn wsX4_load (wsV RX4 88 RX2 yX2_hasRoomFor wsX2_hasRoomFor) := goodIn_app (goodIn_of _ (by decide +kernel)) ggX4_load_X2_hasRoomFor
set_option maxRecDepth 20000 in
theorem ggX4_load_X3_empty : GoodIn wsX4_load wsX3_empty := goodIn_r _ [80, 11, 169, 170] (by decide +kernel) (by decide +kernel)
set_option maxRecDepth 20000 in
theorem gX4_load_X3_empty : GoodIn wsX4_load (wsV RX4 131 RX3 yX3_empty wsX3_empty) := goodIn_app (goodIn_of _ (by decide +kernel)) ggX4_load_X3_empty
set_option maxRecDepth 20000 in
theorem ggX4_load_X4_refuse : GoodIn wsX4_load wsX4_refuse := goodIn_r _ [85, 5, 86, 164, 165, 166, 167, 168, 173, 174, 175, 176, 177, 178, 179, 180, 181, 182, 183, 184, 185] (by decide +kernel) (by decide +kernel)
set_option maxRecDepth 20000 in
theorem gX4_load_X4_refuse : GoodIn wsX4_load (wsV RX4 91 RX4 yX4_refuse wsX4_refuse) := goodIn_app (goodIn_of _ (by decide +kernel)) ggX4_load_X4_refuse
set_option maxRecDepth 20000 in
theorem ggX4_load_X3_wordAt : GoodIn wsX4_load wsX3_wordAt := goodIn_r _ [90, 16, 17, 18, 9, 19, 11, 20, 29, 30, 31, 169, 170] (by decide +kernel) (by decide +kernel)
set_option maxRecDepth 20000 in
theorem gX4_load_X3_wordAt : GoodIn wsX4_load (wsV RX4 142 RX3 yX3_wordAt wsX3_wordAt) := goodIn_app (goodIn_of _ (by decide +kernel)) ggX4_load_X3_wordAt
set_option maxRecDepth 20000 in
theorem ggX4_load_X2_addWord : GoodIn wsX4_load wsX2_addWord := goodIn_r _ [94, 95, 96, 41, 97, 98, 99, 100, 101, 67, 58, 173, 174, 175, 176, 177, 178, 179, 180, 181, 182, 183, 184, 185] (by decide +kernel) (by decide +kernel)
set_option maxRecDepth 20000 in
theorem gX4_load_X2_addWord : GoodIn wsX4_load (wsV RX4 108 RX2 yX2_addWord wsX2_addWord) := goodIn_app (goodIn_of _ (by decide +kernel)) ggX4_load_X2_addWord
set_option maxRecDepth 20000 in
theorem ggX4_load_X3_endsWithGap : GoodIn wsX4_load wsX3_endsWithGap := goodIn_r _ [15, 11, 16, 17, 18, 9, 19, 20, 169, 170] (by decide +kernel) (by decide +kernel)
set_option maxRecDepth 20000 in
theorem gX4_load_X3_endsWithGap : GoodIn wsX4_load (wsV RX4 146 RX3 yX3_endsWithGap wsX3_endsWithGap) := goodIn_app (goodIn_of _ (by decide +kernel)) ggX4_load_X3_endsWithGap
set_option maxRecDepth 20000 in
theorem ggX4_load_X4_letGapBe : GoodIn wsX4_load wsX4_letGapBe := goodIn_r _ [106, 107, 5, 108, 109, 110, 111, 112, 113, 114, 115, 116, 117, 118, 119, 120, 121, 122, 123, 124, 125, 126, 64, 65, 66, 127, 128, 129, 130, 131, 132, 133, 134, 135, 136, 137, 138, 139, 140, 141, 41, 142, 143, 144, 145, 146, 52, 147, 148, 149, 150, 151, 152, 153, 154, 155, 156, 157, 158, 57, 159, 160, 161, 162, 163, 95, 96, 97, 164, 165, 166, 167, 168, 173, 174, 175, 176, 177, 178, 179, 180, 181, 182, 183, 184, 185, 186, 187, 188, 189, 190, 191] (by decide +kernel) (by decide +kernel)
set_option maxRecDepth 20000 in
theorem gX4_load_X4_letGapBe : GoodIn wsX4_load (wsV RX4 111 RX4 yX4_letGapBe wsX4_letGapBe) := goodIn_app (goodIn_of _ (by decide +kernel)) ggX4_load_X4_letGapBe
theorem dX4_load_0 : decode cX4_load 0 = .ok (.aload_n 0, 1) := by decide +kernel
theorem dX4_load_1 : decode cX4_load 1 = .ok (.getfield 26, 3) := by decide +kernel
theorem dX4_load_4 : decode cX4_load 4 = .ok (.invokevirtual 137, 3) := by decide +kernel
theorem dX4_load_7 : decode cX4_load 7 = .ok (.istore_n 1, 1) := by decide +kernel
theorem dX4_load_8 : decode cX4_load 8 = .ok (.iload_n 1, 1) := by decide +kernel
theorem dX4_load_9 : decode cX4_load 9 = .ok (.ifCond .ne 13, 3) := by decide +kernel
theorem dX4_load_12 : decode cX4_load 12 = .ok (.new 52, 3) := by decide +kernel
theorem dX4_load_15 : decode cX4_load 15 = .ok (.dup, 1) := by decide +kernel
theorem dX4_load_16 : decode cX4_load 16 = .ok (.ldc 140, 2) := by decide +kernel
theorem dX4_load_18 : decode cX4_load 18 = .ok (.invokespecial 56, 3) := by decide +kernel
theorem dX4_load_21 : decode cX4_load 21 = .ok (.athrow, 1) := by decide +kernel
theorem dX4_load_22 : decode cX4_load 22 = .ok (.aload_n 0, 1) := by decide +kernel
theorem dX4_load_23 : decode cX4_load 23 = .ok (.getfield 33, 3) := by decide +kernel
theorem dX4_load_26 : decode cX4_load 26 = .ok (.aload_n 0, 1) := by decide +kernel
theorem dX4_load_27 : decode cX4_load 27 = .ok (.getfield 10, 3) := by decide +kernel
theorem dX4_load_30 : decode cX4_load 30 = .ok (.invokevirtual 57, 3) := by decide +kernel
theorem dX4_load_33 : decode cX4_load 33 = .ok (.aload_n 0, 1) := by decide +kernel
theorem dX4_load_34 : decode cX4_load 34 = .ok (.getfield 10, 3) := by decide +kernel
theorem dX4_load_37 : decode cX4_load 37 = .ok (.iload_n 1, 1) := by decide +kernel
theorem dX4_load_38 : decode cX4_load 38 = .ok (.bipush 12, 2) := by decide +kernel
theorem dX4_load_40 : decode cX4_load 40 = .ok (.imul, 1) := by decide +kernel
theorem dX4_load_41 : decode cX4_load 41 = .ok (.invokevirtual 88, 3) := by decide +kernel
theorem dX4_load_44 : decode cX4_load 44 = .ok (.ifCond .ne 15, 3) := by decide +kernel
theorem dX4_load_47 : decode cX4_load 47 = .ok (.aload_n 0, 1) := by decide +kernel
theorem dX4_load_48 : decode cX4_load 48 = .ok (.getfield 26, 3) := by decide +kernel
theorem dX4_load_51 : decode cX4_load 51 = .ok (.invokevirtual 131, 3) := by decide +kernel
theorem dX4_load_54 : decode cX4_load 54 = .ok (.aload_n 0, 1) := by decide +kernel
theorem dX4_load_55 : decode cX4_load 55 = .ok (.invokevirtual 91, 3) := by decide +kernel
theorem dX4_load_58 : decode cX4_load 58 = .ok (.ireturn, 1) := by decide +kernel
theorem dX4_load_59 : decode cX4_load 59 = .ok (.iconst 0, 1) := by decide +kernel
theorem dX4_load_60 : decode cX4_load 60 = .ok (.istore_n 2, 1) := by decide +kernel
theorem dX4_load_61 : decode cX4_load 61 = .ok (.iload_n 2, 1) := by decide +kernel
theorem dX4_load_62 : decode cX4_load 62 = .ok (.iload_n 1, 1) := by decide +kernel
theorem dX4_load_63 : decode cX4_load 63 = .ok (.if_icmp .ge 24, 3) := by decide +kernel
theorem dX4_load_66 : decode cX4_load 66 = .ok (.aload_n 0, 1) := by decide +kernel
theorem dX4_load_67 : decode cX4_load 67 = .ok (.getfield 10, 3) := by decide +kernel
theorem dX4_load_70 : decode cX4_load 70 = .ok (.aload_n 0, 1) := by decide +kernel
theorem dX4_load_71 : decode cX4_load 71 = .ok (.getfield 26, 3) := by decide +kernel
theorem dX4_load_74 : decode cX4_load 74 = .ok (.iload_n 2, 1) := by decide +kernel
theorem dX4_load_75 : decode cX4_load 75 = .ok (.invokevirtual 142, 3) := by decide +kernel
theorem dX4_load_78 : decode cX4_load 78 = .ok (.invokevirtual 108, 3) := by decide +kernel
theorem dX4_load_81 : decode cX4_load 81 = .ok (.iinc 2 1, 3) := by decide +kernel
theorem dX4_load_84 : decode cX4_load 84 = .ok (.goto (-23), 3) := by decide +kernel
theorem dX4_load_87 : decode cX4_load 87 = .ok (.aload_n 0, 1) := by decide +kernel
theorem dX4_load_88 : decode cX4_load 88 = .ok (.getfield 26, 3) := by decide +kernel
theorem dX4_load_91 : decode cX4_load 91 = .ok (.invokevirtual 146, 3) := by decide +kernel
theorem dX4_load_94 : decode cX4_load 94 = .ok (.ifCond .eq 8, 3) := by decide +kernel
theorem dX4_load_97 : decode cX4_load 97 = .ok (.aload_n 0, 1) := by decide +kernel
theorem dX4_load_98 : decode cX4_load 98 = .ok (.invokevirtual 111, 3) := by decide +kernel
theorem dX4_load_101 : decode cX4_load 101 = .ok (.pop, 1) := by decide +kernel
theorem dX4_load_102 : decode cX4_load 102 = .ok (.aload_n 0, 1) := by decide +kernel
theorem dX4_load_103 : decode cX4_load 103 = .ok (.getfield 26, 3) := by decide +kernel
theorem dX4_load_106 : decode cX4_load 106 = .ok (.invokevirtual 131, 3) := by decide +kernel
theorem dX4_load_109 : decode cX4_load 109 = .ok (.iload_n 1, 1) := by decide +kernel
theorem dX4_load_110 : decode cX4_load 110 = .ok (.ireturn, 1) := by decide +kernel
set_option maxRecDepth 20000 in
theorem ggX4_keep_X4_isSlot : GoodIn wsX4_keep wsX4_isSlot := goodIn_r _ [12] (by decide +kernel) (by decide +kernel)
set_option maxRecDepth 20000 in
theorem gX4_keep_X4_isSlot : GoodIn wsX4_keep (va_wsS RX4 150 yX4_isSlot wsX4_isSlot) := goodIn_app (goodIn_of _ (by decide +kernel)) ggX4_keep_X4_isSlot
set_option maxRecDepth 20000 in
theorem ggX4_keep_X2_init : GoodIn wsX4_keep wsX2_init := goodIn_r _ [14, 15, 16, 17, 18, 19, 20, 21, 22, 23, 24, 25, 45, 46, 47, 48, 49, 50, 51, 52, 53, 54, 55, 56, 57] (by decide +kernel) (by decide +kernel)
set_option maxRecDepth 20000 in
theorem gX4_keep_X2_init_n9 : GoodIn wsX4_keep (wsX2_init) := ggX4_keep_X2_init
set_option maxRecDepth 20000 in
theorem ggX4_keep_X2_copyFrom : GoodIn wsX4_keep wsX2_copyFrom := goodIn_r _ [29, 19, 30, 31, 32, 33, 20, 21, 22, 23, 24, 25, 34, 35, 36, 37, 38, 39, 45, 46, 47, 48, 49, 50, 51, 52, 53, 54, 55, 56, 57] (by decide +kernel) (by decide +kernel)
set_option maxRecDepth 20000 in
theorem gX4_keep_X2_copyFrom : GoodIn wsX4_keep (wsV RX4 155 RX2 yX2_copyFrom wsX2_copyFrom) := goodIn_app (goodIn_of _ (by decide +kernel)) ggX4_keep_X2_copyFrom
theorem dX4_keep_0 : decode cX4_keep 0 = .ok (.iload_n 1, 1) := by decide +kernel
theorem dX4_keep_1 : decode cX4_keep 1 = .ok (.invokestatic 150, 3) := by decide +kernel
theorem dX4_keep_4 : decode cX4_keep 4 = .ok (.ifCond .ne 13, 3) := by decide +kernel
theorem dX4_keep_7 : decode cX4_keep 7 = .ok (.new 52, 3) := by decide +kernel
theorem dX4_keep_10 : decode cX4_keep 10 = .ok (.dup, 1) := by decide +kernel
theorem dX4_keep_11 : decode cX4_keep 11 = .ok (.ldc 153, 2) := by decide +kernel
theorem dX4_keep_13 : decode cX4_keep 13 = .ok (.invokespecial 56, 3) := by decide +kernel
theorem dX4_keep_16 : decode cX4_keep 16 = .ok (.athrow, 1) := by decide +kernel
theorem dX4_keep_17 : decode cX4_keep 17 = .ok (.aload_n 0, 1) := by decide +kernel
theorem dX4_keep_18 : decode cX4_keep 18 = .ok (.getfield 37, 3) := by decide +kernel
theorem dX4_keep_21 : decode cX4_keep 21 = .ok (.iload_n 1, 1) := by decide +kernel
theorem dX4_keep_22 : decode cX4_keep 22 = .ok (.aaload, 1) := by decide +kernel
theorem dX4_keep_23 : decode cX4_keep 23 = .ok (.astore_n 2, 1) := by decide +kernel
theorem dX4_keep_24 : decode cX4_keep 24 = .ok (.aload_n 2, 1) := by decide +kernel
theorem dX4_keep_25 : decode cX4_keep 25 = .ok (.ifnonnull 18, 3) := by decide +kernel
theorem dX4_keep_28 : decode cX4_keep 28 = .ok (.new 7, 3) := by decide +kernel
theorem dX4_keep_31 : decode cX4_keep 31 = .ok (.dup, 1) := by decide +kernel
theorem dX4_keep_32 : decode cX4_keep 32 = .ok (.invokespecial 9, 3) := by decide +kernel
theorem dX4_keep_35 : decode cX4_keep 35 = .ok (.astore_n 2, 1) := by decide +kernel
theorem dX4_keep_36 : decode cX4_keep 36 = .ok (.aload_n 0, 1) := by decide +kernel
theorem dX4_keep_37 : decode cX4_keep 37 = .ok (.getfield 37, 3) := by decide +kernel
theorem dX4_keep_40 : decode cX4_keep 40 = .ok (.iload_n 1, 1) := by decide +kernel
theorem dX4_keep_41 : decode cX4_keep 41 = .ok (.aload_n 2, 1) := by decide +kernel
theorem dX4_keep_42 : decode cX4_keep 42 = .ok (.aastore, 1) := by decide +kernel
theorem dX4_keep_43 : decode cX4_keep 43 = .ok (.aload_n 2, 1) := by decide +kernel
theorem dX4_keep_44 : decode cX4_keep 44 = .ok (.aload_n 0, 1) := by decide +kernel
theorem dX4_keep_45 : decode cX4_keep 45 = .ok (.getfield 10, 3) := by decide +kernel
theorem dX4_keep_48 : decode cX4_keep 48 = .ok (.invokevirtual 155, 3) := by decide +kernel
theorem dX4_keep_51 : decode cX4_keep 51 = .ok (.aload_n 0, 1) := by decide +kernel
theorem dX4_keep_52 : decode cX4_keep 52 = .ok (.getfield 10, 3) := by decide +kernel
theorem dX4_keep_55 : decode cX4_keep 55 = .ok (.getfield 99, 3) := by decide +kernel
theorem dX4_keep_58 : decode cX4_keep 58 = .ok (.ireturn, 1) := by decide +kernel
set_option maxRecDepth 20000 in
theorem ggX4_goBack_X4_isSlot : GoodIn wsX4_goBack wsX4_isSlot := goodIn_r _ [12] (by decide +kernel) (by decide +kernel)
set_option maxRecDepth 20000 in
theorem gX4_goBack_X4_isSlot : GoodIn wsX4_goBack (va_wsS RX4 150 yX4_isSlot wsX4_isSlot) := goodIn_app (goodIn_of _ (by decide +kernel)) ggX4_goBack_X4_isSlot
set_option maxRecDepth 20000 in
theorem ggX4_goBack_X0_save : GoodIn wsX4_goBack wsX0_save := goodIn_r _ [17, 18, 19, 20, 21, 22, 23, 24, 25, 16, 26, 27, 28, 29, 30, 31, 32, 33, 34, 35, 36, 37, 38, 39, 40, 41, 42, 43, 44, 45, 46, 47, 48, 49, 50, 51, 52, 53, 73, 74, 60, 61, 62, 63, 64, 65, 66, 67, 68, 69, 70, 71, 72] (by decide +kernel) (by decide +kernel)
set_option maxRecDepth 20000 in
theorem gX4_goBack_X0_save : GoodIn wsX4_goBack (wsV RX4 57 RX0 yX0_save wsX0_save) := goodIn_app (goodIn_of _ (by decide +kernel)) ggX4_goBack_X0_save
set_option maxRecDepth 20000 in
theorem ggX4_goBack_X2_copyFrom : GoodIn wsX4_goBack wsX2_copyFrom := goodIn_r _ [43, 33, 44, 45, 46, 47, 34, 35, 36, 37, 38, 39, 48, 49, 50, 51, 52, 53, 60, 61, 62, 63, 64, 65, 66, 67, 68, 69, 70, 71, 72] (by decide +kernel) (by decide +kernel)
set_option maxRecDepth 20000 in
theorem gX4_goBack_X2_copyFrom : GoodIn wsX4_goBack (wsV RX4 155 RX2 yX2_copyFrom wsX2_copyFrom) := goodIn_app (goodIn_of _ (by decide +kernel)) ggX4_goBack_X2_copyFrom
theorem dX4_goBack_0 : decode cX4_goBack 0 = .ok (.iload_n 1, 1) := by decide +kernel
theorem dX4_goBack_1 : decode cX4_goBack 1 = .ok (.invokestatic 150, 3) := by decide +kernel
theorem dX4_goBack_4 : decode cX4_goBack 4 = .ok (.ifCond .ne 13, 3) := by decide +kernel
theorem dX4_goBack_7 : decode cX4_goBack 7 = .ok (.new 52, 3) := by decide +kernel
theorem dX4_goBack_10 : decode cX4_goBack 10 = .ok (.dup, 1) := by decide +kernel
theorem dX4_goBack_11 : decode cX4_goBack 11 = .ok (.ldc 153, 2) := by decide +kernel
theorem dX4_goBack_13 : decode cX4_goBack 13 = .ok (.invokespecial 56, 3) := by decide +kernel
theorem dX4_goBack_16 : decode cX4_goBack 16 = .ok (.athrow, 1) := by decide +kernel
theorem dX4_goBack_17 : decode cX4_goBack 17 = .ok (.aload_n 0, 1) := by decide +kernel
theorem dX4_goBack_18 : decode cX4_goBack 18 = .ok (.getfield 37, 3) := by decide +kernel
theorem dX4_goBack_21 : decode cX4_goBack 21 = .ok (.iload_n 1, 1) := by decide +kernel
theorem dX4_goBack_22 : decode cX4_goBack 22 = .ok (.aaload, 1) := by decide +kernel
theorem dX4_goBack_23 : decode cX4_goBack 23 = .ok (.astore_n 2, 1) := by decide +kernel
theorem dX4_goBack_24 : decode cX4_goBack 24 = .ok (.aload_n 2, 1) := by decide +kernel
theorem dX4_goBack_25 : decode cX4_goBack 25 = .ok (.ifnonnull 13, 3) := by decide +kernel
theorem dX4_goBack_28 : decode cX4_goBack 28 = .ok (.new 122, 3) := by decide +kernel
theorem dX4_goBack_31 : decode cX4_goBack 31 = .ok (.dup, 1) := by decide +kernel
theorem dX4_goBack_32 : decode cX4_goBack 32 = .ok (.ldc 158, 2) := by decide +kernel
theorem dX4_goBack_34 : decode cX4_goBack 34 = .ok (.invokespecial 126, 3) := by decide +kernel
theorem dX4_goBack_37 : decode cX4_goBack 37 = .ok (.athrow, 1) := by decide +kernel
theorem dX4_goBack_38 : decode cX4_goBack 38 = .ok (.aload_n 0, 1) := by decide +kernel
theorem dX4_goBack_39 : decode cX4_goBack 39 = .ok (.getfield 33, 3) := by decide +kernel
theorem dX4_goBack_42 : decode cX4_goBack 42 = .ok (.aload_n 0, 1) := by decide +kernel
theorem dX4_goBack_43 : decode cX4_goBack 43 = .ok (.getfield 10, 3) := by decide +kernel
theorem dX4_goBack_46 : decode cX4_goBack 46 = .ok (.invokevirtual 57, 3) := by decide +kernel
theorem dX4_goBack_49 : decode cX4_goBack 49 = .ok (.aload_n 0, 1) := by decide +kernel
theorem dX4_goBack_50 : decode cX4_goBack 50 = .ok (.getfield 10, 3) := by decide +kernel
theorem dX4_goBack_53 : decode cX4_goBack 53 = .ok (.aload_n 2, 1) := by decide +kernel
theorem dX4_goBack_54 : decode cX4_goBack 54 = .ok (.invokevirtual 155, 3) := by decide +kernel
theorem dX4_goBack_57 : decode cX4_goBack 57 = .ok (.aload_n 0, 1) := by decide +kernel
theorem dX4_goBack_58 : decode cX4_goBack 58 = .ok (.getfield 10, 3) := by decide +kernel
theorem dX4_goBack_61 : decode cX4_goBack 61 = .ok (.getfield 99, 3) := by decide +kernel
theorem dX4_goBack_64 : decode cX4_goBack 64 = .ok (.ireturn, 1) := by decide +kernel
set_option maxRecDepth 20000 in
theorem ggX4_undo_X0_latest : GoodIn wsX4_undo wsX0_latest := goodIn_r _ [10, 11, 12, 44, 45] (by decide +kernel) (by decide +kernel)
set_option maxRecDepth 20000 in
theorem gX4_undo_X0_latest : GoodIn wsX4_undo (wsV RX4 160 RX0 yX0_latest wsX0_latest) := goodIn_app (goodIn_of _ (by decide +kernel)) ggX4_undo_X0_latest
set_option maxRecDepth 20000 in
theorem ggX4_undo_X2_copyFrom : GoodIn wsX4_undo wsX2_copyFrom := goodIn_r _ [17, 18, 19, 20, 21, 22, 23, 24, 25, 26, 27, 28, 29, 30, 31, 32, 33, 34, 46, 47, 48, 49, 50, 51, 52, 53, 54, 55, 56, 57, 58] (by decide +kernel) (by decide +kernel)
set_option maxRecDepth 20000 in
theorem gX4_undo_X2_copyFrom : GoodIn wsX4_undo (wsV RX4 155 RX2 yX2_copyFrom wsX2_copyFrom) := goodIn_app (goodIn_of _ (by decide +kernel)) ggX4_undo_X2_copyFrom
set_option maxRecDepth 20000 in
theorem ggX4_undo_X0_forgetLatest : GoodIn wsX4_undo wsX0_forgetLatest := goodIn_r _ [38, 11, 44, 45] (by decide +kernel) (by decide +kernel)
set_option maxRecDepth 20000 in
theorem gX4_undo_X0_forgetLatest : GoodIn wsX4_undo (wsV RX4 166 RX0 yX0_forgetLatest wsX0_forgetLatest) := goodIn_app (goodIn_of _ (by decide +kernel)) ggX4_undo_X0_forgetLatest
theorem dX4_undo_0 : decode cX4_undo 0 = .ok (.aload_n 0, 1) := by decide +kernel
theorem dX4_undo_1 : decode cX4_undo 1 = .ok (.getfield 33, 3) := by decide +kernel
theorem dX4_undo_4 : decode cX4_undo 4 = .ok (.invokevirtual 160, 3) := by decide +kernel
theorem dX4_undo_7 : decode cX4_undo 7 = .ok (.astore_n 1, 1) := by decide +kernel
theorem dX4_undo_8 : decode cX4_undo 8 = .ok (.aload_n 1, 1) := by decide +kernel
theorem dX4_undo_9 : decode cX4_undo 9 = .ok (.ifnonnull 13, 3) := by decide +kernel
theorem dX4_undo_12 : decode cX4_undo 12 = .ok (.new 122, 3) := by decide +kernel
theorem dX4_undo_15 : decode cX4_undo 15 = .ok (.dup, 1) := by decide +kernel
theorem dX4_undo_16 : decode cX4_undo 16 = .ok (.ldc 164, 2) := by decide +kernel
theorem dX4_undo_18 : decode cX4_undo 18 = .ok (.invokespecial 126, 3) := by decide +kernel
theorem dX4_undo_21 : decode cX4_undo 21 = .ok (.athrow, 1) := by decide +kernel
theorem dX4_undo_22 : decode cX4_undo 22 = .ok (.aload_n 0, 1) := by decide +kernel
theorem dX4_undo_23 : decode cX4_undo 23 = .ok (.getfield 10, 3) := by decide +kernel
theorem dX4_undo_26 : decode cX4_undo 26 = .ok (.aload_n 1, 1) := by decide +kernel
theorem dX4_undo_27 : decode cX4_undo 27 = .ok (.invokevirtual 155, 3) := by decide +kernel
theorem dX4_undo_30 : decode cX4_undo 30 = .ok (.aload_n 0, 1) := by decide +kernel
theorem dX4_undo_31 : decode cX4_undo 31 = .ok (.getfield 33, 3) := by decide +kernel
theorem dX4_undo_34 : decode cX4_undo 34 = .ok (.invokevirtual 166, 3) := by decide +kernel
theorem dX4_undo_37 : decode cX4_undo 37 = .ok (.aload_n 0, 1) := by decide +kernel
theorem dX4_undo_38 : decode cX4_undo 38 = .ok (.getfield 33, 3) := by decide +kernel
theorem dX4_undo_41 : decode cX4_undo 41 = .ok (.getfield 169, 3) := by decide +kernel
theorem dX4_undo_44 : decode cX4_undo 44 = .ok (.ireturn, 1) := by decide +kernel
set_option maxRecDepth 20000 in
theorem ggX4_lampOf_X4_isLamp : GoodIn wsX4_lampOf wsX4_isLamp := goodIn_r _ [14] (by decide +kernel) (by decide +kernel)
set_option maxRecDepth 20000 in
theorem gX4_lampOf_X4_isLamp : GoodIn wsX4_lampOf (va_wsS RX4 41 yX4_isLamp wsX4_isLamp) := goodIn_app (goodIn_of _ (by decide +kernel)) ggX4_lampOf_X4_isLamp
set_option maxRecDepth 20000 in
theorem ggX4_lampOf_X2_brightnessOf : GoodIn wsX4_lampOf wsX2_brightnessOf := goodIn_r _ [18] (by decide +kernel) (by decide +kernel)
set_option maxRecDepth 20000 in
theorem gX4_lampOf_X2_brightnessOf : GoodIn wsX4_lampOf (va_wsS RX4 178 yX2_brightnessOf wsX2_brightnessOf) := goodIn_app (goodIn_of _ (by decide +kernel)) ggX4_lampOf_X2_brightnessOf
set_option maxRecDepth 20000 in
theorem ggX4_lampOf_X2_currentWanted : GoodIn wsX4_lampOf wsX2_currentWanted := goodIn_r _ [22, 23, 24, 16, 17, 18, 35, 36, 37, 38, 39, 40, 41, 42, 43, 44, 45, 46, 47] (by decide +kernel) (by decide +kernel)
set_option maxRecDepth 20000 in
theorem gX4_lampOf_X2_currentWanted : GoodIn wsX4_lampOf (wsV RX4 182 RX2 yX2_currentWanted wsX2_currentWanted) := goodIn_app (goodIn_of _ (by decide +kernel)) ggX4_lampOf_X2_currentWanted
set_option maxRecDepth 20000 in
theorem ggX4_lampOf_X2_shown : GoodIn wsX4_lampOf wsX2_shown := goodIn_r _ [28, 29, 35, 36, 37, 38, 39, 40, 41, 42, 43, 44, 45, 46, 47] (by decide +kernel) (by decide +kernel)
set_option maxRecDepth 20000 in
theorem gX4_lampOf_X2_shown : GoodIn wsX4_lampOf (wsV RX4 185 RX2 yX2_shown wsX2_shown) := goodIn_app (goodIn_of _ (by decide +kernel)) ggX4_lampOf_X2_shown
theorem dX4_lampOf_0 : decode cX4_lampOf 0 = .ok (.iload_n 1, 1) := by decide +kernel
theorem dX4_lampOf_1 : decode cX4_lampOf 1 = .ok (.invokestatic 41, 3) := by decide +kernel
theorem dX4_lampOf_4 : decode cX4_lampOf 4 = .ok (.ifCond .ne 13, 3) := by decide +kernel
theorem dX4_lampOf_7 : decode cX4_lampOf 7 = .ok (.new 45, 3) := by decide +kernel
theorem dX4_lampOf_10 : decode cX4_lampOf 10 = .ok (.dup, 1) := by decide +kernel
theorem dX4_lampOf_11 : decode cX4_lampOf 11 = .ok (.ldc 47, 2) := by decide +kernel
theorem dX4_lampOf_13 : decode cX4_lampOf 13 = .ok (.invokespecial 49, 3) := by decide +kernel
theorem dX4_lampOf_16 : decode cX4_lampOf 16 = .ok (.athrow, 1) := by decide +kernel
theorem dX4_lampOf_17 : decode cX4_lampOf 17 = .ok (.iload_n 2, 1) := by decide +kernel
theorem dX4_lampOf_18 : decode cX4_lampOf 18 = .ok (.tableswitch 126 0 7 #[46, 56, 66, 76, 86, 86, 86, 116], 46) := by decide +kernel
theorem dX4_lampOf_64 : decode cX4_lampOf 64 = .ok (.aload_n 0, 1) := by decide +kernel
theorem dX4_lampOf_65 : decode cX4_lampOf 65 = .ok (.getfield 10, 3) := by decide +kernel
theorem dX4_lampOf_68 : decode cX4_lampOf 68 = .ok (.getfield 61, 3) := by decide +kernel
theorem dX4_lampOf_71 : decode cX4_lampOf 71 = .ok (.iload_n 1, 1) := by decide +kernel
theorem dX4_lampOf_72 : decode cX4_lampOf 72 = .ok (.iaload, 1) := by decide +kernel
theorem dX4_lampOf_73 : decode cX4_lampOf 73 = .ok (.ireturn, 1) := by decide +kernel
theorem dX4_lampOf_74 : decode cX4_lampOf 74 = .ok (.aload_n 0, 1) := by decide +kernel
theorem dX4_lampOf_75 : decode cX4_lampOf 75 = .ok (.getfield 10, 3) := by decide +kernel
theorem dX4_lampOf_78 : decode cX4_lampOf 78 = .ok (.getfield 67, 3) := by decide +kernel
theorem dX4_lampOf_81 : decode cX4_lampOf 81 = .ok (.iload_n 1, 1) := by decide +kernel
theorem dX4_lampOf_82 : decode cX4_lampOf 82 = .ok (.iaload, 1) := by decide +kernel
theorem dX4_lampOf_83 : decode cX4_lampOf 83 = .ok (.ireturn, 1) := by decide +kernel
theorem dX4_lampOf_84 : decode cX4_lampOf 84 = .ok (.aload_n 0, 1) := by decide +kernel
theorem dX4_lampOf_85 : decode cX4_lampOf 85 = .ok (.getfield 10, 3) := by decide +kernel
theorem dX4_lampOf_88 : decode cX4_lampOf 88 = .ok (.getfield 172, 3) := by decide +kernel
theorem dX4_lampOf_91 : decode cX4_lampOf 91 = .ok (.iload_n 1, 1) := by decide +kernel
theorem dX4_lampOf_92 : decode cX4_lampOf 92 = .ok (.iaload, 1) := by decide +kernel
theorem dX4_lampOf_93 : decode cX4_lampOf 93 = .ok (.ireturn, 1) := by decide +kernel
theorem dX4_lampOf_94 : decode cX4_lampOf 94 = .ok (.aload_n 0, 1) := by decide +kernel
theorem dX4_lampOf_95 : decode cX4_lampOf 95 = .ok (.getfield 10, 3) := by decide +kernel
theorem dX4_lampOf_98 : decode cX4_lampOf 98 = .ok (.getfield 175, 3) := by decide +kernel
theorem dX4_lampOf_101 : decode cX4_lampOf 101 = .ok (.iload_n 1, 1) := by decide +kernel
theorem dX4_lampOf_102 : decode cX4_lampOf 102 = .ok (.iaload, 1) := by decide +kernel
theorem dX4_lampOf_103 : decode cX4_lampOf 103 = .ok (.ireturn, 1) := by decide +kernel
theorem dX4_lampOf_104 : decode cX4_lampOf 104 = .ok (.aload_n 0, 1) := by decide +kernel
theorem dX4_lampOf_105 : decode cX4_lampOf 105 = .ok (.getfield 10, 3) := by decide +kernel
theorem dX4_lampOf_108 : decode cX4_lampOf 108 = .ok (.aload_n 0, 1) := by decide +kernel
theorem dX4_lampOf_109 : decode cX4_lampOf 109 = .ok (.getfield 10, 3) := by decide +kernel
theorem dX4_lampOf_112 : decode cX4_lampOf 112 = .ok (.getfield 175, 3) := by decide +kernel
theorem dX4_lampOf_115 : decode cX4_lampOf 115 = .ok (.iload_n 1, 1) := by decide +kernel
theorem dX4_lampOf_116 : decode cX4_lampOf 116 = .ok (.iaload, 1) := by decide +kernel
theorem dX4_lampOf_117 : decode cX4_lampOf 117 = .ok (.iload_n 2, 1) := by decide +kernel
theorem dX4_lampOf_118 : decode cX4_lampOf 118 = .ok (.iconst 4, 1) := by decide +kernel
theorem dX4_lampOf_119 : decode cX4_lampOf 119 = .ok (.isub, 1) := by decide +kernel
theorem dX4_lampOf_120 : decode cX4_lampOf 120 = .ok (.invokestatic 178, 3) := by decide +kernel
theorem dX4_lampOf_123 : decode cX4_lampOf 123 = .ok (.aload_n 0, 1) := by decide +kernel
theorem dX4_lampOf_124 : decode cX4_lampOf 124 = .ok (.getfield 10, 3) := by decide +kernel
theorem dX4_lampOf_127 : decode cX4_lampOf 127 = .ok (.invokevirtual 182, 3) := by decide +kernel
theorem dX4_lampOf_130 : decode cX4_lampOf 130 = .ok (.invokevirtual 185, 3) := by decide +kernel
theorem dX4_lampOf_133 : decode cX4_lampOf 133 = .ok (.ireturn, 1) := by decide +kernel
theorem dX4_lampOf_134 : decode cX4_lampOf 134 = .ok (.aload_n 0, 1) := by decide +kernel
theorem dX4_lampOf_135 : decode cX4_lampOf 135 = .ok (.getfield 10, 3) := by decide +kernel
theorem dX4_lampOf_138 : decode cX4_lampOf 138 = .ok (.getfield 188, 3) := by decide +kernel
theorem dX4_lampOf_141 : decode cX4_lampOf 141 = .ok (.iload_n 1, 1) := by decide +kernel
theorem dX4_lampOf_142 : decode cX4_lampOf 142 = .ok (.iaload, 1) := by decide +kernel
theorem dX4_lampOf_143 : decode cX4_lampOf 143 = .ok (.ireturn, 1) := by decide +kernel
theorem dX4_lampOf_144 : decode cX4_lampOf 144 = .ok (.new 52, 3) := by decide +kernel
theorem dX4_lampOf_147 : decode cX4_lampOf 147 = .ok (.dup, 1) := by decide +kernel
theorem dX4_lampOf_148 : decode cX4_lampOf 148 = .ok (.ldc 191, 2) := by decide +kernel
theorem dX4_lampOf_150 : decode cX4_lampOf 150 = .ok (.invokespecial 56, 3) := by decide +kernel
theorem dX4_lampOf_153 : decode cX4_lampOf 153 = .ok (.athrow, 1) := by decide +kernel
theorem dX4_pulseAt_0 : decode cX4_pulseAt 0 = .ok (.iload_n 1, 1) := by decide +kernel
theorem dX4_pulseAt_1 : decode cX4_pulseAt 1 = .ok (.ifCond .ge 13, 3) := by decide +kernel
theorem dX4_pulseAt_4 : decode cX4_pulseAt 4 = .ok (.new 52, 3) := by decide +kernel
theorem dX4_pulseAt_7 : decode cX4_pulseAt 7 = .ok (.dup, 1) := by decide +kernel
theorem dX4_pulseAt_8 : decode cX4_pulseAt 8 = .ok (.ldc 193, 2) := by decide +kernel
theorem dX4_pulseAt_10 : decode cX4_pulseAt 10 = .ok (.invokespecial 56, 3) := by decide +kernel
theorem dX4_pulseAt_13 : decode cX4_pulseAt 13 = .ok (.athrow, 1) := by decide +kernel
theorem dX4_pulseAt_14 : decode cX4_pulseAt 14 = .ok (.iload_n 1, 1) := by decide +kernel
theorem dX4_pulseAt_15 : decode cX4_pulseAt 15 = .ok (.aload_n 0, 1) := by decide +kernel
theorem dX4_pulseAt_16 : decode cX4_pulseAt 16 = .ok (.getfield 10, 3) := by decide +kernel
theorem dX4_pulseAt_19 : decode cX4_pulseAt 19 = .ok (.getfield 99, 3) := by decide +kernel
theorem dX4_pulseAt_22 : decode cX4_pulseAt 22 = .ok (.if_icmp .ge 9, 3) := by decide +kernel
theorem dX4_pulseAt_25 : decode cX4_pulseAt 25 = .ok (.iload_n 1, 1) := by decide +kernel
theorem dX4_pulseAt_26 : decode cX4_pulseAt 26 = .ok (.bipush 120, 2) := by decide +kernel
theorem dX4_pulseAt_28 : decode cX4_pulseAt 28 = .ok (.if_icmp .lt 5, 3) := by decide +kernel
theorem dX4_pulseAt_31 : decode cX4_pulseAt 31 = .ok (.iconst (-1), 1) := by decide +kernel
theorem dX4_pulseAt_32 : decode cX4_pulseAt 32 = .ok (.ireturn, 1) := by decide +kernel
theorem dX4_pulseAt_33 : decode cX4_pulseAt 33 = .ok (.aload_n 0, 1) := by decide +kernel
theorem dX4_pulseAt_34 : decode cX4_pulseAt 34 = .ok (.getfield 10, 3) := by decide +kernel
theorem dX4_pulseAt_37 : decode cX4_pulseAt 37 = .ok (.getfield 195, 3) := by decide +kernel
theorem dX4_pulseAt_40 : decode cX4_pulseAt 40 = .ok (.iload_n 1, 1) := by decide +kernel
theorem dX4_pulseAt_41 : decode cX4_pulseAt 41 = .ok (.iaload, 1) := by decide +kernel
theorem dX4_pulseAt_42 : decode cX4_pulseAt 42 = .ok (.ireturn, 1) := by decide +kernel
set_option maxRecDepth 20000 in
theorem ggX4_count_X2_currentWanted : GoodIn wsX4_count wsX2_currentWanted := goodIn_r _ [16, 17, 18, 19, 15, 20, 40, 41, 42, 43, 44, 45, 46, 47, 48, 49, 50, 51, 52] (by decide +kernel) (by decide +kernel)
set_option maxRecDepth 20000 in
theorem gX4_count_X2_currentWanted : GoodIn wsX4_count (wsV RX4 182 RX2 yX2_currentWanted wsX2_currentWanted) := goodIn_app (goodIn_of _ (by decide +kernel)) ggX4_count_X2_currentWanted
set_option maxRecDepth 20000 in
theorem ggX4_count_X2_shownTogether : GoodIn wsX4_count wsX2_shownTogether := goodIn_r _ [24, 17, 25, 13, 14, 15, 16, 18, 19, 20, 26, 27, 28, 29, 30, 40, 41, 42, 43, 44, 45, 46, 47, 48, 49, 50, 51, 52] (by decide +kernel) (by decide +kernel)
set_option maxRecDepth 20000 in
theorem gX4_count_X2_shownTogether : GoodIn wsX4_count (wsV RX4 207 RX2 yX2_shownTogether wsX2_shownTogether) := goodIn_app (goodIn_of _ (by decide +kernel)) ggX4_count_X2_shownTogether
set_option maxRecDepth 20000 in
theorem ggX4_count_X2_lampsThatShine : GoodIn wsX4_count wsX2_lampsThatShine := goodIn_r _ [34, 17, 40, 41, 42, 43, 44, 45, 46, 47, 48, 49, 50, 51, 52] (by decide +kernel) (by decide +kernel)
set_option maxRecDepth 20000 in
theorem gX4_count_X2_lampsThatShine : GoodIn wsX4_count (wsV RX4 210 RX2 yX2_lampsThatShine wsX2_lampsThatShine) := goodIn_app (goodIn_of _ (by decide +kernel)) ggX4_count_X2_lampsThatShine
theorem dX4_count_0 : decode cX4_count 0 = .ok (.iload_n 1, 1) := by decide +kernel
theorem dX4_count_1 : decode cX4_count 1 = .ok (.tableswitch 171 0 10 #[59, 67, 75, 107, 115, 123, 131, 139, 147, 155, 163], 59) := by decide +kernel
theorem dX4_count_60 : decode cX4_count 60 = .ok (.aload_n 0, 1) := by decide +kernel
theorem dX4_count_61 : decode cX4_count 61 = .ok (.getfield 10, 3) := by decide +kernel
theorem dX4_count_64 : decode cX4_count 64 = .ok (.getfield 99, 3) := by decide +kernel
theorem dX4_count_67 : decode cX4_count 67 = .ok (.ireturn, 1) := by decide +kernel
theorem dX4_count_68 : decode cX4_count 68 = .ok (.aload_n 0, 1) := by decide +kernel
theorem dX4_count_69 : decode cX4_count 69 = .ok (.getfield 10, 3) := by decide +kernel
theorem dX4_count_72 : decode cX4_count 72 = .ok (.getfield 198, 3) := by decide +kernel
theorem dX4_count_75 : decode cX4_count 75 = .ok (.ireturn, 1) := by decide +kernel
theorem dX4_count_76 : decode cX4_count 76 = .ok (.aload_n 0, 1) := by decide +kernel
theorem dX4_count_77 : decode cX4_count 77 = .ok (.getfield 10, 3) := by decide +kernel
theorem dX4_count_80 : decode cX4_count 80 = .ok (.getfield 201, 3) := by decide +kernel
theorem dX4_count_83 : decode cX4_count 83 = .ok (.aload_n 0, 1) := by decide +kernel
theorem dX4_count_84 : decode cX4_count 84 = .ok (.getfield 10, 3) := by decide +kernel
theorem dX4_count_87 : decode cX4_count 87 = .ok (.getfield 204, 3) := by decide +kernel
theorem dX4_count_90 : decode cX4_count 90 = .ok (.iadd, 1) := by decide +kernel
theorem dX4_count_91 : decode cX4_count 91 = .ok (.aload_n 0, 1) := by decide +kernel
theorem dX4_count_92 : decode cX4_count 92 = .ok (.getfield 10, 3) := by decide +kernel
theorem dX4_count_95 : decode cX4_count 95 = .ok (.getfield 114, 3) := by decide +kernel
theorem dX4_count_98 : decode cX4_count 98 = .ok (.iadd, 1) := by decide +kernel
theorem dX4_count_99 : decode cX4_count 99 = .ok (.aload_n 0, 1) := by decide +kernel
theorem dX4_count_100 : decode cX4_count 100 = .ok (.getfield 10, 3) := by decide +kernel
theorem dX4_count_103 : decode cX4_count 103 = .ok (.getfield 99, 3) := by decide +kernel
theorem dX4_count_106 : decode cX4_count 106 = .ok (.iadd, 1) := by decide +kernel
theorem dX4_count_107 : decode cX4_count 107 = .ok (.ireturn, 1) := by decide +kernel
theorem dX4_count_108 : decode cX4_count 108 = .ok (.aload_n 0, 1) := by decide +kernel
theorem dX4_count_109 : decode cX4_count 109 = .ok (.getfield 10, 3) := by decide +kernel
theorem dX4_count_112 : decode cX4_count 112 = .ok (.getfield 201, 3) := by decide +kernel
theorem dX4_count_115 : decode cX4_count 115 = .ok (.ireturn, 1) := by decide +kernel
theorem dX4_count_116 : decode cX4_count 116 = .ok (.aload_n 0, 1) := by decide +kernel
theorem dX4_count_117 : decode cX4_count 117 = .ok (.getfield 10, 3) := by decide +kernel
theorem dX4_count_120 : decode cX4_count 120 = .ok (.getfield 204, 3) := by decide +kernel
theorem dX4_count_123 : decode cX4_count 123 = .ok (.ireturn, 1) := by decide +kernel
theorem dX4_count_124 : decode cX4_count 124 = .ok (.aload_n 0, 1) := by decide +kernel
theorem dX4_count_125 : decode cX4_count 125 = .ok (.getfield 10, 3) := by decide +kernel
theorem dX4_count_128 : decode cX4_count 128 = .ok (.getfield 114, 3) := by decide +kernel
theorem dX4_count_131 : decode cX4_count 131 = .ok (.ireturn, 1) := by decide +kernel
theorem dX4_count_132 : decode cX4_count 132 = .ok (.aload_n 0, 1) := by decide +kernel
theorem dX4_count_133 : decode cX4_count 133 = .ok (.getfield 10, 3) := by decide +kernel
theorem dX4_count_136 : decode cX4_count 136 = .ok (.invokevirtual 182, 3) := by decide +kernel
theorem dX4_count_139 : decode cX4_count 139 = .ok (.ireturn, 1) := by decide +kernel
theorem dX4_count_140 : decode cX4_count 140 = .ok (.aload_n 0, 1) := by decide +kernel
theorem dX4_count_141 : decode cX4_count 141 = .ok (.getfield 10, 3) := by decide +kernel
theorem dX4_count_144 : decode cX4_count 144 = .ok (.invokevirtual 207, 3) := by decide +kernel
theorem dX4_count_147 : decode cX4_count 147 = .ok (.ireturn, 1) := by decide +kernel
theorem dX4_count_148 : decode cX4_count 148 = .ok (.aload_n 0, 1) := by decide +kernel
theorem dX4_count_149 : decode cX4_count 149 = .ok (.getfield 10, 3) := by decide +kernel
theorem dX4_count_152 : decode cX4_count 152 = .ok (.invokevirtual 210, 3) := by decide +kernel
theorem dX4_count_155 : decode cX4_count 155 = .ok (.ireturn, 1) := by decide +kernel
theorem dX4_count_156 : decode cX4_count 156 = .ok (.aload_n 0, 1) := by decide +kernel
theorem dX4_count_157 : decode cX4_count 157 = .ok (.getfield 10, 3) := by decide +kernel
theorem dX4_count_160 : decode cX4_count 160 = .ok (.getfield 213, 3) := by decide +kernel
theorem dX4_count_163 : decode cX4_count 163 = .ok (.ireturn, 1) := by decide +kernel
theorem dX4_count_164 : decode cX4_count 164 = .ok (.aload_n 0, 1) := by decide +kernel
theorem dX4_count_165 : decode cX4_count 165 = .ok (.getfield 33, 3) := by decide +kernel
theorem dX4_count_168 : decode cX4_count 168 = .ok (.getfield 169, 3) := by decide +kernel
theorem dX4_count_171 : decode cX4_count 171 = .ok (.ireturn, 1) := by decide +kernel
theorem dX4_count_172 : decode cX4_count 172 = .ok (.new 52, 3) := by decide +kernel
theorem dX4_count_175 : decode cX4_count 175 = .ok (.dup, 1) := by decide +kernel
theorem dX4_count_176 : decode cX4_count 176 = .ok (.ldc 216, 2) := by decide +kernel
theorem dX4_count_178 : decode cX4_count 178 = .ok (.invokespecial 56, 3) := by decide +kernel
theorem dX4_count_181 : decode cX4_count 181 = .ok (.athrow, 1) := by decide +kernel
set_option maxRecDepth 20000 in
theorem ggX4_setting_X4_isSetting : GoodIn wsX4_setting wsX4_isSetting := goodIn_r _ [8] (by decide +kernel) (by decide +kernel)
set_option maxRecDepth 20000 in
theorem gX4_setting_X4_isSetting : GoodIn wsX4_setting (va_wsS RX4 70 yX4_isSetting wsX4_isSetting) := goodIn_app (goodIn_of _ (by decide +kernel)) ggX4_setting_X4_isSetting
theorem dX4_setting_0 : decode cX4_setting 0 = .ok (.iload_n 1, 1) := by decide +kernel
theorem dX4_setting_1 : decode cX4_setting 1 = .ok (.invokestatic 70, 3) := by decide +kernel
theorem dX4_setting_4 : decode cX4_setting 4 = .ok (.ifCond .ne 13, 3) := by decide +kernel
theorem dX4_setting_7 : decode cX4_setting 7 = .ok (.new 45, 3) := by decide +kernel
theorem dX4_setting_10 : decode cX4_setting 10 = .ok (.dup, 1) := by decide +kernel
theorem dX4_setting_11 : decode cX4_setting 11 = .ok (.ldc 73, 2) := by decide +kernel
theorem dX4_setting_13 : decode cX4_setting 13 = .ok (.invokespecial 49, 3) := by decide +kernel
theorem dX4_setting_16 : decode cX4_setting 16 = .ok (.athrow, 1) := by decide +kernel
theorem dX4_setting_17 : decode cX4_setting 17 = .ok (.aload_n 0, 1) := by decide +kernel
theorem dX4_setting_18 : decode cX4_setting 18 = .ok (.getfield 10, 3) := by decide +kernel
theorem dX4_setting_21 : decode cX4_setting 21 = .ok (.getfield 83, 3) := by decide +kernel
theorem dX4_setting_24 : decode cX4_setting 24 = .ok (.iload_n 1, 1) := by decide +kernel
theorem dX4_setting_25 : decode cX4_setting 25 = .ok (.iaload, 1) := by decide +kernel
theorem dX4_setting_26 : decode cX4_setting 26 = .ok (.ireturn, 1) := by decide +kernel
set_option maxRecDepth 20000 in
theorem ggX4_ifGap_X4_isLamp : GoodIn wsX4_ifGap wsX4_isLamp := goodIn_r _ [11] (by decide +kernel) (by decide +kernel)
set_option maxRecDepth 20000 in
theorem gX4_ifGap_X4_isLamp : GoodIn wsX4_ifGap (va_wsS RX4 41 yX4_isLamp wsX4_isLamp) := goodIn_app (goodIn_of _ (by decide +kernel)) ggX4_ifGap_X4_isLamp
set_option maxRecDepth 20000 in
theorem ggX4_ifGap_X2_wordByPlace : GoodIn wsX4_ifGap wsX2_wordByPlace := goodIn_r _ [16, 17, 18, 19, 20, 21, 22, 15, 23, 24, 25, 26, 27, 28, 29, 30, 31, 32, 33, 34, 35, 36, 37, 38, 39, 40, 41, 42, 43, 44, 45, 46, 47, 48, 96, 97, 98, 99, 100, 101, 102, 103, 104, 105, 106, 107, 108] (by decide +kernel) (by decide +kernel)
set_option maxRecDepth 20000 in
theorem gX4_ifGap_X2_wordByPlace : GoodIn wsX4_ifGap (wsV RX4 220 RX2 yX2_wordByPlace wsX2_wordByPlace) := goodIn_app (goodIn_of _ (by decide +kernel)) ggX4_ifGap_X2_wordByPlace
set_option maxRecDepth 20000 in
theorem ggX4_ifGap_X1_goThrough : GoodIn wsX4_ifGap wsX1_goThrough := goodIn_r _ [53, 54, 55, 56, 57, 58, 59, 60, 61, 62, 63, 64, 65, 66, 67, 68, 69, 70, 71, 52, 72, 73, 35, 15, 36, 74, 26, 27, 28, 24, 75, 76, 77, 78, 79, 80, 81, 82, 83, 43, 44, 45, 41, 84, 38, 39, 40, 42, 46, 47, 48, 96, 97, 98, 99, 100, 101, 102, 103, 104, 105, 106, 107, 108, 90, 91, 92, 93, 94, 95] (by decide +kernel) (by decide +kernel)
set_option maxRecDepth 20000 in
theorem gX4_ifGap_X1_goThrough : GoodIn wsX4_ifGap (wsV RX4 223 RX1 yX1_goThrough wsX1_goThrough) := goodIn_app (goodIn_of _ (by decide +kernel)) ggX4_ifGap_X1_goThrough
theorem dX4_ifGap_0 : decode cX4_ifGap 0 = .ok (.iload_n 1, 1) := by decide +kernel
theorem dX4_ifGap_1 : decode cX4_ifGap 1 = .ok (.invokestatic 41, 3) := by decide +kernel
theorem dX4_ifGap_4 : decode cX4_ifGap 4 = .ok (.ifCond .ne 13, 3) := by decide +kernel
theorem dX4_ifGap_7 : decode cX4_ifGap 7 = .ok (.new 45, 3) := by decide +kernel
theorem dX4_ifGap_10 : decode cX4_ifGap 10 = .ok (.dup, 1) := by decide +kernel
theorem dX4_ifGap_11 : decode cX4_ifGap 11 = .ok (.ldc 47, 2) := by decide +kernel
theorem dX4_ifGap_13 : decode cX4_ifGap 13 = .ok (.invokespecial 49, 3) := by decide +kernel
theorem dX4_ifGap_16 : decode cX4_ifGap 16 = .ok (.athrow, 1) := by decide +kernel
theorem dX4_ifGap_17 : decode cX4_ifGap 17 = .ok (.iload_n 2, 1) := by decide +kernel
theorem dX4_ifGap_18 : decode cX4_ifGap 18 = .ok (.ifCond .lt 8, 3) := by decide +kernel
theorem dX4_ifGap_21 : decode cX4_ifGap 21 = .ok (.iload_n 2, 1) := by decide +kernel
theorem dX4_ifGap_22 : decode cX4_ifGap 22 = .ok (.iconst 1, 1) := by decide +kernel
theorem dX4_ifGap_23 : decode cX4_ifGap 23 = .ok (.if_icmp .le 13, 3) := by decide +kernel
theorem dX4_ifGap_26 : decode cX4_ifGap 26 = .ok (.new 52, 3) := by decide +kernel
theorem dX4_ifGap_29 : decode cX4_ifGap 29 = .ok (.dup, 1) := by decide +kernel
theorem dX4_ifGap_30 : decode cX4_ifGap 30 = .ok (.ldc 218, 2) := by decide +kernel
theorem dX4_ifGap_32 : decode cX4_ifGap 32 = .ok (.invokespecial 56, 3) := by decide +kernel
theorem dX4_ifGap_35 : decode cX4_ifGap 35 = .ok (.athrow, 1) := by decide +kernel
theorem dX4_ifGap_36 : decode cX4_ifGap 36 = .ok (.iload_n 2, 1) := by decide +kernel
theorem dX4_ifGap_37 : decode cX4_ifGap 37 = .ok (.iconst 1, 1) := by decide +kernel
theorem dX4_ifGap_38 : decode cX4_ifGap 38 = .ok (.if_icmp .ne 12, 3) := by decide +kernel
theorem dX4_ifGap_41 : decode cX4_ifGap 41 = .ok (.aload_n 0, 1) := by decide +kernel
theorem dX4_ifGap_42 : decode cX4_ifGap 42 = .ok (.getfield 10, 3) := by decide +kernel
theorem dX4_ifGap_45 : decode cX4_ifGap 45 = .ok (.iload_n 1, 1) := by decide +kernel
theorem dX4_ifGap_46 : decode cX4_ifGap 46 = .ok (.invokevirtual 220, 3) := by decide +kernel
theorem dX4_ifGap_49 : decode cX4_ifGap 49 = .ok (.ireturn, 1) := by decide +kernel
theorem dX4_ifGap_50 : decode cX4_ifGap 50 = .ok (.aload_n 0, 1) := by decide +kernel
theorem dX4_ifGap_51 : decode cX4_ifGap 51 = .ok (.getfield 19, 3) := by decide +kernel
theorem dX4_ifGap_54 : decode cX4_ifGap 54 = .ok (.aload_n 0, 1) := by decide +kernel
theorem dX4_ifGap_55 : decode cX4_ifGap 55 = .ok (.getfield 10, 3) := by decide +kernel
theorem dX4_ifGap_58 : decode cX4_ifGap 58 = .ok (.invokevirtual 223, 3) := by decide +kernel
theorem dX4_ifGap_61 : decode cX4_ifGap 61 = .ok (.aload_n 0, 1) := by decide +kernel
theorem dX4_ifGap_62 : decode cX4_ifGap 62 = .ok (.getfield 19, 3) := by decide +kernel
theorem dX4_ifGap_65 : decode cX4_ifGap 65 = .ok (.getfield 226, 3) := by decide +kernel
theorem dX4_ifGap_68 : decode cX4_ifGap 68 = .ok (.iload_n 1, 1) := by decide +kernel
theorem dX4_ifGap_69 : decode cX4_ifGap 69 = .ok (.iaload, 1) := by decide +kernel
theorem dX4_ifGap_70 : decode cX4_ifGap 70 = .ok (.ireturn, 1) := by decide +kernel
set_option maxRecDepth 20000 in
theorem ggX4_wrong_X4_isWord : GoodIn wsX4_wrong wsX4_isWord := goodIn_r _ [7] (by decide +kernel) (by decide +kernel)
set_option maxRecDepth 20000 in
theorem gX4_wrong_X4_isWord : GoodIn wsX4_wrong (va_wsS RX4 103 yX4_isWord wsX4_isWord) := goodIn_app (goodIn_of _ (by decide +kernel)) ggX4_wrong_X4_isWord
set_option maxRecDepth 20000 in
theorem ggX4_wrong_X2_wrongWith : GoodIn wsX4_wrong wsX2_wrongWith := goodIn_r _ [12, 13, 14, 15, 16, 17, 11, 18, 19, 20, 21, 22, 23, 24, 25, 26, 27, 28, 29, 30, 31, 32, 33, 34, 40, 41, 42, 43, 44, 45, 46, 47, 48, 49, 50, 51, 52] (by decide +kernel) (by decide +kernel)
set_option maxRecDepth 20000 in
theorem gX4_wrong_X2_wrongWith : GoodIn wsX4_wrong (wsV RX4 229 RX2 yX2_wrongWith wsX2_wrongWith) := goodIn_app (goodIn_of _ (by decide +kernel)) ggX4_wrong_X2_wrongWith
theorem dX4_wrong_0 : decode cX4_wrong 0 = .ok (.iload_n 1, 1) := by decide +kernel
theorem dX4_wrong_1 : decode cX4_wrong 1 = .ok (.invokestatic 103, 3) := by decide +kernel
theorem dX4_wrong_4 : decode cX4_wrong 4 = .ok (.ifCond .ne 13, 3) := by decide +kernel
theorem dX4_wrong_7 : decode cX4_wrong 7 = .ok (.new 52, 3) := by decide +kernel
theorem dX4_wrong_10 : decode cX4_wrong 10 = .ok (.dup, 1) := by decide +kernel
theorem dX4_wrong_11 : decode cX4_wrong 11 = .ok (.ldc 106, 2) := by decide +kernel
theorem dX4_wrong_13 : decode cX4_wrong 13 = .ok (.invokespecial 56, 3) := by decide +kernel
theorem dX4_wrong_16 : decode cX4_wrong 16 = .ok (.athrow, 1) := by decide +kernel
theorem dX4_wrong_17 : decode cX4_wrong 17 = .ok (.aload_n 0, 1) := by decide +kernel
theorem dX4_wrong_18 : decode cX4_wrong 18 = .ok (.getfield 10, 3) := by decide +kernel
theorem dX4_wrong_21 : decode cX4_wrong 21 = .ok (.iload_n 1, 1) := by decide +kernel
theorem dX4_wrong_22 : decode cX4_wrong 22 = .ok (.iconst (-1), 1) := by decide +kernel
theorem dX4_wrong_23 : decode cX4_wrong 23 = .ok (.iconst 0, 1) := by decide +kernel
theorem dX4_wrong_24 : decode cX4_wrong 24 = .ok (.invokevirtual 229, 3) := by decide +kernel
theorem dX4_wrong_27 : decode cX4_wrong 27 = .ok (.ireturn, 1) := by decide +kernel
set_option maxRecDepth 20000 in
theorem ggX4_bears_X4_isLamp : GoodIn wsX4_bears wsX4_isLamp := goodIn_r _ [7] (by decide +kernel) (by decide +kernel)
set_option maxRecDepth 20000 in
theorem gX4_bears_X4_isLamp : GoodIn wsX4_bears (va_wsS RX4 41 yX4_isLamp wsX4_isLamp) := goodIn_app (goodIn_of _ (by decide +kernel)) ggX4_bears_X4_isLamp
set_option maxRecDepth 20000 in
theorem ggX4_bears_X2_wrongWith : GoodIn wsX4_bears wsX2_wrongWith := goodIn_r _ [12, 13, 14, 15, 16, 17, 11, 18, 19, 20, 21, 22, 23, 24, 25, 26, 27, 28, 29, 30, 31, 32, 33, 34, 40, 41, 42, 43, 44, 45, 46, 47, 48, 49, 50, 51, 52] (by decide +kernel) (by decide +kernel)
set_option maxRecDepth 20000 in
theorem gX4_bears_X2_wrongWith : GoodIn wsX4_bears (wsV RX4 229 RX2 yX2_wrongWith wsX2_wrongWith) := goodIn_app (goodIn_of _ (by decide +kernel)) ggX4_bears_X2_wrongWith
theorem dX4_bears_0 : decode cX4_bears 0 = .ok (.iload_n 1, 1) := by decide +kernel
theorem dX4_bears_1 : decode cX4_bears 1 = .ok (.invokestatic 41, 3) := by decide +kernel
theorem dX4_bears_4 : decode cX4_bears 4 = .ok (.ifCond .ne 13, 3) := by decide +kernel
theorem dX4_bears_7 : decode cX4_bears 7 = .ok (.new 45, 3) := by decide +kernel
theorem dX4_bears_10 : decode cX4_bears 10 = .ok (.dup, 1) := by decide +kernel
theorem dX4_bears_11 : decode cX4_bears 11 = .ok (.ldc 47, 2) := by decide +kernel
theorem dX4_bears_13 : decode cX4_bears 13 = .ok (.invokespecial 49, 3) := by decide +kernel
theorem dX4_bears_16 : decode cX4_bears 16 = .ok (.athrow, 1) := by decide +kernel
theorem dX4_bears_17 : decode cX4_bears 17 = .ok (.bipush 6, 2) := by decide +kernel
theorem dX4_bears_19 : decode cX4_bears 19 = .ok (.istore_n 2, 1) := by decide +kernel
theorem dX4_bears_20 : decode cX4_bears 20 = .ok (.iload_n 2, 1) := by decide +kernel
theorem dX4_bears_21 : decode cX4_bears 21 = .ok (.ifCond .lt 41, 3) := by decide +kernel
theorem dX4_bears_24 : decode cX4_bears 24 = .ok (.aload_n 0, 1) := by decide +kernel
theorem dX4_bears_25 : decode cX4_bears 25 = .ok (.getfield 10, 3) := by decide +kernel
theorem dX4_bears_28 : decode cX4_bears 28 = .ok (.sipush 1365, 3) := by decide +kernel
theorem dX4_bears_31 : decode cX4_bears 31 = .ok (.iload_n 1, 1) := by decide +kernel
theorem dX4_bears_32 : decode cX4_bears 32 = .ok (.iload_n 2, 1) := by decide +kernel
theorem dX4_bears_33 : decode cX4_bears 33 = .ok (.invokevirtual 229, 3) := by decide +kernel
theorem dX4_bears_36 : decode cX4_bears 36 = .ok (.ifCond .ne 20, 3) := by decide +kernel
theorem dX4_bears_39 : decode cX4_bears 39 = .ok (.aload_n 0, 1) := by decide +kernel
theorem dX4_bears_40 : decode cX4_bears 40 = .ok (.getfield 10, 3) := by decide +kernel
theorem dX4_bears_43 : decode cX4_bears 43 = .ok (.sipush 2730, 3) := by decide +kernel
theorem dX4_bears_46 : decode cX4_bears 46 = .ok (.iload_n 1, 1) := by decide +kernel
theorem dX4_bears_47 : decode cX4_bears 47 = .ok (.iload_n 2, 1) := by decide +kernel
theorem dX4_bears_48 : decode cX4_bears 48 = .ok (.invokevirtual 229, 3) := by decide +kernel
theorem dX4_bears_51 : decode cX4_bears 51 = .ok (.ifCond .ne 5, 3) := by decide +kernel
theorem dX4_bears_54 : decode cX4_bears 54 = .ok (.iload_n 2, 1) := by decide +kernel
theorem dX4_bears_55 : decode cX4_bears 55 = .ok (.ireturn, 1) := by decide +kernel
theorem dX4_bears_56 : decode cX4_bears 56 = .ok (.iinc 2 (-1), 3) := by decide +kernel
theorem dX4_bears_59 : decode cX4_bears 59 = .ok (.goto (-39), 3) := by decide +kernel
theorem dX4_bears_62 : decode cX4_bears 62 = .ok (.iconst (-1), 1) := by decide +kernel
theorem dX4_bears_63 : decode cX4_bears 63 = .ok (.ireturn, 1) := by decide +kernel
theorem dX4_brokenAt_0 : decode cX4_brokenAt 0 = .ok (.iconst 1, 1) := by decide +kernel
theorem dX4_brokenAt_1 : decode cX4_brokenAt 1 = .ok (.istore_n 1, 1) := by decide +kernel
theorem dX4_brokenAt_2 : decode cX4_brokenAt 2 = .ok (.iload_n 1, 1) := by decide +kernel
theorem dX4_brokenAt_3 : decode cX4_brokenAt 3 = .ok (.bipush 8, 2) := by decide +kernel
theorem dX4_brokenAt_5 : decode cX4_brokenAt 5 = .ok (.if_icmp .ge 26, 3) := by decide +kernel
theorem dX4_brokenAt_8 : decode cX4_brokenAt 8 = .ok (.aload_n 0, 1) := by decide +kernel
theorem dX4_brokenAt_9 : decode cX4_brokenAt 9 = .ok (.getfield 10, 3) := by decide +kernel
theorem dX4_brokenAt_12 : decode cX4_brokenAt 12 = .ok (.getfield 61, 3) := by decide +kernel
theorem dX4_brokenAt_15 : decode cX4_brokenAt 15 = .ok (.iload_n 1, 1) := by decide +kernel
theorem dX4_brokenAt_16 : decode cX4_brokenAt 16 = .ok (.iconst 1, 1) := by decide +kernel
theorem dX4_brokenAt_17 : decode cX4_brokenAt 17 = .ok (.isub, 1) := by decide +kernel
theorem dX4_brokenAt_18 : decode cX4_brokenAt 18 = .ok (.iaload, 1) := by decide +kernel
theorem dX4_brokenAt_19 : decode cX4_brokenAt 19 = .ok (.iconst 2, 1) := by decide +kernel
theorem dX4_brokenAt_20 : decode cX4_brokenAt 20 = .ok (.if_icmp .ne 5, 3) := by decide +kernel
theorem dX4_brokenAt_23 : decode cX4_brokenAt 23 = .ok (.iload_n 1, 1) := by decide +kernel
theorem dX4_brokenAt_24 : decode cX4_brokenAt 24 = .ok (.ireturn, 1) := by decide +kernel
theorem dX4_brokenAt_25 : decode cX4_brokenAt 25 = .ok (.iinc 1 1, 3) := by decide +kernel
theorem dX4_brokenAt_28 : decode cX4_brokenAt 28 = .ok (.goto (-26), 3) := by decide +kernel
theorem dX4_brokenAt_31 : decode cX4_brokenAt 31 = .ok (.iconst (-1), 1) := by decide +kernel
theorem dX4_brokenAt_32 : decode cX4_brokenAt 32 = .ok (.ireturn, 1) := by decide +kernel
set_option maxRecDepth 20000 in
theorem ggX4_wordsTo_X4_isLamp : GoodIn wsX4_wordsTo wsX4_isLamp := goodIn_r _ [7] (by decide +kernel) (by decide +kernel)
set_option maxRecDepth 20000 in
theorem gX4_wordsTo_X4_isLamp : GoodIn wsX4_wordsTo (va_wsS RX4 41 yX4_isLamp wsX4_isLamp) := goodIn_app (goodIn_of _ (by decide +kernel)) ggX4_wordsTo_X4_isLamp
set_option maxRecDepth 20000 in
theorem ggX4_wordsTo_X2_wordsUpTo : GoodIn wsX4_wordsTo wsX2_wordsUpTo := goodIn_r _ [12, 13, 14, 15, 16, 11, 17, 23, 24, 25, 26, 27, 28, 29, 30, 31, 32, 33, 34, 35] (by decide +kernel) (by decide +kernel)
set_option maxRecDepth 20000 in
theorem gX4_wordsTo_X2_wordsUpTo : GoodIn wsX4_wordsTo (wsV RX4 233 RX2 yX2_wordsUpTo wsX2_wordsUpTo) := goodIn_app (goodIn_of _ (by decide +kernel)) ggX4_wordsTo_X2_wordsUpTo
theorem dX4_wordsTo_0 : decode cX4_wordsTo 0 = .ok (.iload_n 1, 1) := by decide +kernel
theorem dX4_wordsTo_1 : decode cX4_wordsTo 1 = .ok (.invokestatic 41, 3) := by decide +kernel
theorem dX4_wordsTo_4 : decode cX4_wordsTo 4 = .ok (.ifCond .ne 13, 3) := by decide +kernel
theorem dX4_wordsTo_7 : decode cX4_wordsTo 7 = .ok (.new 45, 3) := by decide +kernel
theorem dX4_wordsTo_10 : decode cX4_wordsTo 10 = .ok (.dup, 1) := by decide +kernel
theorem dX4_wordsTo_11 : decode cX4_wordsTo 11 = .ok (.ldc 47, 2) := by decide +kernel
theorem dX4_wordsTo_13 : decode cX4_wordsTo 13 = .ok (.invokespecial 49, 3) := by decide +kernel
theorem dX4_wordsTo_16 : decode cX4_wordsTo 16 = .ok (.athrow, 1) := by decide +kernel
theorem dX4_wordsTo_17 : decode cX4_wordsTo 17 = .ok (.aload_n 0, 1) := by decide +kernel
theorem dX4_wordsTo_18 : decode cX4_wordsTo 18 = .ok (.getfield 10, 3) := by decide +kernel
theorem dX4_wordsTo_21 : decode cX4_wordsTo 21 = .ok (.iload_n 1, 1) := by decide +kernel
theorem dX4_wordsTo_22 : decode cX4_wordsTo 22 = .ok (.invokevirtual 233, 3) := by decide +kernel
theorem dX4_wordsTo_25 : decode cX4_wordsTo 25 = .ok (.ireturn, 1) := by decide +kernel
set_option maxRecDepth 20000 in
theorem ggX4_brightness_X2_shownTogether : GoodIn wsX4_brightness wsX2_shownTogether := goodIn_r _ [7, 8, 9, 10, 11, 6, 12, 13, 14, 15, 16, 17, 18, 19, 20, 26, 27, 28, 29, 30, 31, 32, 33, 34, 35, 36, 37, 38] (by decide +kernel) (by decide +kernel)
set_option maxRecDepth 20000 in
theorem gX4_brightness_X2_shownTogether : GoodIn wsX4_brightness (wsV RX4 207 RX2 yX2_shownTogether wsX2_shownTogether) := goodIn_app (goodIn_of _ (by decide +kernel)) ggX4_brightness_X2_shownTogether
theorem dX4_brightness_0 : decode cX4_brightness 0 = .ok (.aload_n 0, 1) := by decide +kernel
theorem dX4_brightness_1 : decode cX4_brightness 1 = .ok (.getfield 10, 3) := by decide +kernel
theorem dX4_brightness_4 : decode cX4_brightness 4 = .ok (.invokevirtual 207, 3) := by decide +kernel
theorem dX4_brightness_7 : decode cX4_brightness 7 = .ok (.i2d, 1) := by decide +kernel
theorem dX4_brightness_8 : decode cX4_brightness 8 = .ok (.ldc2_w 236, 3) := by decide +kernel
theorem dX4_brightness_11 : decode cX4_brightness 11 = .ok (.ddiv, 1) := by decide +kernel
theorem dX4_brightness_12 : decode cX4_brightness 12 = .ok (.dreturn, 1) := by decide +kernel
set_option maxRecDepth 20000 in
theorem ggX4_digest_X4_count : GoodIn wsX4_digest wsX4_count := goodIn_ca (goodIn_r _ [15, 16, 17, 3, 5, 18, 19, 20, 21, 22, 23, 24, 25, 26, 27, 28, 29, 30, 31, 32, 33, 34, 35, 36, 37, 38, 39, 40, 41, 42, 43, 44, 45, 46, 47, 171, 172, 173, 174, 175, 176, 177, 178, 179, 180, 181, 182, 183, 184, 185, 186, 187, 188, 191, 192] (by decide +kernel) (by decide +kernel)) (goodIn_sub (fun _ h => List.mem_cons_of_mem _ (List.mem_append_left _ (List.mem_append_right _ h))) (by decide +kernel))
set_option maxRecDepth 20000 in
theorem gX4_digest_X4_count : GoodIn wsX4_digest (wsV RX4 242 RX4 yX4_count wsX4_count) := goodIn_app (goodIn_of _ (by decide +kernel)) ggX4_digest_X4_count
set_option maxRecDepth 20000 in
theorem ggX4_digest_X4_withLamps : GoodIn wsX4_digest wsX4_withLamps := goodIn_ca (goodIn_ca (goodIn_r _ [51, 52, 3, 2, 53, 54, 55, 56, 57, 58, 59, 60, 61, 62, 63, 64, 65, 66, 67, 68, 69, 70, 71, 72, 73, 74, 75, 76, 77, 78, 79, 28, 80, 81, 82, 83, 84, 85, 86, 87, 88, 89, 90, 91, 92, 93, 94, 95, 96, 97, 43, 98, 99, 100, 101, 102, 103, 104, 105, 106, 107, 108, 14, 109, 110, 111, 16, 17, 112, 113, 114, 115, 116, 117, 118, 119, 120, 32, 33, 25, 26, 27, 29, 30, 31, 121, 40, 41, 42, 122, 123, 124, 125, 126, 127, 128, 129, 130, 131, 132, 133, 134, 135, 136, 137, 138, 139, 140, 141, 142, 143, 144, 145, 146, 147, 148, 149, 171, 172, 173, 174, 175, 193, 194, 195, 196, 197, 198, 176, 177, 178, 179, 180, 181, 182, 183, 184, 185, 186, 187, 188] (by decide +kernel) (by decide +kernel)) (goodIn_sub (fun _ h => List.mem_cons_of_mem _ (List.mem_append_right _ h)) (by decide +kernel))) (goodIn_sub (fun _ h => List.mem_cons_of_mem _ (List.mem_append_left _ (List.mem_append_right _ h))) (by decide +kernel))
set_option maxRecDepth 20000 in
theorem gX4_digest_X4_withLamps : GoodIn wsX4_digest (wsV RX4 245 RX4 yX4_withLamps wsX4_withLamps) := goodIn_app (goodIn_of _ (by decide +kernel)) ggX4_digest_X4_withLamps
set_option maxRecDepth 20000 in
theorem ggX4_digest_X4_wrong : GoodIn wsX4_digest wsX4_wrong := goodIn_ca (goodIn_r _ [153, 16, 17, 3, 154, 155, 14, 156, 145, 146, 147, 28, 148, 138, 127, 85, 139, 79, 80, 133, 82, 83, 84, 102, 95, 96, 97, 43, 140, 99, 100, 101, 103, 104, 105, 171, 172, 173, 174, 175, 176, 177, 178, 179, 180, 181, 182, 183, 184, 185, 186, 187, 188] (by decide +kernel) (by decide +kernel)) (goodIn_sub (fun _ h => List.mem_cons_of_mem _ (List.mem_append_left _ (List.mem_append_right _ h))) (by decide +kernel))
set_option maxRecDepth 20000 in
theorem gX4_digest_X4_wrong : GoodIn wsX4_digest (wsV RX4 249 RX4 yX4_wrong wsX4_wrong) := goodIn_app (goodIn_of _ (by decide +kernel)) ggX4_digest_X4_wrong
set_option maxRecDepth 20000 in
theorem ggX4_digest_X4_brokenAt : GoodIn wsX4_digest wsX4_brokenAt := goodIn_r _ [160, 3, 112, 171, 172, 173, 174, 175, 176, 177, 178, 179, 180, 181, 182, 183, 184, 185, 186, 187, 188] (by decide +kernel) (by decide +kernel)
set_option maxRecDepth 20000 in
theorem gX4_digest_X4_brokenAt : GoodIn wsX4_digest (wsV RX4 252 RX4 yX4_brokenAt wsX4_brokenAt) := goodIn_app (goodIn_of _ (by decide +kernel)) ggX4_digest_X4_brokenAt
set_option maxRecDepth 20000 in
theorem ggX4_digest_X4_brightness : GoodIn wsX4_digest wsX4_brightness := goodIn_r _ [164, 3, 165, 34, 35, 36, 28, 37, 30, 38, 26, 27, 29, 31, 32, 33, 39, 40, 41, 42, 43, 171, 172, 173, 174, 175, 176, 177, 178, 179, 180, 181, 182, 183, 184, 185, 186, 187, 188] (by decide +kernel) (by decide +kernel)
set_option maxRecDepth 20000 in
theorem gX4_digest_X4_brightness : GoodIn wsX4_digest (wsV RX4 255 RX4 yX4_brightness wsX4_brightness) := goodIn_app (goodIn_of _ (by decide +kernel)) ggX4_digest_X4_brightness
set_option maxRecDepth 20000 in
theorem ggX4_digest_X4_bitsOf : GoodIn wsX4_digest wsX4_bitsOf := goodIn_r _ [168, 169, 170] (by decide +kernel) (by decide +kernel)
set_option maxRecDepth 20000 in
theorem gX4_digest_X4_bitsOf : GoodIn wsX4_digest (va_wsS RX4 259 yX4_bitsOf wsX4_bitsOf) := goodIn_app (goodIn_of _ (by decide +kernel)) ggX4_digest_X4_bitsOf
theorem dX4_digest_0 : decode cX4_digest 0 = .ok (.ldc2_w 238, 3) := by decide +kernel
theorem dX4_digest_3 : decode cX4_digest 3 = .ok (.lstore_n 1, 1) := by decide +kernel
theorem dX4_digest_4 : decode cX4_digest 4 = .ok (.iconst 0, 1) := by decide +kernel
theorem dX4_digest_5 : decode cX4_digest 5 = .ok (.istore_n 3, 1) := by decide +kernel
theorem dX4_digest_6 : decode cX4_digest 6 = .ok (.iload_n 3, 1) := by decide +kernel
theorem dX4_digest_7 : decode cX4_digest 7 = .ok (.bipush 11, 2) := by decide +kernel
theorem dX4_digest_9 : decode cX4_digest 9 = .ok (.if_icmp .ge 22, 3) := by decide +kernel
theorem dX4_digest_12 : decode cX4_digest 12 = .ok (.ldc2_w 240, 3) := by decide +kernel
theorem dX4_digest_15 : decode cX4_digest 15 = .ok (.lload_n 1, 1) := by decide +kernel
theorem dX4_digest_16 : decode cX4_digest 16 = .ok (.lmul, 1) := by decide +kernel
theorem dX4_digest_17 : decode cX4_digest 17 = .ok (.aload_n 0, 1) := by decide +kernel
theorem dX4_digest_18 : decode cX4_digest 18 = .ok (.iload_n 3, 1) := by decide +kernel
theorem dX4_digest_19 : decode cX4_digest 19 = .ok (.invokevirtual 242, 3) := by decide +kernel
theorem dX4_digest_22 : decode cX4_digest 22 = .ok (.i2l, 1) := by decide +kernel
theorem dX4_digest_23 : decode cX4_digest 23 = .ok (.ladd, 1) := by decide +kernel
theorem dX4_digest_24 : decode cX4_digest 24 = .ok (.lstore_n 1, 1) := by decide +kernel
theorem dX4_digest_25 : decode cX4_digest 25 = .ok (.iinc 3 1, 3) := by decide +kernel
theorem dX4_digest_28 : decode cX4_digest 28 = .ok (.goto (-22), 3) := by decide +kernel
theorem dX4_digest_31 : decode cX4_digest 31 = .ok (.iconst 0, 1) := by decide +kernel
theorem dX4_digest_32 : decode cX4_digest 32 = .ok (.istore_n 3, 1) := by decide +kernel
theorem dX4_digest_33 : decode cX4_digest 33 = .ok (.iload_n 3, 1) := by decide +kernel
theorem dX4_digest_34 : decode cX4_digest 34 = .ok (.iconst 3, 1) := by decide +kernel
theorem dX4_digest_35 : decode cX4_digest 35 = .ok (.if_icmp .ge 26, 3) := by decide +kernel
theorem dX4_digest_38 : decode cX4_digest 38 = .ok (.ldc2_w 240, 3) := by decide +kernel
theorem dX4_digest_41 : decode cX4_digest 41 = .ok (.lload_n 1, 1) := by decide +kernel
theorem dX4_digest_42 : decode cX4_digest 42 = .ok (.lmul, 1) := by decide +kernel
theorem dX4_digest_43 : decode cX4_digest 43 = .ok (.aload_n 0, 1) := by decide +kernel
theorem dX4_digest_44 : decode cX4_digest 44 = .ok (.getfield 10, 3) := by decide +kernel
theorem dX4_digest_47 : decode cX4_digest 47 = .ok (.getfield 83, 3) := by decide +kernel
theorem dX4_digest_50 : decode cX4_digest 50 = .ok (.iload_n 3, 1) := by decide +kernel
theorem dX4_digest_51 : decode cX4_digest 51 = .ok (.iaload, 1) := by decide +kernel
theorem dX4_digest_52 : decode cX4_digest 52 = .ok (.i2l, 1) := by decide +kernel
theorem dX4_digest_53 : decode cX4_digest 53 = .ok (.ladd, 1) := by decide +kernel
theorem dX4_digest_54 : decode cX4_digest 54 = .ok (.lstore_n 1, 1) := by decide +kernel
theorem dX4_digest_55 : decode cX4_digest 55 = .ok (.iinc 3 1, 3) := by decide +kernel
theorem dX4_digest_58 : decode cX4_digest 58 = .ok (.goto (-25), 3) := by decide +kernel
theorem dX4_digest_61 : decode cX4_digest 61 = .ok (.aload_n 0, 1) := by decide +kernel
theorem dX4_digest_62 : decode cX4_digest 62 = .ok (.lload_n 1, 1) := by decide +kernel
theorem dX4_digest_63 : decode cX4_digest 63 = .ok (.invokevirtual 245, 3) := by decide +kernel
theorem dX4_digest_66 : decode cX4_digest 66 = .ok (.lstore_n 1, 1) := by decide +kernel
theorem dX4_digest_67 : decode cX4_digest 67 = .ok (.iconst 0, 1) := by decide +kernel
theorem dX4_digest_68 : decode cX4_digest 68 = .ok (.istore_n 3, 1) := by decide +kernel
theorem dX4_digest_69 : decode cX4_digest 69 = .ok (.iload_n 3, 1) := by decide +kernel
theorem dX4_digest_70 : decode cX4_digest 70 = .ok (.aload_n 0, 1) := by decide +kernel
theorem dX4_digest_71 : decode cX4_digest 71 = .ok (.getfield 10, 3) := by decide +kernel
theorem dX4_digest_74 : decode cX4_digest 74 = .ok (.getfield 99, 3) := by decide +kernel
theorem dX4_digest_77 : decode cX4_digest 77 = .ok (.if_icmp .ge 32, 3) := by decide +kernel
theorem dX4_digest_80 : decode cX4_digest 80 = .ok (.iload_n 3, 1) := by decide +kernel
theorem dX4_digest_81 : decode cX4_digest 81 = .ok (.bipush 120, 2) := by decide +kernel
theorem dX4_digest_83 : decode cX4_digest 83 = .ok (.if_icmp .ge 26, 3) := by decide +kernel
theorem dX4_digest_86 : decode cX4_digest 86 = .ok (.ldc2_w 240, 3) := by decide +kernel
theorem dX4_digest_89 : decode cX4_digest 89 = .ok (.lload_n 1, 1) := by decide +kernel
theorem dX4_digest_90 : decode cX4_digest 90 = .ok (.lmul, 1) := by decide +kernel
theorem dX4_digest_91 : decode cX4_digest 91 = .ok (.aload_n 0, 1) := by decide +kernel
theorem dX4_digest_92 : decode cX4_digest 92 = .ok (.getfield 10, 3) := by decide +kernel
theorem dX4_digest_95 : decode cX4_digest 95 = .ok (.getfield 195, 3) := by decide +kernel
theorem dX4_digest_98 : decode cX4_digest 98 = .ok (.iload_n 3, 1) := by decide +kernel
theorem dX4_digest_99 : decode cX4_digest 99 = .ok (.iaload, 1) := by decide +kernel
theorem dX4_digest_100 : decode cX4_digest 100 = .ok (.i2l, 1) := by decide +kernel
theorem dX4_digest_101 : decode cX4_digest 101 = .ok (.ladd, 1) := by decide +kernel
theorem dX4_digest_102 : decode cX4_digest 102 = .ok (.lstore_n 1, 1) := by decide +kernel
theorem dX4_digest_103 : decode cX4_digest 103 = .ok (.iinc 3 1, 3) := by decide +kernel
theorem dX4_digest_106 : decode cX4_digest 106 = .ok (.goto (-37), 3) := by decide +kernel
theorem dX4_digest_109 : decode cX4_digest 109 = .ok (.ldc2_w 240, 3) := by decide +kernel
theorem dX4_digest_112 : decode cX4_digest 112 = .ok (.lload_n 1, 1) := by decide +kernel
theorem dX4_digest_113 : decode cX4_digest 113 = .ok (.lmul, 1) := by decide +kernel
theorem dX4_digest_114 : decode cX4_digest 114 = .ok (.aload_n 0, 1) := by decide +kernel
theorem dX4_digest_115 : decode cX4_digest 115 = .ok (.sipush 1365, 3) := by decide +kernel
theorem dX4_digest_118 : decode cX4_digest 118 = .ok (.invokevirtual 249, 3) := by decide +kernel
theorem dX4_digest_121 : decode cX4_digest 121 = .ok (.i2l, 1) := by decide +kernel
theorem dX4_digest_122 : decode cX4_digest 122 = .ok (.ladd, 1) := by decide +kernel
theorem dX4_digest_123 : decode cX4_digest 123 = .ok (.lstore_n 1, 1) := by decide +kernel
theorem dX4_digest_124 : decode cX4_digest 124 = .ok (.ldc2_w 240, 3) := by decide +kernel
theorem dX4_digest_127 : decode cX4_digest 127 = .ok (.lload_n 1, 1) := by decide +kernel
theorem dX4_digest_128 : decode cX4_digest 128 = .ok (.lmul, 1) := by decide +kernel
theorem dX4_digest_129 : decode cX4_digest 129 = .ok (.aload_n 0, 1) := by decide +kernel
theorem dX4_digest_130 : decode cX4_digest 130 = .ok (.sipush 4095, 3) := by decide +kernel
theorem dX4_digest_133 : decode cX4_digest 133 = .ok (.invokevirtual 249, 3) := by decide +kernel
theorem dX4_digest_136 : decode cX4_digest 136 = .ok (.i2l, 1) := by decide +kernel
theorem dX4_digest_137 : decode cX4_digest 137 = .ok (.ladd, 1) := by decide +kernel
theorem dX4_digest_138 : decode cX4_digest 138 = .ok (.lstore_n 1, 1) := by decide +kernel
theorem dX4_digest_139 : decode cX4_digest 139 = .ok (.ldc2_w 240, 3) := by decide +kernel
theorem dX4_digest_142 : decode cX4_digest 142 = .ok (.lload_n 1, 1) := by decide +kernel
theorem dX4_digest_143 : decode cX4_digest 143 = .ok (.lmul, 1) := by decide +kernel
theorem dX4_digest_144 : decode cX4_digest 144 = .ok (.aload_n 0, 1) := by decide +kernel
theorem dX4_digest_145 : decode cX4_digest 145 = .ok (.invokevirtual 252, 3) := by decide +kernel
theorem dX4_digest_148 : decode cX4_digest 148 = .ok (.i2l, 1) := by decide +kernel
theorem dX4_digest_149 : decode cX4_digest 149 = .ok (.ladd, 1) := by decide +kernel
theorem dX4_digest_150 : decode cX4_digest 150 = .ok (.lstore_n 1, 1) := by decide +kernel
theorem dX4_digest_151 : decode cX4_digest 151 = .ok (.ldc2_w 240, 3) := by decide +kernel
theorem dX4_digest_154 : decode cX4_digest 154 = .ok (.lload_n 1, 1) := by decide +kernel
theorem dX4_digest_155 : decode cX4_digest 155 = .ok (.lmul, 1) := by decide +kernel
theorem dX4_digest_156 : decode cX4_digest 156 = .ok (.aload_n 0, 1) := by decide +kernel
theorem dX4_digest_157 : decode cX4_digest 157 = .ok (.invokevirtual 255, 3) := by decide +kernel
theorem dX4_digest_160 : decode cX4_digest 160 = .ok (.invokestatic 259, 3) := by decide +kernel
theorem dX4_digest_163 : decode cX4_digest 163 = .ok (.ladd, 1) := by decide +kernel
theorem dX4_digest_164 : decode cX4_digest 164 = .ok (.lstore_n 1, 1) := by decide +kernel
theorem dX4_digest_165 : decode cX4_digest 165 = .ok (.iconst 0, 1) := by decide +kernel
theorem dX4_digest_166 : decode cX4_digest 166 = .ok (.istore_n 3, 1) := by decide +kernel
theorem dX4_digest_167 : decode cX4_digest 167 = .ok (.iload_n 3, 1) := by decide +kernel
theorem dX4_digest_168 : decode cX4_digest 168 = .ok (.iconst 2, 1) := by decide +kernel
theorem dX4_digest_169 : decode cX4_digest 169 = .ok (.if_icmp .ge 31, 3) := by decide +kernel
theorem dX4_digest_172 : decode cX4_digest 172 = .ok (.ldc2_w 240, 3) := by decide +kernel
theorem dX4_digest_175 : decode cX4_digest 175 = .ok (.lload_n 1, 1) := by decide +kernel
theorem dX4_digest_176 : decode cX4_digest 176 = .ok (.lmul, 1) := by decide +kernel
theorem dX4_digest_177 : decode cX4_digest 177 = .ok (.aload_n 0, 1) := by decide +kernel
theorem dX4_digest_178 : decode cX4_digest 178 = .ok (.getfield 37, 3) := by decide +kernel
theorem dX4_digest_181 : decode cX4_digest 181 = .ok (.iload_n 3, 1) := by decide +kernel
theorem dX4_digest_182 : decode cX4_digest 182 = .ok (.aaload, 1) := by decide +kernel
theorem dX4_digest_183 : decode cX4_digest 183 = .ok (.ifnonnull 7, 3) := by decide +kernel
theorem dX4_digest_186 : decode cX4_digest 186 = .ok (.iconst 0, 1) := by decide +kernel
theorem dX4_digest_187 : decode cX4_digest 187 = .ok (.goto 4, 3) := by decide +kernel
theorem dX4_digest_190 : decode cX4_digest 190 = .ok (.iconst 1, 1) := by decide +kernel
theorem dX4_digest_191 : decode cX4_digest 191 = .ok (.i2l, 1) := by decide +kernel
theorem dX4_digest_192 : decode cX4_digest 192 = .ok (.ladd, 1) := by decide +kernel
theorem dX4_digest_193 : decode cX4_digest 193 = .ok (.lstore_n 1, 1) := by decide +kernel
theorem dX4_digest_194 : decode cX4_digest 194 = .ok (.iinc 3 1, 3) := by decide +kernel
theorem dX4_digest_197 : decode cX4_digest 197 = .ok (.goto (-30), 3) := by decide +kernel
theorem dX4_digest_200 : decode cX4_digest 200 = .ok (.ldc2_w 240, 3) := by decide +kernel
theorem dX4_digest_203 : decode cX4_digest 203 = .ok (.lload_n 1, 1) := by decide +kernel
theorem dX4_digest_204 : decode cX4_digest 204 = .ok (.lmul, 1) := by decide +kernel
theorem dX4_digest_205 : decode cX4_digest 205 = .ok (.aload_n 0, 1) := by decide +kernel
theorem dX4_digest_206 : decode cX4_digest 206 = .ok (.getfield 26, 3) := by decide +kernel
theorem dX4_digest_209 : decode cX4_digest 209 = .ok (.getfield 119, 3) := by decide +kernel
theorem dX4_digest_212 : decode cX4_digest 212 = .ok (.i2l, 1) := by decide +kernel
theorem dX4_digest_213 : decode cX4_digest 213 = .ok (.ladd, 1) := by decide +kernel
theorem dX4_digest_214 : decode cX4_digest 214 = .ok (.lstore_n 1, 1) := by decide +kernel
theorem dX4_digest_215 : decode cX4_digest 215 = .ok (.iconst 0, 1) := by decide +kernel
theorem dX4_digest_216 : decode cX4_digest 216 = .ok (.istore_n 3, 1) := by decide +kernel
theorem dX4_digest_217 : decode cX4_digest 217 = .ok (.iload_n 3, 1) := by decide +kernel
theorem dX4_digest_218 : decode cX4_digest 218 = .ok (.aload_n 0, 1) := by decide +kernel
theorem dX4_digest_219 : decode cX4_digest 219 = .ok (.getfield 26, 3) := by decide +kernel
theorem dX4_digest_222 : decode cX4_digest 222 = .ok (.getfield 119, 3) := by decide +kernel
theorem dX4_digest_225 : decode cX4_digest 225 = .ok (.if_icmp .ge 32, 3) := by decide +kernel
theorem dX4_digest_228 : decode cX4_digest 228 = .ok (.iload_n 3, 1) := by decide +kernel
theorem dX4_digest_229 : decode cX4_digest 229 = .ok (.bipush 60, 2) := by decide +kernel
theorem dX4_digest_231 : decode cX4_digest 231 = .ok (.if_icmp .ge 26, 3) := by decide +kernel
theorem dX4_digest_234 : decode cX4_digest 234 = .ok (.ldc2_w 240, 3) := by decide +kernel
theorem dX4_digest_237 : decode cX4_digest 237 = .ok (.lload_n 1, 1) := by decide +kernel
theorem dX4_digest_238 : decode cX4_digest 238 = .ok (.lmul, 1) := by decide +kernel
theorem dX4_digest_239 : decode cX4_digest 239 = .ok (.aload_n 0, 1) := by decide +kernel
theorem dX4_digest_240 : decode cX4_digest 240 = .ok (.getfield 26, 3) := by decide +kernel
theorem dX4_digest_243 : decode cX4_digest 243 = .ok (.getfield 263, 3) := by decide +kernel
theorem dX4_digest_246 : decode cX4_digest 246 = .ok (.iload_n 3, 1) := by decide +kernel
theorem dX4_digest_247 : decode cX4_digest 247 = .ok (.caload, 1) := by decide +kernel
theorem dX4_digest_248 : decode cX4_digest 248 = .ok (.i2l, 1) := by decide +kernel
theorem dX4_digest_249 : decode cX4_digest 249 = .ok (.ladd, 1) := by decide +kernel
theorem dX4_digest_250 : decode cX4_digest 250 = .ok (.lstore_n 1, 1) := by decide +kernel
theorem dX4_digest_251 : decode cX4_digest 251 = .ok (.iinc 3 1, 3) := by decide +kernel
theorem dX4_digest_254 : decode cX4_digest 254 = .ok (.goto (-37), 3) := by decide +kernel
theorem dX4_digest_257 : decode cX4_digest 257 = .ok (.lload_n 1, 1) := by decide +kernel
theorem dX4_digest_258 : decode cX4_digest 258 = .ok (.lreturn, 1) := by decide +kernel
set_option maxRecDepth 20000 in
theorem ggX4_withLamps_X1_goThrough : GoodIn wsX4_withLamps wsX1_goThrough := goodIn_r _ [9, 10, 11, 12, 13, 14, 15, 16, 17, 18, 19, 20, 21, 22, 23, 24, 25, 26, 27, 8, 28, 29, 30, 31, 32, 33, 34, 35, 36, 37, 38, 39, 40, 41, 42, 43, 44, 45, 46, 47, 48, 49, 50, 51, 52, 53, 54, 55, 56, 57, 58, 128, 129, 130, 131, 132, 133, 134, 135, 136, 137, 138, 139, 140, 122, 123, 124, 125, 126, 127] (by decide +kernel) (by decide +kernel)
set_option maxRecDepth 20000 in
theorem gX4_withLamps_X1_goThrough : GoodIn wsX4_withLamps (wsV RX4 223 RX1 yX1_goThrough wsX1_goThrough) := goodIn_app (goodIn_of _ (by decide +kernel)) ggX4_withLamps_X1_goThrough
set_option maxRecDepth 20000 in
theorem ggX4_withLamps_X4_lampOf : GoodIn wsX4_withLamps wsX4_lampOf := goodIn_ca (goodIn_ca (goodIn_r _ [63, 64, 65, 66, 67, 2, 68, 69, 70, 71, 72, 73, 74, 62, 75, 76, 77, 31, 78, 79, 80, 81, 82, 83, 84, 85, 86, 87, 88, 50, 117, 118, 119, 120, 121, 128, 129, 130, 131, 132, 133, 134, 135, 136, 137, 138, 139, 140] (by decide +kernel) (by decide +kernel)) (goodIn_sub (fun _ h => List.mem_cons_of_mem _ (List.mem_append_left _ (List.mem_append_right _ h))) (by decide +kernel))) (goodIn_sub (fun _ h => List.mem_cons_of_mem _ (List.mem_append_right _ h)) (by decide +kernel))
set_option maxRecDepth 20000 in
theorem gX4_withLamps_X4_lampOf : GoodIn wsX4_withLamps (wsV RX4 267 RX4 yX4_lampOf wsX4_lampOf) := goodIn_app (goodIn_of _ (by decide +kernel)) ggX4_withLamps_X4_lampOf
set_option maxRecDepth 20000 in
theorem ggX4_withLamps_X2_wordByPlace : GoodIn wsX4_withLamps wsX2_wordByPlace := goodIn_r _ [92, 93, 94, 95, 96, 97, 98, 31, 99, 37, 100, 34, 35, 36, 101, 102, 103, 104, 105, 106, 30, 32, 107, 52, 53, 54, 50, 55, 47, 48, 49, 56, 57, 58, 128, 129, 130, 131, 132, 133, 134, 135, 136, 137, 138, 139, 140] (by decide +kernel) (by decide +kernel)
set_option maxRecDepth 20000 in
theorem gX4_withLamps_X2_wordByPlace : GoodIn wsX4_withLamps (wsV RX4 220 RX2 yX2_wordByPlace wsX2_wordByPlace) := goodIn_app (goodIn_of _ (by decide +kernel)) ggX4_withLamps_X2_wordByPlace
set_option maxRecDepth 20000 in
theorem ggX4_withLamps_X4_bears : GoodIn wsX4_withLamps wsX4_bears := goodIn_ca (goodIn_r _ [111, 64, 65, 2, 73, 74, 62, 75, 112, 113, 114, 31, 115, 105, 94, 37, 106, 30, 32, 100, 34, 35, 36, 55, 47, 48, 49, 50, 107, 52, 53, 54, 56, 57, 58, 117, 118, 119, 120, 121, 128, 129, 130, 131, 132, 133, 134, 135, 136, 137, 138, 139, 140] (by decide +kernel) (by decide +kernel)) (goodIn_sub (fun _ h => List.mem_cons_of_mem _ (List.mem_append_left _ (List.mem_append_right _ h))) (by decide +kernel))
set_option maxRecDepth 20000 in
theorem gX4_withLamps_X4_bears : GoodIn wsX4_withLamps (wsV RX4 270 RX4 yX4_bears wsX4_bears) := goodIn_app (goodIn_of _ (by decide +kernel)) ggX4_withLamps_X4_bears
set_option maxRecDepth 20000 in
theorem ggX4_withLamps_X2_wordsUpTo : GoodIn wsX4_withLamps wsX2_wordsUpTo := goodIn_r _ [99, 37, 100, 34, 35, 31, 36, 128, 129, 130, 131, 132, 133, 134, 135, 136, 137, 138, 139, 140] (by decide +kernel) (by decide +kernel)
set_option maxRecDepth 20000 in
theorem gX4_withLamps_X2_wordsUpTo : GoodIn wsX4_withLamps (wsV RX4 233 RX2 yX2_wordsUpTo wsX2_wordsUpTo) := goodIn_app (goodIn_of _ (by decide +kernel)) ggX4_withLamps_X2_wordsUpTo
theorem dX4_withLamps_0 : decode cX4_withLamps 0 = .ok (.lload_n 1, 1) := by decide +kernel
theorem dX4_withLamps_1 : decode cX4_withLamps 1 = .ok (.lstore_n 3, 1) := by decide +kernel
theorem dX4_withLamps_2 : decode cX4_withLamps 2 = .ok (.aload_n 0, 1) := by decide +kernel
theorem dX4_withLamps_3 : decode cX4_withLamps 3 = .ok (.getfield 19, 3) := by decide +kernel
theorem dX4_withLamps_6 : decode cX4_withLamps 6 = .ok (.aload_n 0, 1) := by decide +kernel
theorem dX4_withLamps_7 : decode cX4_withLamps 7 = .ok (.getfield 10, 3) := by decide +kernel
theorem dX4_withLamps_10 : decode cX4_withLamps 10 = .ok (.invokevirtual 223, 3) := by decide +kernel
theorem dX4_withLamps_13 : decode cX4_withLamps 13 = .ok (.iconst 0, 1) := by decide +kernel
theorem dX4_withLamps_14 : decode cX4_withLamps 14 = .ok (.istore 5, 2) := by decide +kernel
theorem dX4_withLamps_16 : decode cX4_withLamps 16 = .ok (.iload 5, 2) := by decide +kernel
theorem dX4_withLamps_18 : decode cX4_withLamps 18 = .ok (.bipush 8, 2) := by decide +kernel
theorem dX4_withLamps_20 : decode cX4_withLamps 20 = .ok (.if_icmp .ge 107, 3) := by decide +kernel
theorem dX4_withLamps_23 : decode cX4_withLamps 23 = .ok (.iconst 0, 1) := by decide +kernel
theorem dX4_withLamps_24 : decode cX4_withLamps 24 = .ok (.istore 6, 2) := by decide +kernel
theorem dX4_withLamps_26 : decode cX4_withLamps 26 = .ok (.iload 6, 2) := by decide +kernel
theorem dX4_withLamps_28 : decode cX4_withLamps 28 = .ok (.bipush 8, 2) := by decide +kernel
theorem dX4_withLamps_30 : decode cX4_withLamps 30 = .ok (.if_icmp .ge 25, 3) := by decide +kernel
theorem dX4_withLamps_33 : decode cX4_withLamps 33 = .ok (.ldc2_w 240, 3) := by decide +kernel
theorem dX4_withLamps_36 : decode cX4_withLamps 36 = .ok (.lload_n 3, 1) := by decide +kernel
theorem dX4_withLamps_37 : decode cX4_withLamps 37 = .ok (.lmul, 1) := by decide +kernel
theorem dX4_withLamps_38 : decode cX4_withLamps 38 = .ok (.aload_n 0, 1) := by decide +kernel
theorem dX4_withLamps_39 : decode cX4_withLamps 39 = .ok (.iload 5, 2) := by decide +kernel
theorem dX4_withLamps_41 : decode cX4_withLamps 41 = .ok (.iload 6, 2) := by decide +kernel
theorem dX4_withLamps_43 : decode cX4_withLamps 43 = .ok (.invokevirtual 267, 3) := by decide +kernel
theorem dX4_withLamps_46 : decode cX4_withLamps 46 = .ok (.i2l, 1) := by decide +kernel
theorem dX4_withLamps_47 : decode cX4_withLamps 47 = .ok (.ladd, 1) := by decide +kernel
theorem dX4_withLamps_48 : decode cX4_withLamps 48 = .ok (.lstore_n 3, 1) := by decide +kernel
theorem dX4_withLamps_49 : decode cX4_withLamps 49 = .ok (.iinc 6 1, 3) := by decide +kernel
theorem dX4_withLamps_52 : decode cX4_withLamps 52 = .ok (.goto (-26), 3) := by decide +kernel
theorem dX4_withLamps_55 : decode cX4_withLamps 55 = .ok (.ldc2_w 240, 3) := by decide +kernel
theorem dX4_withLamps_58 : decode cX4_withLamps 58 = .ok (.lload_n 3, 1) := by decide +kernel
theorem dX4_withLamps_59 : decode cX4_withLamps 59 = .ok (.lmul, 1) := by decide +kernel
theorem dX4_withLamps_60 : decode cX4_withLamps 60 = .ok (.aload_n 0, 1) := by decide +kernel
theorem dX4_withLamps_61 : decode cX4_withLamps 61 = .ok (.getfield 19, 3) := by decide +kernel
theorem dX4_withLamps_64 : decode cX4_withLamps 64 = .ok (.getfield 226, 3) := by decide +kernel
theorem dX4_withLamps_67 : decode cX4_withLamps 67 = .ok (.iload 5, 2) := by decide +kernel
theorem dX4_withLamps_69 : decode cX4_withLamps 69 = .ok (.iaload, 1) := by decide +kernel
theorem dX4_withLamps_70 : decode cX4_withLamps 70 = .ok (.i2l, 1) := by decide +kernel
theorem dX4_withLamps_71 : decode cX4_withLamps 71 = .ok (.ladd, 1) := by decide +kernel
theorem dX4_withLamps_72 : decode cX4_withLamps 72 = .ok (.lstore_n 3, 1) := by decide +kernel
theorem dX4_withLamps_73 : decode cX4_withLamps 73 = .ok (.ldc2_w 240, 3) := by decide +kernel
theorem dX4_withLamps_76 : decode cX4_withLamps 76 = .ok (.lload_n 3, 1) := by decide +kernel
theorem dX4_withLamps_77 : decode cX4_withLamps 77 = .ok (.lmul, 1) := by decide +kernel
theorem dX4_withLamps_78 : decode cX4_withLamps 78 = .ok (.aload_n 0, 1) := by decide +kernel
theorem dX4_withLamps_79 : decode cX4_withLamps 79 = .ok (.getfield 10, 3) := by decide +kernel
theorem dX4_withLamps_82 : decode cX4_withLamps 82 = .ok (.iload 5, 2) := by decide +kernel
theorem dX4_withLamps_84 : decode cX4_withLamps 84 = .ok (.invokevirtual 220, 3) := by decide +kernel
theorem dX4_withLamps_87 : decode cX4_withLamps 87 = .ok (.i2l, 1) := by decide +kernel
theorem dX4_withLamps_88 : decode cX4_withLamps 88 = .ok (.ladd, 1) := by decide +kernel
theorem dX4_withLamps_89 : decode cX4_withLamps 89 = .ok (.lstore_n 3, 1) := by decide +kernel
theorem dX4_withLamps_90 : decode cX4_withLamps 90 = .ok (.ldc2_w 240, 3) := by decide +kernel
theorem dX4_withLamps_93 : decode cX4_withLamps 93 = .ok (.lload_n 3, 1) := by decide +kernel
theorem dX4_withLamps_94 : decode cX4_withLamps 94 = .ok (.lmul, 1) := by decide +kernel
theorem dX4_withLamps_95 : decode cX4_withLamps 95 = .ok (.aload_n 0, 1) := by decide +kernel
theorem dX4_withLamps_96 : decode cX4_withLamps 96 = .ok (.iload 5, 2) := by decide +kernel
theorem dX4_withLamps_98 : decode cX4_withLamps 98 = .ok (.invokevirtual 270, 3) := by decide +kernel
theorem dX4_withLamps_101 : decode cX4_withLamps 101 = .ok (.i2l, 1) := by decide +kernel
theorem dX4_withLamps_102 : decode cX4_withLamps 102 = .ok (.ladd, 1) := by decide +kernel
theorem dX4_withLamps_103 : decode cX4_withLamps 103 = .ok (.lstore_n 3, 1) := by decide +kernel
theorem dX4_withLamps_104 : decode cX4_withLamps 104 = .ok (.ldc2_w 240, 3) := by decide +kernel
theorem dX4_withLamps_107 : decode cX4_withLamps 107 = .ok (.lload_n 3, 1) := by decide +kernel
theorem dX4_withLamps_108 : decode cX4_withLamps 108 = .ok (.lmul, 1) := by decide +kernel
theorem dX4_withLamps_109 : decode cX4_withLamps 109 = .ok (.aload_n 0, 1) := by decide +kernel
theorem dX4_withLamps_110 : decode cX4_withLamps 110 = .ok (.getfield 10, 3) := by decide +kernel
theorem dX4_withLamps_113 : decode cX4_withLamps 113 = .ok (.iload 5, 2) := by decide +kernel
theorem dX4_withLamps_115 : decode cX4_withLamps 115 = .ok (.invokevirtual 233, 3) := by decide +kernel
theorem dX4_withLamps_118 : decode cX4_withLamps 118 = .ok (.i2l, 1) := by decide +kernel
theorem dX4_withLamps_119 : decode cX4_withLamps 119 = .ok (.ladd, 1) := by decide +kernel
theorem dX4_withLamps_120 : decode cX4_withLamps 120 = .ok (.lstore_n 3, 1) := by decide +kernel
theorem dX4_withLamps_121 : decode cX4_withLamps 121 = .ok (.iinc 5 1, 3) := by decide +kernel
theorem dX4_withLamps_124 : decode cX4_withLamps 124 = .ok (.goto (-108), 3) := by decide +kernel
theorem dX4_withLamps_127 : decode cX4_withLamps 127 = .ok (.lload_n 3, 1) := by decide +kernel
theorem dX4_withLamps_128 : decode cX4_withLamps 128 = .ok (.lreturn, 1) := by decide +kernel
theorem dX4_refuse_0 : decode cX4_refuse 0 = .ok (.aload_n 0, 1) := by decide +kernel
theorem dX4_refuse_1 : decode cX4_refuse 1 = .ok (.getfield 10, 3) := by decide +kernel
theorem dX4_refuse_4 : decode cX4_refuse 4 = .ok (.dup, 1) := by decide +kernel
theorem dX4_refuse_5 : decode cX4_refuse 5 = .ok (.getfield 213, 3) := by decide +kernel
theorem dX4_refuse_8 : decode cX4_refuse 8 = .ok (.iconst 1, 1) := by decide +kernel
theorem dX4_refuse_9 : decode cX4_refuse 9 = .ok (.iadd, 1) := by decide +kernel
theorem dX4_refuse_10 : decode cX4_refuse 10 = .ok (.putfield 213, 3) := by decide +kernel
theorem dX4_refuse_13 : decode cX4_refuse 13 = .ok (.iconst (-1), 1) := by decide +kernel
theorem dX4_refuse_14 : decode cX4_refuse 14 = .ok (.ireturn, 1) := by decide +kernel
set_option maxRecDepth 20000 in
theorem ggX4_letGapBe_X1_goThrough : GoodIn wsX4_letGapBe wsX1_goThrough := goodIn_r _ [18, 19, 20, 21, 22, 23, 24, 25, 26, 27, 28, 29, 30, 31, 32, 33, 34, 35, 36, 17, 37, 38, 39, 40, 41, 42, 43, 44, 45, 46, 47, 48, 49, 50, 51, 52, 53, 54, 55, 56, 57, 58, 59, 60, 61, 62, 63, 64, 65, 66, 67, 73, 74, 75, 76, 77, 78, 79, 80, 81, 82, 83, 84, 85, 86, 87, 88, 89, 90, 91] (by decide +kernel) (by decide +kernel)
set_option maxRecDepth 20000 in
theorem gX4_letGapBe_X1_goThrough : GoodIn wsX4_letGapBe (wsV RX4 223 RX1 yX1_goThrough wsX1_goThrough) := goodIn_app (goodIn_of _ (by decide +kernel)) ggX4_letGapBe_X1_goThrough
theorem dX4_letGapBe_0 : decode cX4_letGapBe 0 = .ok (.aload_n 0, 1) := by decide +kernel
theorem dX4_letGapBe_1 : decode cX4_letGapBe 1 = .ok (.getfield 19, 3) := by decide +kernel
theorem dX4_letGapBe_4 : decode cX4_letGapBe 4 = .ok (.aload_n 0, 1) := by decide +kernel
theorem dX4_letGapBe_5 : decode cX4_letGapBe 5 = .ok (.getfield 10, 3) := by decide +kernel
theorem dX4_letGapBe_8 : decode cX4_letGapBe 8 = .ok (.invokevirtual 223, 3) := by decide +kernel
theorem dX4_letGapBe_11 : decode cX4_letGapBe 11 = .ok (.iconst 0, 1) := by decide +kernel
theorem dX4_letGapBe_12 : decode cX4_letGapBe 12 = .ok (.istore_n 1, 1) := by decide +kernel
theorem dX4_letGapBe_13 : decode cX4_letGapBe 13 = .ok (.iconst 0, 1) := by decide +kernel
theorem dX4_letGapBe_14 : decode cX4_letGapBe 14 = .ok (.istore_n 2, 1) := by decide +kernel
theorem dX4_letGapBe_15 : decode cX4_letGapBe 15 = .ok (.iload_n 2, 1) := by decide +kernel
theorem dX4_letGapBe_16 : decode cX4_letGapBe 16 = .ok (.bipush 8, 2) := by decide +kernel
theorem dX4_letGapBe_18 : decode cX4_letGapBe 18 = .ok (.if_icmp .ge 103, 3) := by decide +kernel
theorem dX4_letGapBe_21 : decode cX4_letGapBe 21 = .ok (.aload_n 0, 1) := by decide +kernel
theorem dX4_letGapBe_22 : decode cX4_letGapBe 22 = .ok (.getfield 10, 3) := by decide +kernel
theorem dX4_letGapBe_25 : decode cX4_letGapBe 25 = .ok (.getfield 172, 3) := by decide +kernel
theorem dX4_letGapBe_28 : decode cX4_letGapBe 28 = .ok (.iload_n 2, 1) := by decide +kernel
theorem dX4_letGapBe_29 : decode cX4_letGapBe 29 = .ok (.iaload, 1) := by decide +kernel
theorem dX4_letGapBe_30 : decode cX4_letGapBe 30 = .ok (.aload_n 0, 1) := by decide +kernel
theorem dX4_letGapBe_31 : decode cX4_letGapBe 31 = .ok (.getfield 19, 3) := by decide +kernel
theorem dX4_letGapBe_34 : decode cX4_letGapBe 34 = .ok (.getfield 226, 3) := by decide +kernel
theorem dX4_letGapBe_37 : decode cX4_letGapBe 37 = .ok (.iload_n 2, 1) := by decide +kernel
theorem dX4_letGapBe_38 : decode cX4_letGapBe 38 = .ok (.iaload, 1) := by decide +kernel
theorem dX4_letGapBe_39 : decode cX4_letGapBe 39 = .ok (.if_icmp .eq 6, 3) := by decide +kernel
theorem dX4_letGapBe_42 : decode cX4_letGapBe 42 = .ok (.iinc 1 1, 3) := by decide +kernel
theorem dX4_letGapBe_45 : decode cX4_letGapBe 45 = .ok (.aload_n 0, 1) := by decide +kernel
theorem dX4_letGapBe_46 : decode cX4_letGapBe 46 = .ok (.getfield 10, 3) := by decide +kernel
theorem dX4_letGapBe_49 : decode cX4_letGapBe 49 = .ok (.getfield 172, 3) := by decide +kernel
theorem dX4_letGapBe_52 : decode cX4_letGapBe 52 = .ok (.iload_n 2, 1) := by decide +kernel
theorem dX4_letGapBe_53 : decode cX4_letGapBe 53 = .ok (.aload_n 0, 1) := by decide +kernel
theorem dX4_letGapBe_54 : decode cX4_letGapBe 54 = .ok (.getfield 19, 3) := by decide +kernel
theorem dX4_letGapBe_57 : decode cX4_letGapBe 57 = .ok (.getfield 226, 3) := by decide +kernel
theorem dX4_letGapBe_60 : decode cX4_letGapBe 60 = .ok (.iload_n 2, 1) := by decide +kernel
theorem dX4_letGapBe_61 : decode cX4_letGapBe 61 = .ok (.iaload, 1) := by decide +kernel
theorem dX4_letGapBe_62 : decode cX4_letGapBe 62 = .ok (.iastore, 1) := by decide +kernel
theorem dX4_letGapBe_63 : decode cX4_letGapBe 63 = .ok (.aload_n 0, 1) := by decide +kernel
theorem dX4_letGapBe_64 : decode cX4_letGapBe 64 = .ok (.getfield 10, 3) := by decide +kernel
theorem dX4_letGapBe_67 : decode cX4_letGapBe 67 = .ok (.getfield 188, 3) := by decide +kernel
theorem dX4_letGapBe_70 : decode cX4_letGapBe 70 = .ok (.iload_n 2, 1) := by decide +kernel
theorem dX4_letGapBe_71 : decode cX4_letGapBe 71 = .ok (.aload_n 0, 1) := by decide +kernel
theorem dX4_letGapBe_72 : decode cX4_letGapBe 72 = .ok (.getfield 19, 3) := by decide +kernel
theorem dX4_letGapBe_75 : decode cX4_letGapBe 75 = .ok (.getfield 273, 3) := by decide +kernel
theorem dX4_letGapBe_78 : decode cX4_letGapBe 78 = .ok (.iload_n 2, 1) := by decide +kernel
theorem dX4_letGapBe_79 : decode cX4_letGapBe 79 = .ok (.iaload, 1) := by decide +kernel
theorem dX4_letGapBe_80 : decode cX4_letGapBe 80 = .ok (.iastore, 1) := by decide +kernel
theorem dX4_letGapBe_81 : decode cX4_letGapBe 81 = .ok (.aload_n 0, 1) := by decide +kernel
theorem dX4_letGapBe_82 : decode cX4_letGapBe 82 = .ok (.getfield 10, 3) := by decide +kernel
theorem dX4_letGapBe_85 : decode cX4_letGapBe 85 = .ok (.getfield 175, 3) := by decide +kernel
theorem dX4_letGapBe_88 : decode cX4_letGapBe 88 = .ok (.iload_n 2, 1) := by decide +kernel
theorem dX4_letGapBe_89 : decode cX4_letGapBe 89 = .ok (.aload_n 0, 1) := by decide +kernel
theorem dX4_letGapBe_90 : decode cX4_letGapBe 90 = .ok (.getfield 10, 3) := by decide +kernel
theorem dX4_letGapBe_93 : decode cX4_letGapBe 93 = .ok (.getfield 61, 3) := by decide +kernel
theorem dX4_letGapBe_96 : decode cX4_letGapBe 96 = .ok (.iload_n 2, 1) := by decide +kernel
theorem dX4_letGapBe_97 : decode cX4_letGapBe 97 = .ok (.iaload, 1) := by decide +kernel
theorem dX4_letGapBe_98 : decode cX4_letGapBe 98 = .ok (.ifCond .ne 15, 3) := by decide +kernel
theorem dX4_letGapBe_101 : decode cX4_letGapBe 101 = .ok (.aload_n 0, 1) := by decide +kernel
theorem dX4_letGapBe_102 : decode cX4_letGapBe 102 = .ok (.getfield 19, 3) := by decide +kernel
theorem dX4_letGapBe_105 : decode cX4_letGapBe 105 = .ok (.getfield 226, 3) := by decide +kernel
theorem dX4_letGapBe_108 : decode cX4_letGapBe 108 = .ok (.iload_n 2, 1) := by decide +kernel
theorem dX4_letGapBe_109 : decode cX4_letGapBe 109 = .ok (.iaload, 1) := by decide +kernel
theorem dX4_letGapBe_110 : decode cX4_letGapBe 110 = .ok (.goto 4, 3) := by decide +kernel
theorem dX4_letGapBe_113 : decode cX4_letGapBe 113 = .ok (.iconst 0, 1) := by decide +kernel
theorem dX4_letGapBe_114 : decode cX4_letGapBe 114 = .ok (.iastore, 1) := by decide +kernel
theorem dX4_letGapBe_115 : decode cX4_letGapBe 115 = .ok (.iinc 2 1, 3) := by decide +kernel
theorem dX4_letGapBe_118 : decode cX4_letGapBe 118 = .ok (.goto (-103), 3) := by decide +kernel
theorem dX4_letGapBe_121 : decode cX4_letGapBe 121 = .ok (.aload_n 0, 1) := by decide +kernel
theorem dX4_letGapBe_122 : decode cX4_letGapBe 122 = .ok (.getfield 10, 3) := by decide +kernel
theorem dX4_letGapBe_125 : decode cX4_letGapBe 125 = .ok (.dup, 1) := by decide +kernel
theorem dX4_letGapBe_126 : decode cX4_letGapBe 126 = .ok (.getfield 198, 3) := by decide +kernel
theorem dX4_letGapBe_129 : decode cX4_letGapBe 129 = .ok (.iconst 1, 1) := by decide +kernel
theorem dX4_letGapBe_130 : decode cX4_letGapBe 130 = .ok (.iadd, 1) := by decide +kernel
theorem dX4_letGapBe_131 : decode cX4_letGapBe 131 = .ok (.putfield 198, 3) := by decide +kernel
theorem dX4_letGapBe_134 : decode cX4_letGapBe 134 = .ok (.aload_n 0, 1) := by decide +kernel
theorem dX4_letGapBe_135 : decode cX4_letGapBe 135 = .ok (.getfield 10, 3) := by decide +kernel
theorem dX4_letGapBe_138 : decode cX4_letGapBe 138 = .ok (.dup, 1) := by decide +kernel
theorem dX4_letGapBe_139 : decode cX4_letGapBe 139 = .ok (.getfield 201, 3) := by decide +kernel
theorem dX4_letGapBe_142 : decode cX4_letGapBe 142 = .ok (.aload_n 0, 1) := by decide +kernel
theorem dX4_letGapBe_143 : decode cX4_letGapBe 143 = .ok (.getfield 19, 3) := by decide +kernel
theorem dX4_letGapBe_146 : decode cX4_letGapBe 146 = .ok (.getfield 274, 3) := by decide +kernel
theorem dX4_letGapBe_149 : decode cX4_letGapBe 149 = .ok (.iadd, 1) := by decide +kernel
theorem dX4_letGapBe_150 : decode cX4_letGapBe 150 = .ok (.putfield 201, 3) := by decide +kernel
theorem dX4_letGapBe_153 : decode cX4_letGapBe 153 = .ok (.aload_n 0, 1) := by decide +kernel
theorem dX4_letGapBe_154 : decode cX4_letGapBe 154 = .ok (.getfield 10, 3) := by decide +kernel
theorem dX4_letGapBe_157 : decode cX4_letGapBe 157 = .ok (.dup, 1) := by decide +kernel
theorem dX4_letGapBe_158 : decode cX4_letGapBe 158 = .ok (.getfield 204, 3) := by decide +kernel
theorem dX4_letGapBe_161 : decode cX4_letGapBe 161 = .ok (.aload_n 0, 1) := by decide +kernel
theorem dX4_letGapBe_162 : decode cX4_letGapBe 162 = .ok (.getfield 10, 3) := by decide +kernel
theorem dX4_letGapBe_165 : decode cX4_letGapBe 165 = .ok (.getfield 99, 3) := by decide +kernel
theorem dX4_letGapBe_168 : decode cX4_letGapBe 168 = .ok (.aload_n 0, 1) := by decide +kernel
theorem dX4_letGapBe_169 : decode cX4_letGapBe 169 = .ok (.getfield 19, 3) := by decide +kernel
theorem dX4_letGapBe_172 : decode cX4_letGapBe 172 = .ok (.getfield 274, 3) := by decide +kernel
theorem dX4_letGapBe_175 : decode cX4_letGapBe 175 = .ok (.isub, 1) := by decide +kernel
theorem dX4_letGapBe_176 : decode cX4_letGapBe 176 = .ok (.iadd, 1) := by decide +kernel
theorem dX4_letGapBe_177 : decode cX4_letGapBe 177 = .ok (.putfield 204, 3) := by decide +kernel
theorem dX4_letGapBe_180 : decode cX4_letGapBe 180 = .ok (.aload_n 0, 1) := by decide +kernel
theorem dX4_letGapBe_181 : decode cX4_letGapBe 181 = .ok (.getfield 10, 3) := by decide +kernel
theorem dX4_letGapBe_184 : decode cX4_letGapBe 184 = .ok (.iconst 0, 1) := by decide +kernel
theorem dX4_letGapBe_185 : decode cX4_letGapBe 185 = .ok (.putfield 99, 3) := by decide +kernel
theorem dX4_letGapBe_188 : decode cX4_letGapBe 188 = .ok (.iload_n 1, 1) := by decide +kernel
theorem dX4_letGapBe_189 : decode cX4_letGapBe 189 = .ok (.ireturn, 1) := by decide +kernel
theorem dX4_isLamp_0 : decode cX4_isLamp 0 = .ok (.iload_n 0, 1) := by decide +kernel
theorem dX4_isLamp_1 : decode cX4_isLamp 1 = .ok (.ifCond .lt 13, 3) := by decide +kernel
theorem dX4_isLamp_4 : decode cX4_isLamp 4 = .ok (.iload_n 0, 1) := by decide +kernel
theorem dX4_isLamp_5 : decode cX4_isLamp 5 = .ok (.bipush 8, 2) := by decide +kernel
theorem dX4_isLamp_7 : decode cX4_isLamp 7 = .ok (.if_icmp .ge 7, 3) := by decide +kernel
theorem dX4_isLamp_10 : decode cX4_isLamp 10 = .ok (.iconst 1, 1) := by decide +kernel
theorem dX4_isLamp_11 : decode cX4_isLamp 11 = .ok (.goto 4, 3) := by decide +kernel
theorem dX4_isLamp_14 : decode cX4_isLamp 14 = .ok (.iconst 0, 1) := by decide +kernel
theorem dX4_isLamp_15 : decode cX4_isLamp 15 = .ok (.ireturn, 1) := by decide +kernel
theorem dX4_isSetting_0 : decode cX4_isSetting 0 = .ok (.iload_n 0, 1) := by decide +kernel
theorem dX4_isSetting_1 : decode cX4_isSetting 1 = .ok (.ifCond .lt 12, 3) := by decide +kernel
theorem dX4_isSetting_4 : decode cX4_isSetting 4 = .ok (.iload_n 0, 1) := by decide +kernel
theorem dX4_isSetting_5 : decode cX4_isSetting 5 = .ok (.iconst 3, 1) := by decide +kernel
theorem dX4_isSetting_6 : decode cX4_isSetting 6 = .ok (.if_icmp .ge 7, 3) := by decide +kernel
theorem dX4_isSetting_9 : decode cX4_isSetting 9 = .ok (.iconst 1, 1) := by decide +kernel
theorem dX4_isSetting_10 : decode cX4_isSetting 10 = .ok (.goto 4, 3) := by decide +kernel
theorem dX4_isSetting_13 : decode cX4_isSetting 13 = .ok (.iconst 0, 1) := by decide +kernel
theorem dX4_isSetting_14 : decode cX4_isSetting 14 = .ok (.ireturn, 1) := by decide +kernel
theorem dX4_isSlot_0 : decode cX4_isSlot 0 = .ok (.iload_n 0, 1) := by decide +kernel
theorem dX4_isSlot_1 : decode cX4_isSlot 1 = .ok (.ifCond .lt 12, 3) := by decide +kernel
theorem dX4_isSlot_4 : decode cX4_isSlot 4 = .ok (.iload_n 0, 1) := by decide +kernel
theorem dX4_isSlot_5 : decode cX4_isSlot 5 = .ok (.iconst 2, 1) := by decide +kernel
theorem dX4_isSlot_6 : decode cX4_isSlot 6 = .ok (.if_icmp .ge 7, 3) := by decide +kernel
theorem dX4_isSlot_9 : decode cX4_isSlot 9 = .ok (.iconst 1, 1) := by decide +kernel
theorem dX4_isSlot_10 : decode cX4_isSlot 10 = .ok (.goto 4, 3) := by decide +kernel
theorem dX4_isSlot_13 : decode cX4_isSlot 13 = .ok (.iconst 0, 1) := by decide +kernel
theorem dX4_isSlot_14 : decode cX4_isSlot 14 = .ok (.ireturn, 1) := by decide +kernel
theorem dX4_isWord_0 : decode cX4_isWord 0 = .ok (.iload_n 0, 1) := by decide +kernel
theorem dX4_isWord_1 : decode cX4_isWord 1 = .ok (.ifCond .lt 14, 3) := by decide +kernel
theorem dX4_isWord_4 : decode cX4_isWord 4 = .ok (.iload_n 0, 1) := by decide +kernel
theorem dX4_isWord_5 : decode cX4_isWord 5 = .ok (.sipush 4095, 3) := by decide +kernel
theorem dX4_isWord_8 : decode cX4_isWord 8 = .ok (.if_icmp .gt 7, 3) := by decide +kernel
theorem dX4_isWord_11 : decode cX4_isWord 11 = .ok (.iconst 1, 1) := by decide +kernel
theorem dX4_isWord_12 : decode cX4_isWord 12 = .ok (.goto 4, 3) := by decide +kernel
theorem dX4_isWord_15 : decode cX4_isWord 15 = .ok (.iconst 0, 1) := by decide +kernel
theorem dX4_isWord_16 : decode cX4_isWord 16 = .ok (.ireturn, 1) := by decide +kernel
theorem dX4_bitsOf_0 : decode cX4_bitsOf 0 = .ok (.dload_n 0, 1) := by decide +kernel
theorem dX4_bitsOf_1 : decode cX4_bitsOf 1 = .ok (.dconst 0, 1) := by decide +kernel
theorem dX4_bitsOf_2 : decode cX4_bitsOf 2 = .ok (.dcmp .g, 1) := by decide +kernel
theorem dX4_bitsOf_3 : decode cX4_bitsOf 3 = .ok (.ifCond .gt 5, 3) := by decide +kernel
theorem dX4_bitsOf_6 : decode cX4_bitsOf 6 = .ok (.lconst 0, 1) := by decide +kernel
theorem dX4_bitsOf_7 : decode cX4_bitsOf 7 = .ok (.lreturn, 1) := by decide +kernel
theorem dX4_bitsOf_8 : decode cX4_bitsOf 8 = .ok (.dload_n 0, 1) := by decide +kernel
theorem dX4_bitsOf_9 : decode cX4_bitsOf 9 = .ok (.dstore_n 2, 1) := by decide +kernel
theorem dX4_bitsOf_10 : decode cX4_bitsOf 10 = .ok (.iconst 0, 1) := by decide +kernel
theorem dX4_bitsOf_11 : decode cX4_bitsOf 11 = .ok (.istore 4, 2) := by decide +kernel
theorem dX4_bitsOf_13 : decode cX4_bitsOf 13 = .ok (.dload_n 2, 1) := by decide +kernel
theorem dX4_bitsOf_14 : decode cX4_bitsOf 14 = .ok (.dconst 1, 1) := by decide +kernel
theorem dX4_bitsOf_15 : decode cX4_bitsOf 15 = .ok (.dcmp .g, 1) := by decide +kernel
theorem dX4_bitsOf_16 : decode cX4_bitsOf 16 = .ok (.ifCond .ge 23, 3) := by decide +kernel
theorem dX4_bitsOf_19 : decode cX4_bitsOf 19 = .ok (.iload 4, 2) := by decide +kernel
theorem dX4_bitsOf_21 : decode cX4_bitsOf 21 = .ok (.sipush (-1023), 3) := by decide +kernel
theorem dX4_bitsOf_24 : decode cX4_bitsOf 24 = .ok (.if_icmp .le 15, 3) := by decide +kernel
theorem dX4_bitsOf_27 : decode cX4_bitsOf 27 = .ok (.dload_n 2, 1) := by decide +kernel
theorem dX4_bitsOf_28 : decode cX4_bitsOf 28 = .ok (.ldc2_w 275, 3) := by decide +kernel
theorem dX4_bitsOf_31 : decode cX4_bitsOf 31 = .ok (.dmul, 1) := by decide +kernel
theorem dX4_bitsOf_32 : decode cX4_bitsOf 32 = .ok (.dstore_n 2, 1) := by decide +kernel
theorem dX4_bitsOf_33 : decode cX4_bitsOf 33 = .ok (.iinc 4 (-1), 3) := by decide +kernel
theorem dX4_bitsOf_36 : decode cX4_bitsOf 36 = .ok (.goto (-23), 3) := by decide +kernel
theorem dX4_bitsOf_39 : decode cX4_bitsOf 39 = .ok (.dload_n 2, 1) := by decide +kernel
theorem dX4_bitsOf_40 : decode cX4_bitsOf 40 = .ok (.dconst 1, 1) := by decide +kernel
theorem dX4_bitsOf_41 : decode cX4_bitsOf 41 = .ok (.dsub, 1) := by decide +kernel
theorem dX4_bitsOf_42 : decode cX4_bitsOf 42 = .ok (.ldc2_w 277, 3) := by decide +kernel
theorem dX4_bitsOf_45 : decode cX4_bitsOf 45 = .ok (.dmul, 1) := by decide +kernel
theorem dX4_bitsOf_46 : decode cX4_bitsOf 46 = .ok (.d2l, 1) := by decide +kernel
theorem dX4_bitsOf_47 : decode cX4_bitsOf 47 = .ok (.lstore 5, 2) := by decide +kernel
theorem dX4_bitsOf_49 : decode cX4_bitsOf 49 = .ok (.sipush 1023, 3) := by decide +kernel
theorem dX4_bitsOf_52 : decode cX4_bitsOf 52 = .ok (.iload 4, 2) := by decide +kernel
theorem dX4_bitsOf_54 : decode cX4_bitsOf 54 = .ok (.iadd, 1) := by decide +kernel
theorem dX4_bitsOf_55 : decode cX4_bitsOf 55 = .ok (.i2l, 1) := by decide +kernel
theorem dX4_bitsOf_56 : decode cX4_bitsOf 56 = .ok (.bipush 52, 2) := by decide +kernel
theorem dX4_bitsOf_58 : decode cX4_bitsOf 58 = .ok (.lshl, 1) := by decide +kernel
theorem dX4_bitsOf_59 : decode cX4_bitsOf 59 = .ok (.lload 5, 2) := by decide +kernel
theorem dX4_bitsOf_61 : decode cX4_bitsOf 61 = .ok (.ladd, 1) := by decide +kernel
theorem dX4_bitsOf_62 : decode cX4_bitsOf 62 = .ok (.lreturn, 1) := by decide +kernel
end
section
theorem dX5_init_0 : decode cX5_init 0 = .ok (.aload_n 0, 1) := by decide +kernel
theorem dX5_init_1 : decode cX5_init 1 = .ok (.invokespecial 1, 3) := by decide +kernel
theorem dX5_init_4 : decode cX5_init 4 = .ok (.aload_n 0, 1) := by decide +kernel
theorem dX5_init_5 : decode cX5_init 5 = .ok (.sipush 170, 3) := by decide +kernel
theorem dX5_init_8 : decode cX5_init 8 = .ok (.newarray .int, 2) := by decide +kernel
theorem dX5_init_10 : decode cX5_init 10 = .ok (.putfield 7, 3) := by decide +kernel
theorem dX5_init_13 : decode cX5_init 13 = .ok (.aload_n 0, 1) := by decide +kernel
theorem dX5_init_14 : decode cX5_init 14 = .ok (.sipush 1020, 3) := by decide +kernel
theorem dX5_init_17 : decode cX5_init 17 = .ok (.newarray .int, 2) := by decide +kernel
theorem dX5_init_19 : decode cX5_init 19 = .ok (.putfield 13, 3) := by decide +kernel
theorem dX5_init_22 : decode cX5_init 22 = .ok (.aload_n 0, 1) := by decide +kernel
theorem dX5_init_23 : decode cX5_init 23 = .ok (.sipush 340, 3) := by decide +kernel
theorem dX5_init_26 : decode cX5_init 26 = .ok (.newarray .int, 2) := by decide +kernel
theorem dX5_init_28 : decode cX5_init 28 = .ok (.putfield 16, 3) := by decide +kernel
theorem dX5_init_31 : decode cX5_init 31 = .ok (.aload_n 0, 1) := by decide +kernel
theorem dX5_init_32 : decode cX5_init 32 = .ok (.iconst 2, 1) := by decide +kernel
theorem dX5_init_33 : decode cX5_init 33 = .ok (.newarray .boolean, 2) := by decide +kernel
theorem dX5_init_35 : decode cX5_init 35 = .ok (.putfield 19, 3) := by decide +kernel
theorem dX5_init_38 : decode cX5_init 38 = .ok (.aload_n 0, 1) := by decide +kernel
theorem dX5_init_39 : decode cX5_init 39 = .ok (.bipush 60, 2) := by decide +kernel
theorem dX5_init_41 : decode cX5_init 41 = .ok (.newarray .int, 2) := by decide +kernel
theorem dX5_init_43 : decode cX5_init 43 = .ok (.putfield 23, 3) := by decide +kernel
theorem dX5_init_46 : decode cX5_init 46 = .ok (.aload_n 0, 1) := by decide +kernel
theorem dX5_init_47 : decode cX5_init 47 = .ok (.iconst (-1), 1) := by decide +kernel
theorem dX5_init_48 : decode cX5_init 48 = .ok (.putfield 26, 3) := by decide +kernel
theorem dX5_init_51 : decode cX5_init 51 = .ok (.aload_n 0, 1) := by decide +kernel
theorem dX5_init_52 : decode cX5_init 52 = .ok (.bipush 10, 2) := by decide +kernel
theorem dX5_init_54 : decode cX5_init 54 = .ok (.newarray .int, 2) := by decide +kernel
theorem dX5_init_56 : decode cX5_init 56 = .ok (.putfield 30, 3) := by decide +kernel
theorem dX5_init_59 : decode cX5_init 59 = .ok (.aload_n 0, 1) := by decide +kernel
theorem dX5_init_60 : decode cX5_init 60 = .ok (.getfield 7, 3) := by decide +kernel
theorem dX5_init_63 : decode cX5_init 63 = .ok (.bipush 40, 2) := by decide +kernel
theorem dX5_init_65 : decode cX5_init 65 = .ok (.bipush 6, 2) := by decide +kernel
theorem dX5_init_67 : decode cX5_init 67 = .ok (.iastore, 1) := by decide +kernel
theorem dX5_init_68 : decode cX5_init 68 = .ok (.aload_n 0, 1) := by decide +kernel
theorem dX5_init_69 : decode cX5_init 69 = .ok (.getfield 7, 3) := by decide +kernel
theorem dX5_init_72 : decode cX5_init 72 = .ok (.bipush 41, 2) := by decide +kernel
theorem dX5_init_74 : decode cX5_init 74 = .ok (.iconst 1, 1) := by decide +kernel
theorem dX5_init_75 : decode cX5_init 75 = .ok (.iastore, 1) := by decide +kernel
theorem dX5_init_76 : decode cX5_init 76 = .ok (.aload_n 0, 1) := by decide +kernel
theorem dX5_init_77 : decode cX5_init 77 = .ok (.getfield 7, 3) := by decide +kernel
theorem dX5_init_80 : decode cX5_init 80 = .ok (.bipush 42, 2) := by decide +kernel
theorem dX5_init_82 : decode cX5_init 82 = .ok (.sipush 360, 3) := by decide +kernel
theorem dX5_init_85 : decode cX5_init 85 = .ok (.iastore, 1) := by decide +kernel
theorem dX5_init_86 : decode cX5_init 86 = .ok (.return_, 1) := by decide +kernel
theorem dX5_thrown_0 : decode cX5_thrown 0 = .ok (.aload_n 0, 1) := by decide +kernel
theorem dX5_thrown_1 : decode cX5_thrown 1 = .ok (.getfield 33, 3) := by decide +kernel
theorem dX5_thrown_4 : decode cX5_thrown 4 = .ok (.ireturn, 1) := by decide +kernel
theorem dX5_refused_0 : decode cX5_refused 0 = .ok (.aload_n 0, 1) := by decide +kernel
theorem dX5_refused_1 : decode cX5_refused 1 = .ok (.iload_n 1, 1) := by decide +kernel
theorem dX5_refused_2 : decode cX5_refused 2 = .ok (.putfield 33, 3) := by decide +kernel
theorem dX5_refused_5 : decode cX5_refused 5 = .ok (.iload_n 1, 1) := by decide +kernel
theorem dX5_refused_6 : decode cX5_refused 6 = .ok (.ifCond .le 7, 3) := by decide +kernel
theorem dX5_refused_9 : decode cX5_refused 9 = .ok (.iconst 1, 1) := by decide +kernel
theorem dX5_refused_10 : decode cX5_refused 10 = .ok (.goto 4, 3) := by decide +kernel
theorem dX5_refused_13 : decode cX5_refused 13 = .ok (.iconst 0, 1) := by decide +kernel
theorem dX5_refused_14 : decode cX5_refused 14 = .ok (.ireturn, 1) := by decide +kernel
theorem dX5_in_0 : decode cX5_in 0 = .ok (.iload_n 0, 1) := by decide +kernel
theorem dX5_in_1 : decode cX5_in 1 = .ok (.iload_n 1, 1) := by decide +kernel
theorem dX5_in_2 : decode cX5_in 2 = .ok (.if_icmp .lt 12, 3) := by decide +kernel
theorem dX5_in_5 : decode cX5_in 5 = .ok (.iload_n 0, 1) := by decide +kernel
theorem dX5_in_6 : decode cX5_in 6 = .ok (.iload_n 2, 1) := by decide +kernel
theorem dX5_in_7 : decode cX5_in 7 = .ok (.if_icmp .gt 7, 3) := by decide +kernel
theorem dX5_in_10 : decode cX5_in 10 = .ok (.iconst 1, 1) := by decide +kernel
theorem dX5_in_11 : decode cX5_in 11 = .ok (.goto 4, 3) := by decide +kernel
theorem dX5_in_14 : decode cX5_in 14 = .ok (.iconst 0, 1) := by decide +kernel
theorem dX5_in_15 : decode cX5_in 15 = .ok (.ireturn, 1) := by decide +kernel
set_option maxRecDepth 20000 in
theorem ggX5_isLamp_X5_in : GoodIn wsX5_isLamp wsX5_in := goodIn_r _ [4] (by decide +kernel) (by decide +kernel)
set_option maxRecDepth 20000 in
theorem gX5_isLamp_X5_in : GoodIn wsX5_isLamp (va_wsS RX5 36 yX5_in wsX5_in) := goodIn_app (goodIn_of _ (by decide +kernel)) ggX5_isLamp_X5_in
theorem dX5_isLamp_0 : decode cX5_isLamp 0 = .ok (.iload_n 0, 1) := by decide +kernel
theorem dX5_isLamp_1 : decode cX5_isLamp 1 = .ok (.iconst 0, 1) := by decide +kernel
theorem dX5_isLamp_2 : decode cX5_isLamp 2 = .ok (.bipush 7, 2) := by decide +kernel
theorem dX5_isLamp_4 : decode cX5_isLamp 4 = .ok (.invokestatic 36, 3) := by decide +kernel
theorem dX5_isLamp_7 : decode cX5_isLamp 7 = .ok (.ireturn, 1) := by decide +kernel
theorem dX5_copyState_0 : decode cX5_copyState 0 = .ok (.iconst 0, 1) := by decide +kernel
theorem dX5_copyState_1 : decode cX5_copyState 1 = .ok (.istore 4, 2) := by decide +kernel
theorem dX5_copyState_3 : decode cX5_copyState 3 = .ok (.iload 4, 2) := by decide +kernel
theorem dX5_copyState_5 : decode cX5_copyState 5 = .ok (.sipush 170, 3) := by decide +kernel
theorem dX5_copyState_8 : decode cX5_copyState 8 = .ok (.if_icmp .ge 21, 3) := by decide +kernel
theorem dX5_copyState_11 : decode cX5_copyState 11 = .ok (.aload_n 2, 1) := by decide +kernel
theorem dX5_copyState_12 : decode cX5_copyState 12 = .ok (.iload_n 3, 1) := by decide +kernel
theorem dX5_copyState_13 : decode cX5_copyState 13 = .ok (.iload 4, 2) := by decide +kernel
theorem dX5_copyState_15 : decode cX5_copyState 15 = .ok (.iadd, 1) := by decide +kernel
theorem dX5_copyState_16 : decode cX5_copyState 16 = .ok (.aload_n 0, 1) := by decide +kernel
theorem dX5_copyState_17 : decode cX5_copyState 17 = .ok (.iload_n 1, 1) := by decide +kernel
theorem dX5_copyState_18 : decode cX5_copyState 18 = .ok (.iload 4, 2) := by decide +kernel
theorem dX5_copyState_20 : decode cX5_copyState 20 = .ok (.iadd, 1) := by decide +kernel
theorem dX5_copyState_21 : decode cX5_copyState 21 = .ok (.iaload, 1) := by decide +kernel
theorem dX5_copyState_22 : decode cX5_copyState 22 = .ok (.iastore, 1) := by decide +kernel
theorem dX5_copyState_23 : decode cX5_copyState 23 = .ok (.iinc 4 1, 3) := by decide +kernel
theorem dX5_copyState_26 : decode cX5_copyState 26 = .ok (.goto (-23), 3) := by decide +kernel
theorem dX5_copyState_29 : decode cX5_copyState 29 = .ok (.return_, 1) := by decide +kernel
set_option maxRecDepth 20000 in
theorem ggX5_saveState_X5_copyState : GoodIn wsX5_saveState wsX5_copyState := goodIn_r _ [7] (by decide +kernel) (by decide +kernel)
set_option maxRecDepth 20000 in
theorem gX5_saveState_X5_copyState : GoodIn wsX5_saveState (va_wsS RX5 43 yX5_copyState wsX5_copyState) := goodIn_app (goodIn_of _ (by decide +kernel)) ggX5_saveState_X5_copyState
theorem dX5_saveState_0 : decode cX5_saveState 0 = .ok (.aload_n 0, 1) := by decide +kernel
theorem dX5_saveState_1 : decode cX5_saveState 1 = .ok (.getfield 40, 3) := by decide +kernel
theorem dX5_saveState_4 : decode cX5_saveState 4 = .ok (.bipush 6, 2) := by decide +kernel
theorem dX5_saveState_6 : decode cX5_saveState 6 = .ok (.if_icmp .ne 44, 3) := by decide +kernel
theorem dX5_saveState_9 : decode cX5_saveState 9 = .ok (.iconst 0, 1) := by decide +kernel
theorem dX5_saveState_10 : decode cX5_saveState 10 = .ok (.istore_n 1, 1) := by decide +kernel
theorem dX5_saveState_11 : decode cX5_saveState 11 = .ok (.iload_n 1, 1) := by decide +kernel
theorem dX5_saveState_12 : decode cX5_saveState 12 = .ok (.sipush 850, 3) := by decide +kernel
theorem dX5_saveState_15 : decode cX5_saveState 15 = .ok (.if_icmp .ge 25, 3) := by decide +kernel
theorem dX5_saveState_18 : decode cX5_saveState 18 = .ok (.aload_n 0, 1) := by decide +kernel
theorem dX5_saveState_19 : decode cX5_saveState 19 = .ok (.getfield 13, 3) := by decide +kernel
theorem dX5_saveState_22 : decode cX5_saveState 22 = .ok (.iload_n 1, 1) := by decide +kernel
theorem dX5_saveState_23 : decode cX5_saveState 23 = .ok (.aload_n 0, 1) := by decide +kernel
theorem dX5_saveState_24 : decode cX5_saveState 24 = .ok (.getfield 13, 3) := by decide +kernel
theorem dX5_saveState_27 : decode cX5_saveState 27 = .ok (.iload_n 1, 1) := by decide +kernel
theorem dX5_saveState_28 : decode cX5_saveState 28 = .ok (.sipush 170, 3) := by decide +kernel
theorem dX5_saveState_31 : decode cX5_saveState 31 = .ok (.iadd, 1) := by decide +kernel
theorem dX5_saveState_32 : decode cX5_saveState 32 = .ok (.iaload, 1) := by decide +kernel
theorem dX5_saveState_33 : decode cX5_saveState 33 = .ok (.iastore, 1) := by decide +kernel
theorem dX5_saveState_34 : decode cX5_saveState 34 = .ok (.iinc 1 1, 3) := by decide +kernel
theorem dX5_saveState_37 : decode cX5_saveState 37 = .ok (.goto (-26), 3) := by decide +kernel
theorem dX5_saveState_40 : decode cX5_saveState 40 = .ok (.aload_n 0, 1) := by decide +kernel
theorem dX5_saveState_41 : decode cX5_saveState 41 = .ok (.dup, 1) := by decide +kernel
theorem dX5_saveState_42 : decode cX5_saveState 42 = .ok (.getfield 40, 3) := by decide +kernel
theorem dX5_saveState_45 : decode cX5_saveState 45 = .ok (.iconst 1, 1) := by decide +kernel
theorem dX5_saveState_46 : decode cX5_saveState 46 = .ok (.isub, 1) := by decide +kernel
theorem dX5_saveState_47 : decode cX5_saveState 47 = .ok (.putfield 40, 3) := by decide +kernel
theorem dX5_saveState_50 : decode cX5_saveState 50 = .ok (.aload_n 0, 1) := by decide +kernel
theorem dX5_saveState_51 : decode cX5_saveState 51 = .ok (.getfield 7, 3) := by decide +kernel
theorem dX5_saveState_54 : decode cX5_saveState 54 = .ok (.iconst 0, 1) := by decide +kernel
theorem dX5_saveState_55 : decode cX5_saveState 55 = .ok (.aload_n 0, 1) := by decide +kernel
theorem dX5_saveState_56 : decode cX5_saveState 56 = .ok (.getfield 13, 3) := by decide +kernel
theorem dX5_saveState_59 : decode cX5_saveState 59 = .ok (.sipush 170, 3) := by decide +kernel
theorem dX5_saveState_62 : decode cX5_saveState 62 = .ok (.aload_n 0, 1) := by decide +kernel
theorem dX5_saveState_63 : decode cX5_saveState 63 = .ok (.getfield 40, 3) := by decide +kernel
theorem dX5_saveState_66 : decode cX5_saveState 66 = .ok (.imul, 1) := by decide +kernel
theorem dX5_saveState_67 : decode cX5_saveState 67 = .ok (.invokestatic 43, 3) := by decide +kernel
theorem dX5_saveState_70 : decode cX5_saveState 70 = .ok (.aload_n 0, 1) := by decide +kernel
theorem dX5_saveState_71 : decode cX5_saveState 71 = .ok (.dup, 1) := by decide +kernel
theorem dX5_saveState_72 : decode cX5_saveState 72 = .ok (.getfield 40, 3) := by decide +kernel
theorem dX5_saveState_75 : decode cX5_saveState 75 = .ok (.iconst 1, 1) := by decide +kernel
theorem dX5_saveState_76 : decode cX5_saveState 76 = .ok (.iadd, 1) := by decide +kernel
theorem dX5_saveState_77 : decode cX5_saveState 77 = .ok (.putfield 40, 3) := by decide +kernel
theorem dX5_saveState_80 : decode cX5_saveState 80 = .ok (.return_, 1) := by decide +kernel
set_option maxRecDepth 20000 in
theorem ggX5_change_X5_saveState : GoodIn wsX5_change wsX5_saveState := goodIn_r _ [6, 7, 8, 1, 9, 10, 5, 11, 12, 13, 14, 15, 16, 17, 18, 19, 20, 21, 22, 23, 24] (by decide +kernel) (by decide +kernel)
set_option maxRecDepth 20000 in
theorem gX5_change_X5_saveState : GoodIn wsX5_change (wsV RX5 47 RX5 yX5_saveState wsX5_saveState) := goodIn_app (goodIn_of _ (by decide +kernel)) ggX5_change_X5_saveState
theorem dX5_change_0 : decode cX5_change 0 = .ok (.aload_n 0, 1) := by decide +kernel
theorem dX5_change_1 : decode cX5_change 1 = .ok (.invokevirtual 47, 3) := by decide +kernel
theorem dX5_change_4 : decode cX5_change 4 = .ok (.aload_n 0, 1) := by decide +kernel
theorem dX5_change_5 : decode cX5_change 5 = .ok (.getfield 7, 3) := by decide +kernel
theorem dX5_change_8 : decode cX5_change 8 = .ok (.iload_n 1, 1) := by decide +kernel
theorem dX5_change_9 : decode cX5_change 9 = .ok (.iaload, 1) := by decide +kernel
theorem dX5_change_10 : decode cX5_change 10 = .ok (.istore_n 3, 1) := by decide +kernel
theorem dX5_change_11 : decode cX5_change 11 = .ok (.aload_n 0, 1) := by decide +kernel
theorem dX5_change_12 : decode cX5_change 12 = .ok (.getfield 7, 3) := by decide +kernel
theorem dX5_change_15 : decode cX5_change 15 = .ok (.iload_n 1, 1) := by decide +kernel
theorem dX5_change_16 : decode cX5_change 16 = .ok (.iload_n 2, 1) := by decide +kernel
theorem dX5_change_17 : decode cX5_change 17 = .ok (.iastore, 1) := by decide +kernel
theorem dX5_change_18 : decode cX5_change 18 = .ok (.iload_n 3, 1) := by decide +kernel
theorem dX5_change_19 : decode cX5_change 19 = .ok (.ireturn, 1) := by decide +kernel
set_option maxRecDepth 20000 in
theorem ggX5_mode_X5_isLamp : GoodIn wsX5_mode wsX5_isLamp := goodIn_r _ [4, 5, 6, 3, 7] (by decide +kernel) (by decide +kernel)
set_option maxRecDepth 20000 in
theorem gX5_mode_X5_isLamp : GoodIn wsX5_mode (va_wsS RX5 50 yX5_isLamp wsX5_isLamp) := goodIn_app (goodIn_of _ (by decide +kernel)) ggX5_mode_X5_isLamp
set_option maxRecDepth 20000 in
theorem ggX5_mode_X5_in : GoodIn wsX5_mode wsX5_in := goodIn_r _ [7] (by decide +kernel) (by decide +kernel)
set_option maxRecDepth 20000 in
theorem gX5_mode_X5_in : GoodIn wsX5_mode (va_wsS RX5 36 yX5_in wsX5_in) := goodIn_app (goodIn_of _ (by decide +kernel)) ggX5_mode_X5_in
set_option maxRecDepth 20000 in
theorem ggX5_mode_X5_refused : GoodIn wsX5_mode wsX5_refused := goodIn_r _ [11, 12, 27, 28, 29, 30, 31, 32, 33, 34, 35, 36, 37, 38, 39] (by decide +kernel) (by decide +kernel)
set_option maxRecDepth 20000 in
theorem gX5_mode_X5_refused : GoodIn wsX5_mode (wsV RX5 54 RX5 yX5_refused wsX5_refused) := goodIn_app (goodIn_of _ (by decide +kernel)) ggX5_mode_X5_refused
set_option maxRecDepth 20000 in
theorem ggX5_mode_X5_change : GoodIn wsX5_mode wsX5_change := goodIn_r _ [16, 17, 18, 19, 20, 3, 21, 22, 23, 24, 25, 26, 27, 28, 29, 30, 31, 32, 33, 34, 35, 36, 37, 38, 39] (by decide +kernel) (by decide +kernel)
set_option maxRecDepth 20000 in
theorem gX5_mode_X5_change : GoodIn wsX5_mode (wsV RX5 57 RX5 yX5_change wsX5_change) := goodIn_app (goodIn_of _ (by decide +kernel)) ggX5_mode_X5_change
theorem dX5_mode_0 : decode cX5_mode 0 = .ok (.aload_n 0, 1) := by decide +kernel
theorem dX5_mode_1 : decode cX5_mode 1 = .ok (.iload_n 1, 1) := by decide +kernel
theorem dX5_mode_2 : decode cX5_mode 2 = .ok (.invokestatic 50, 3) := by decide +kernel
theorem dX5_mode_5 : decode cX5_mode 5 = .ok (.ifCond .ne 7, 3) := by decide +kernel
theorem dX5_mode_8 : decode cX5_mode 8 = .ok (.iconst 1, 1) := by decide +kernel
theorem dX5_mode_9 : decode cX5_mode 9 = .ok (.goto 17, 3) := by decide +kernel
theorem dX5_mode_12 : decode cX5_mode 12 = .ok (.iload_n 2, 1) := by decide +kernel
theorem dX5_mode_13 : decode cX5_mode 13 = .ok (.iconst 0, 1) := by decide +kernel
theorem dX5_mode_14 : decode cX5_mode 14 = .ok (.iconst 3, 1) := by decide +kernel
theorem dX5_mode_15 : decode cX5_mode 15 = .ok (.invokestatic 36, 3) := by decide +kernel
theorem dX5_mode_18 : decode cX5_mode 18 = .ok (.ifCond .eq 7, 3) := by decide +kernel
theorem dX5_mode_21 : decode cX5_mode 21 = .ok (.iconst 0, 1) := by decide +kernel
theorem dX5_mode_22 : decode cX5_mode 22 = .ok (.goto 4, 3) := by decide +kernel
theorem dX5_mode_25 : decode cX5_mode 25 = .ok (.iconst 2, 1) := by decide +kernel
theorem dX5_mode_26 : decode cX5_mode 26 = .ok (.invokevirtual 54, 3) := by decide +kernel
theorem dX5_mode_29 : decode cX5_mode 29 = .ok (.ifCond .eq 7, 3) := by decide +kernel
theorem dX5_mode_32 : decode cX5_mode 32 = .ok (.iconst 0, 1) := by decide +kernel
theorem dX5_mode_33 : decode cX5_mode 33 = .ok (.goto 11, 3) := by decide +kernel
theorem dX5_mode_36 : decode cX5_mode 36 = .ok (.aload_n 0, 1) := by decide +kernel
theorem dX5_mode_37 : decode cX5_mode 37 = .ok (.iconst 0, 1) := by decide +kernel
theorem dX5_mode_38 : decode cX5_mode 38 = .ok (.iload_n 1, 1) := by decide +kernel
theorem dX5_mode_39 : decode cX5_mode 39 = .ok (.iadd, 1) := by decide +kernel
theorem dX5_mode_40 : decode cX5_mode 40 = .ok (.iload_n 2, 1) := by decide +kernel
theorem dX5_mode_41 : decode cX5_mode 41 = .ok (.invokevirtual 57, 3) := by decide +kernel
theorem dX5_mode_44 : decode cX5_mode 44 = .ok (.ireturn, 1) := by decide +kernel
set_option maxRecDepth 20000 in
theorem ggX5_loss_X5_isLamp : GoodIn wsX5_loss wsX5_isLamp := goodIn_r _ [4, 5, 6, 3, 7] (by decide +kernel) (by decide +kernel)
set_option maxRecDepth 20000 in
theorem gX5_loss_X5_isLamp : GoodIn wsX5_loss (va_wsS RX5 50 yX5_isLamp wsX5_isLamp) := goodIn_app (goodIn_of _ (by decide +kernel)) ggX5_loss_X5_isLamp
set_option maxRecDepth 20000 in
theorem ggX5_loss_X5_in : GoodIn wsX5_loss wsX5_in := goodIn_r _ [7] (by decide +kernel) (by decide +kernel)
set_option maxRecDepth 20000 in
theorem gX5_loss_X5_in : GoodIn wsX5_loss (va_wsS RX5 36 yX5_in wsX5_in) := goodIn_app (goodIn_of _ (by decide +kernel)) ggX5_loss_X5_in
set_option maxRecDepth 20000 in
theorem ggX5_loss_X5_refused : GoodIn wsX5_loss wsX5_refused := goodIn_r _ [11, 12, 27, 28, 29, 30, 31, 32, 33, 34, 35, 36, 37, 38, 39] (by decide +kernel) (by decide +kernel)
set_option maxRecDepth 20000 in
theorem gX5_loss_X5_refused : GoodIn wsX5_loss (wsV RX5 54 RX5 yX5_refused wsX5_refused) := goodIn_app (goodIn_of _ (by decide +kernel)) ggX5_loss_X5_refused
set_option maxRecDepth 20000 in
theorem ggX5_loss_X5_change : GoodIn wsX5_loss wsX5_change := goodIn_r _ [16, 17, 18, 19, 20, 3, 21, 22, 23, 24, 25, 26, 27, 28, 29, 30, 31, 32, 33, 34, 35, 36, 37, 38, 39] (by decide +kernel) (by decide +kernel)
set_option maxRecDepth 20000 in
theorem gX5_loss_X5_change : GoodIn wsX5_loss (wsV RX5 57 RX5 yX5_change wsX5_change) := goodIn_app (goodIn_of _ (by decide +kernel)) ggX5_loss_X5_change
theorem dX5_loss_0 : decode cX5_loss 0 = .ok (.aload_n 0, 1) := by decide +kernel
theorem dX5_loss_1 : decode cX5_loss 1 = .ok (.iload_n 1, 1) := by decide +kernel
theorem dX5_loss_2 : decode cX5_loss 2 = .ok (.invokestatic 50, 3) := by decide +kernel
theorem dX5_loss_5 : decode cX5_loss 5 = .ok (.ifCond .ne 7, 3) := by decide +kernel
theorem dX5_loss_8 : decode cX5_loss 8 = .ok (.iconst 1, 1) := by decide +kernel
theorem dX5_loss_9 : decode cX5_loss 9 = .ok (.goto 18, 3) := by decide +kernel
theorem dX5_loss_12 : decode cX5_loss 12 = .ok (.iload_n 2, 1) := by decide +kernel
theorem dX5_loss_13 : decode cX5_loss 13 = .ok (.iconst 0, 1) := by decide +kernel
theorem dX5_loss_14 : decode cX5_loss 14 = .ok (.bipush 6, 2) := by decide +kernel
theorem dX5_loss_16 : decode cX5_loss 16 = .ok (.invokestatic 36, 3) := by decide +kernel
theorem dX5_loss_19 : decode cX5_loss 19 = .ok (.ifCond .eq 7, 3) := by decide +kernel
theorem dX5_loss_22 : decode cX5_loss 22 = .ok (.iconst 0, 1) := by decide +kernel
theorem dX5_loss_23 : decode cX5_loss 23 = .ok (.goto 4, 3) := by decide +kernel
theorem dX5_loss_26 : decode cX5_loss 26 = .ok (.iconst 2, 1) := by decide +kernel
theorem dX5_loss_27 : decode cX5_loss 27 = .ok (.invokevirtual 54, 3) := by decide +kernel
theorem dX5_loss_30 : decode cX5_loss 30 = .ok (.ifCond .eq 7, 3) := by decide +kernel
theorem dX5_loss_33 : decode cX5_loss 33 = .ok (.iconst 0, 1) := by decide +kernel
theorem dX5_loss_34 : decode cX5_loss 34 = .ok (.goto 12, 3) := by decide +kernel
theorem dX5_loss_37 : decode cX5_loss 37 = .ok (.aload_n 0, 1) := by decide +kernel
theorem dX5_loss_38 : decode cX5_loss 38 = .ok (.bipush 8, 2) := by decide +kernel
theorem dX5_loss_40 : decode cX5_loss 40 = .ok (.iload_n 1, 1) := by decide +kernel
theorem dX5_loss_41 : decode cX5_loss 41 = .ok (.iadd, 1) := by decide +kernel
theorem dX5_loss_42 : decode cX5_loss 42 = .ok (.iload_n 2, 1) := by decide +kernel
theorem dX5_loss_43 : decode cX5_loss 43 = .ok (.invokevirtual 57, 3) := by decide +kernel
theorem dX5_loss_46 : decode cX5_loss 46 = .ok (.ireturn, 1) := by decide +kernel
set_option maxRecDepth 20000 in
theorem ggX5_isValue_X5_in : GoodIn wsX5_isValue wsX5_in := goodIn_r _ [4] (by decide +kernel) (by decide +kernel)
set_option maxRecDepth 20000 in
theorem gX5_isValue_X5_in : GoodIn wsX5_isValue (va_wsS RX5 36 yX5_in wsX5_in) := goodIn_app (goodIn_of _ (by decide +kernel)) ggX5_isValue_X5_in
theorem dX5_isValue_0 : decode cX5_isValue 0 = .ok (.iload_n 0, 1) := by decide +kernel
theorem dX5_isValue_1 : decode cX5_isValue 1 = .ok (.ifCond .ne 13, 3) := by decide +kernel
theorem dX5_isValue_4 : decode cX5_isValue 4 = .ok (.iload_n 1, 1) := by decide +kernel
theorem dX5_isValue_5 : decode cX5_isValue 5 = .ok (.iconst 2, 1) := by decide +kernel
theorem dX5_isValue_6 : decode cX5_isValue 6 = .ok (.bipush 12, 2) := by decide +kernel
theorem dX5_isValue_8 : decode cX5_isValue 8 = .ok (.invokestatic 36, 3) := by decide +kernel
theorem dX5_isValue_11 : decode cX5_isValue 11 = .ok (.goto 25, 3) := by decide +kernel
theorem dX5_isValue_14 : decode cX5_isValue 14 = .ok (.iload_n 0, 1) := by decide +kernel
theorem dX5_isValue_15 : decode cX5_isValue 15 = .ok (.iconst 1, 1) := by decide +kernel
theorem dX5_isValue_16 : decode cX5_isValue 16 = .ok (.if_icmp .ne 12, 3) := by decide +kernel
theorem dX5_isValue_19 : decode cX5_isValue 19 = .ok (.iload_n 1, 1) := by decide +kernel
theorem dX5_isValue_20 : decode cX5_isValue 20 = .ok (.iconst 0, 1) := by decide +kernel
theorem dX5_isValue_21 : decode cX5_isValue 21 = .ok (.iconst 1, 1) := by decide +kernel
theorem dX5_isValue_22 : decode cX5_isValue 22 = .ok (.invokestatic 36, 3) := by decide +kernel
theorem dX5_isValue_25 : decode cX5_isValue 25 = .ok (.goto 11, 3) := by decide +kernel
theorem dX5_isValue_28 : decode cX5_isValue 28 = .ok (.iload_n 1, 1) := by decide +kernel
theorem dX5_isValue_29 : decode cX5_isValue 29 = .ok (.iconst 0, 1) := by decide +kernel
theorem dX5_isValue_30 : decode cX5_isValue 30 = .ok (.sipush 360, 3) := by decide +kernel
theorem dX5_isValue_33 : decode cX5_isValue 33 = .ok (.invokestatic 36, 3) := by decide +kernel
theorem dX5_isValue_36 : decode cX5_isValue 36 = .ok (.ireturn, 1) := by decide +kernel
set_option maxRecDepth 20000 in
theorem ggX5_set_X5_in : GoodIn wsX5_set wsX5_in := goodIn_r _ [4] (by decide +kernel) (by decide +kernel)
set_option maxRecDepth 20000 in
theorem gX5_set_X5_in : GoodIn wsX5_set (va_wsS RX5 36 yX5_in wsX5_in) := goodIn_app (goodIn_of _ (by decide +kernel)) ggX5_set_X5_in
set_option maxRecDepth 20000 in
theorem ggX5_set_X5_isValue : GoodIn wsX5_set wsX5_isValue := goodIn_r _ [7, 1, 2, 3, 4] (by decide +kernel) (by decide +kernel)
set_option maxRecDepth 20000 in
theorem gX5_set_X5_isValue : GoodIn wsX5_set (va_wsS RX5 61 yX5_isValue wsX5_isValue) := goodIn_app (goodIn_of _ (by decide +kernel)) ggX5_set_X5_isValue
set_option maxRecDepth 20000 in
theorem ggX5_set_X5_refused : GoodIn wsX5_set wsX5_refused := goodIn_r _ [11, 12, 27, 28, 29, 30, 31, 32, 33, 34, 35, 36, 37, 38, 39] (by decide +kernel) (by decide +kernel)
set_option maxRecDepth 20000 in
theorem gX5_set_X5_refused : GoodIn wsX5_set (wsV RX5 54 RX5 yX5_refused wsX5_refused) := goodIn_app (goodIn_of _ (by decide +kernel)) ggX5_set_X5_refused
set_option maxRecDepth 20000 in
theorem ggX5_set_X5_change : GoodIn wsX5_set wsX5_change := goodIn_r _ [16, 17, 18, 19, 20, 3, 21, 22, 23, 24, 25, 26, 27, 28, 29, 30, 31, 32, 33, 34, 35, 36, 37, 38, 39] (by decide +kernel) (by decide +kernel)
set_option maxRecDepth 20000 in
theorem gX5_set_X5_change : GoodIn wsX5_set (wsV RX5 57 RX5 yX5_change wsX5_change) := goodIn_app (goodIn_of _ (by decide +kernel)) ggX5_set_X5_change
theorem dX5_set_0 : decode cX5_set 0 = .ok (.aload_n 0, 1) := by decide +kernel
theorem dX5_set_1 : decode cX5_set 1 = .ok (.iload_n 1, 1) := by decide +kernel
theorem dX5_set_2 : decode cX5_set 2 = .ok (.iconst 0, 1) := by decide +kernel
theorem dX5_set_3 : decode cX5_set 3 = .ok (.iconst 2, 1) := by decide +kernel
theorem dX5_set_4 : decode cX5_set 4 = .ok (.invokestatic 36, 3) := by decide +kernel
theorem dX5_set_7 : decode cX5_set 7 = .ok (.ifCond .ne 7, 3) := by decide +kernel
theorem dX5_set_10 : decode cX5_set 10 = .ok (.iconst 1, 1) := by decide +kernel
theorem dX5_set_11 : decode cX5_set 11 = .ok (.goto 16, 3) := by decide +kernel
theorem dX5_set_14 : decode cX5_set 14 = .ok (.iload_n 1, 1) := by decide +kernel
theorem dX5_set_15 : decode cX5_set 15 = .ok (.iload_n 2, 1) := by decide +kernel
theorem dX5_set_16 : decode cX5_set 16 = .ok (.invokestatic 61, 3) := by decide +kernel
theorem dX5_set_19 : decode cX5_set 19 = .ok (.ifCond .eq 7, 3) := by decide +kernel
theorem dX5_set_22 : decode cX5_set 22 = .ok (.iconst 0, 1) := by decide +kernel
theorem dX5_set_23 : decode cX5_set 23 = .ok (.goto 4, 3) := by decide +kernel
theorem dX5_set_26 : decode cX5_set 26 = .ok (.iconst 2, 1) := by decide +kernel
theorem dX5_set_27 : decode cX5_set 27 = .ok (.invokevirtual 54, 3) := by decide +kernel
theorem dX5_set_30 : decode cX5_set 30 = .ok (.ifCond .eq 7, 3) := by decide +kernel
theorem dX5_set_33 : decode cX5_set 33 = .ok (.iconst 0, 1) := by decide +kernel
theorem dX5_set_34 : decode cX5_set 34 = .ok (.goto 12, 3) := by decide +kernel
theorem dX5_set_37 : decode cX5_set 37 = .ok (.aload_n 0, 1) := by decide +kernel
theorem dX5_set_38 : decode cX5_set 38 = .ok (.bipush 40, 2) := by decide +kernel
theorem dX5_set_40 : decode cX5_set 40 = .ok (.iload_n 1, 1) := by decide +kernel
theorem dX5_set_41 : decode cX5_set 41 = .ok (.iadd, 1) := by decide +kernel
theorem dX5_set_42 : decode cX5_set 42 = .ok (.iload_n 2, 1) := by decide +kernel
theorem dX5_set_43 : decode cX5_set 43 = .ok (.invokevirtual 57, 3) := by decide +kernel
theorem dX5_set_46 : decode cX5_set 46 = .ok (.ireturn, 1) := by decide +kernel
theorem dX5_pulses_0 : decode cX5_pulses 0 = .ok (.aload_n 0, 1) := by decide +kernel
theorem dX5_pulses_1 : decode cX5_pulses 1 = .ok (.getfield 26, 3) := by decide +kernel
theorem dX5_pulses_4 : decode cX5_pulses 4 = .ok (.iconst (-1), 1) := by decide +kernel
theorem dX5_pulses_5 : decode cX5_pulses 5 = .ok (.if_icmp .ne 13, 3) := by decide +kernel
theorem dX5_pulses_8 : decode cX5_pulses 8 = .ok (.aload_n 0, 1) := by decide +kernel
theorem dX5_pulses_9 : decode cX5_pulses 9 = .ok (.getfield 7, 3) := by decide +kernel
theorem dX5_pulses_12 : decode cX5_pulses 12 = .ok (.bipush 49, 2) := by decide +kernel
theorem dX5_pulses_14 : decode cX5_pulses 14 = .ok (.iaload, 1) := by decide +kernel
theorem dX5_pulses_15 : decode cX5_pulses 15 = .ok (.goto 5, 3) := by decide +kernel
theorem dX5_pulses_18 : decode cX5_pulses 18 = .ok (.bipush 96, 2) := by decide +kernel
theorem dX5_pulses_20 : decode cX5_pulses 20 = .ok (.ireturn, 1) := by decide +kernel
theorem dX5_pulseOf_0 : decode cX5_pulseOf 0 = .ok (.iload_n 0, 1) := by decide +kernel
theorem dX5_pulseOf_1 : decode cX5_pulseOf 1 = .ok (.bipush 11, 2) := by decide +kernel
theorem dX5_pulseOf_3 : decode cX5_pulseOf 3 = .ok (.iload_n 1, 1) := by decide +kernel
theorem dX5_pulseOf_4 : decode cX5_pulseOf 4 = .ok (.isub, 1) := by decide +kernel
theorem dX5_pulseOf_5 : decode cX5_pulseOf 5 = .ok (.ishr, 1) := by decide +kernel
theorem dX5_pulseOf_6 : decode cX5_pulseOf 6 = .ok (.iconst 1, 1) := by decide +kernel
theorem dX5_pulseOf_7 : decode cX5_pulseOf 7 = .ok (.iand, 1) := by decide +kernel
theorem dX5_pulseOf_8 : decode cX5_pulseOf 8 = .ok (.iconst 1, 1) := by decide +kernel
theorem dX5_pulseOf_9 : decode cX5_pulseOf 9 = .ok (.if_icmp .ne 8, 3) := by decide +kernel
theorem dX5_pulseOf_12 : decode cX5_pulseOf 12 = .ok (.bipush 8, 2) := by decide +kernel
theorem dX5_pulseOf_14 : decode cX5_pulseOf 14 = .ok (.goto 4, 3) := by decide +kernel
theorem dX5_pulseOf_17 : decode cX5_pulseOf 17 = .ok (.iconst 4, 1) := by decide +kernel
theorem dX5_pulseOf_18 : decode cX5_pulseOf 18 = .ok (.ireturn, 1) := by decide +kernel
set_option maxRecDepth 20000 in
theorem ggX5_lengthOf_X5_pulseOf : GoodIn wsX5_lengthOf wsX5_pulseOf := goodIn_r _ [6] (by decide +kernel) (by decide +kernel)
set_option maxRecDepth 20000 in
theorem gX5_lengthOf_X5_pulseOf : GoodIn wsX5_lengthOf (va_wsS RX5 65 yX5_pulseOf wsX5_pulseOf) := goodIn_app (goodIn_of _ (by decide +kernel)) ggX5_lengthOf_X5_pulseOf
theorem dX5_lengthOf_0 : decode cX5_lengthOf 0 = .ok (.aload_n 0, 1) := by decide +kernel
theorem dX5_lengthOf_1 : decode cX5_lengthOf 1 = .ok (.getfield 26, 3) := by decide +kernel
theorem dX5_lengthOf_4 : decode cX5_lengthOf 4 = .ok (.iconst (-1), 1) := by decide +kernel
theorem dX5_lengthOf_5 : decode cX5_lengthOf 5 = .ok (.if_icmp .ne 15, 3) := by decide +kernel
theorem dX5_lengthOf_8 : decode cX5_lengthOf 8 = .ok (.aload_n 0, 1) := by decide +kernel
theorem dX5_lengthOf_9 : decode cX5_lengthOf 9 = .ok (.getfield 7, 3) := by decide +kernel
theorem dX5_lengthOf_12 : decode cX5_lengthOf 12 = .ok (.bipush 50, 2) := by decide +kernel
theorem dX5_lengthOf_14 : decode cX5_lengthOf 14 = .ok (.iload_n 1, 1) := by decide +kernel
theorem dX5_lengthOf_15 : decode cX5_lengthOf 15 = .ok (.iadd, 1) := by decide +kernel
theorem dX5_lengthOf_16 : decode cX5_lengthOf 16 = .ok (.iaload, 1) := by decide +kernel
theorem dX5_lengthOf_17 : decode cX5_lengthOf 17 = .ok (.goto 14, 3) := by decide +kernel
theorem dX5_lengthOf_20 : decode cX5_lengthOf 20 = .ok (.aload_n 0, 1) := by decide +kernel
theorem dX5_lengthOf_21 : decode cX5_lengthOf 21 = .ok (.getfield 26, 3) := by decide +kernel
theorem dX5_lengthOf_24 : decode cX5_lengthOf 24 = .ok (.iload_n 1, 1) := by decide +kernel
theorem dX5_lengthOf_25 : decode cX5_lengthOf 25 = .ok (.bipush 12, 2) := by decide +kernel
theorem dX5_lengthOf_27 : decode cX5_lengthOf 27 = .ok (.irem, 1) := by decide +kernel
theorem dX5_lengthOf_28 : decode cX5_lengthOf 28 = .ok (.invokestatic 65, 3) := by decide +kernel
theorem dX5_lengthOf_31 : decode cX5_lengthOf 31 = .ok (.ireturn, 1) := by decide +kernel
theorem dX5_isTaker_0 : decode cX5_isTaker 0 = .ok (.aload_n 0, 1) := by decide +kernel
theorem dX5_isTaker_1 : decode cX5_isTaker 1 = .ok (.getfield 7, 3) := by decide +kernel
theorem dX5_isTaker_4 : decode cX5_isTaker 4 = .ok (.iconst 0, 1) := by decide +kernel
theorem dX5_isTaker_5 : decode cX5_isTaker 5 = .ok (.iload_n 1, 1) := by decide +kernel
theorem dX5_isTaker_6 : decode cX5_isTaker 6 = .ok (.iadd, 1) := by decide +kernel
theorem dX5_isTaker_7 : decode cX5_isTaker 7 = .ok (.iaload, 1) := by decide +kernel
theorem dX5_isTaker_8 : decode cX5_isTaker 8 = .ok (.ifCond .eq 15, 3) := by decide +kernel
theorem dX5_isTaker_11 : decode cX5_isTaker 11 = .ok (.aload_n 0, 1) := by decide +kernel
theorem dX5_isTaker_12 : decode cX5_isTaker 12 = .ok (.getfield 7, 3) := by decide +kernel
theorem dX5_isTaker_15 : decode cX5_isTaker 15 = .ok (.iconst 0, 1) := by decide +kernel
theorem dX5_isTaker_16 : decode cX5_isTaker 16 = .ok (.iload_n 1, 1) := by decide +kernel
theorem dX5_isTaker_17 : decode cX5_isTaker 17 = .ok (.iadd, 1) := by decide +kernel
theorem dX5_isTaker_18 : decode cX5_isTaker 18 = .ok (.iaload, 1) := by decide +kernel
theorem dX5_isTaker_19 : decode cX5_isTaker 19 = .ok (.iconst 1, 1) := by decide +kernel
theorem dX5_isTaker_20 : decode cX5_isTaker 20 = .ok (.if_icmp .ne 7, 3) := by decide +kernel
theorem dX5_isTaker_23 : decode cX5_isTaker 23 = .ok (.iconst 1, 1) := by decide +kernel
theorem dX5_isTaker_24 : decode cX5_isTaker 24 = .ok (.goto 4, 3) := by decide +kernel
theorem dX5_isTaker_27 : decode cX5_isTaker 27 = .ok (.iconst 0, 1) := by decide +kernel
theorem dX5_isTaker_28 : decode cX5_isTaker 28 = .ok (.ireturn, 1) := by decide +kernel
theorem dX5_isCut_0 : decode cX5_isCut 0 = .ok (.iconst 0, 1) := by decide +kernel
theorem dX5_isCut_1 : decode cX5_isCut 1 = .ok (.istore_n 2, 1) := by decide +kernel
theorem dX5_isCut_2 : decode cX5_isCut 2 = .ok (.iconst 0, 1) := by decide +kernel
theorem dX5_isCut_3 : decode cX5_isCut 3 = .ok (.istore_n 3, 1) := by decide +kernel
theorem dX5_isCut_4 : decode cX5_isCut 4 = .ok (.iload_n 3, 1) := by decide +kernel
theorem dX5_isCut_5 : decode cX5_isCut 5 = .ok (.iload_n 1, 1) := by decide +kernel
theorem dX5_isCut_6 : decode cX5_isCut 6 = .ok (.if_icmp .ge 31, 3) := by decide +kernel
theorem dX5_isCut_9 : decode cX5_isCut 9 = .ok (.iload_n 2, 1) := by decide +kernel
theorem dX5_isCut_10 : decode cX5_isCut 10 = .ok (.ifCond .ne 15, 3) := by decide +kernel
theorem dX5_isCut_13 : decode cX5_isCut 13 = .ok (.aload_n 0, 1) := by decide +kernel
theorem dX5_isCut_14 : decode cX5_isCut 14 = .ok (.getfield 7, 3) := by decide +kernel
theorem dX5_isCut_17 : decode cX5_isCut 17 = .ok (.iconst 0, 1) := by decide +kernel
theorem dX5_isCut_18 : decode cX5_isCut 18 = .ok (.iload_n 3, 1) := by decide +kernel
theorem dX5_isCut_19 : decode cX5_isCut 19 = .ok (.iadd, 1) := by decide +kernel
theorem dX5_isCut_20 : decode cX5_isCut 20 = .ok (.iaload, 1) := by decide +kernel
theorem dX5_isCut_21 : decode cX5_isCut 21 = .ok (.iconst 2, 1) := by decide +kernel
theorem dX5_isCut_22 : decode cX5_isCut 22 = .ok (.if_icmp .ne 7, 3) := by decide +kernel
theorem dX5_isCut_25 : decode cX5_isCut 25 = .ok (.iconst 1, 1) := by decide +kernel
theorem dX5_isCut_26 : decode cX5_isCut 26 = .ok (.goto 4, 3) := by decide +kernel
theorem dX5_isCut_29 : decode cX5_isCut 29 = .ok (.iconst 0, 1) := by decide +kernel
theorem dX5_isCut_30 : decode cX5_isCut 30 = .ok (.istore_n 2, 1) := by decide +kernel
theorem dX5_isCut_31 : decode cX5_isCut 31 = .ok (.iinc 3 1, 3) := by decide +kernel
theorem dX5_isCut_34 : decode cX5_isCut 34 = .ok (.goto (-30), 3) := by decide +kernel
theorem dX5_isCut_37 : decode cX5_isCut 37 = .ok (.iload_n 2, 1) := by decide +kernel
theorem dX5_isCut_38 : decode cX5_isCut 38 = .ok (.ireturn, 1) := by decide +kernel
set_option maxRecDepth 20000 in
theorem ggX5_takersAhead_X5_isTaker : GoodIn wsX5_takersAhead wsX5_isTaker := goodIn_r _ [5, 6, 7, 8, 9, 10, 11, 12, 13, 14, 15, 16, 17, 18, 19] (by decide +kernel) (by decide +kernel)
set_option maxRecDepth 20000 in
theorem gX5_takersAhead_X5_isTaker : GoodIn wsX5_takersAhead (wsV RX5 68 RX5 yX5_isTaker wsX5_isTaker) := goodIn_app (goodIn_of _ (by decide +kernel)) ggX5_takersAhead_X5_isTaker
theorem dX5_takersAhead_0 : decode cX5_takersAhead 0 = .ok (.iconst 0, 1) := by decide +kernel
theorem dX5_takersAhead_1 : decode cX5_takersAhead 1 = .ok (.istore_n 2, 1) := by decide +kernel
theorem dX5_takersAhead_2 : decode cX5_takersAhead 2 = .ok (.iconst 0, 1) := by decide +kernel
theorem dX5_takersAhead_3 : decode cX5_takersAhead 3 = .ok (.istore_n 3, 1) := by decide +kernel
theorem dX5_takersAhead_4 : decode cX5_takersAhead 4 = .ok (.iload_n 3, 1) := by decide +kernel
theorem dX5_takersAhead_5 : decode cX5_takersAhead 5 = .ok (.iload_n 1, 1) := by decide +kernel
theorem dX5_takersAhead_6 : decode cX5_takersAhead 6 = .ok (.if_icmp .ge 25, 3) := by decide +kernel
theorem dX5_takersAhead_9 : decode cX5_takersAhead 9 = .ok (.iload_n 2, 1) := by decide +kernel
theorem dX5_takersAhead_10 : decode cX5_takersAhead 10 = .ok (.aload_n 0, 1) := by decide +kernel
theorem dX5_takersAhead_11 : decode cX5_takersAhead 11 = .ok (.iload_n 3, 1) := by decide +kernel
theorem dX5_takersAhead_12 : decode cX5_takersAhead 12 = .ok (.invokevirtual 68, 3) := by decide +kernel
theorem dX5_takersAhead_15 : decode cX5_takersAhead 15 = .ok (.ifCond .eq 7, 3) := by decide +kernel
theorem dX5_takersAhead_18 : decode cX5_takersAhead 18 = .ok (.iconst 1, 1) := by decide +kernel
theorem dX5_takersAhead_19 : decode cX5_takersAhead 19 = .ok (.goto 4, 3) := by decide +kernel
theorem dX5_takersAhead_22 : decode cX5_takersAhead 22 = .ok (.iconst 0, 1) := by decide +kernel
theorem dX5_takersAhead_23 : decode cX5_takersAhead 23 = .ok (.iadd, 1) := by decide +kernel
theorem dX5_takersAhead_24 : decode cX5_takersAhead 24 = .ok (.istore_n 2, 1) := by decide +kernel
theorem dX5_takersAhead_25 : decode cX5_takersAhead 25 = .ok (.iinc 3 1, 3) := by decide +kernel
theorem dX5_takersAhead_28 : decode cX5_takersAhead 28 = .ok (.goto (-24), 3) := by decide +kernel
theorem dX5_takersAhead_31 : decode cX5_takersAhead 31 = .ok (.iload_n 2, 1) := by decide +kernel
theorem dX5_takersAhead_32 : decode cX5_takersAhead 32 = .ok (.ireturn, 1) := by decide +kernel
set_option maxRecDepth 20000 in
theorem ggX5_comes_X5_pulses : GoodIn wsX5_comes wsX5_pulses := goodIn_r _ [5, 6, 7, 20, 21, 22, 23, 24, 25, 26, 27, 28, 29, 30, 31, 32] (by decide +kernel) (by decide +kernel)
set_option maxRecDepth 20000 in
theorem gX5_comes_X5_pulses : GoodIn wsX5_comes (wsV RX5 71 RX5 yX5_pulses wsX5_pulses) := goodIn_app (goodIn_of _ (by decide +kernel)) ggX5_comes_X5_pulses
set_option maxRecDepth 20000 in
theorem ggX5_comes_X5_takersAhead : GoodIn wsX5_comes wsX5_takersAhead := goodIn_r _ [11, 12, 13, 14, 4, 15, 7, 20, 21, 22, 23, 24, 25, 26, 27, 28, 29, 30, 31, 32] (by decide +kernel) (by decide +kernel)
set_option maxRecDepth 20000 in
theorem gX5_comes_X5_takersAhead : GoodIn wsX5_comes (wsV RX5 75 RX5 yX5_takersAhead wsX5_takersAhead) := goodIn_app (goodIn_of _ (by decide +kernel)) ggX5_comes_X5_takersAhead
set_option maxRecDepth 20000 in
theorem ggX5_comes_X5_isCut : GoodIn wsX5_comes wsX5_isCut := goodIn_r _ [19, 7, 20, 21, 22, 23, 24, 25, 26, 27, 28, 29, 30, 31, 32] (by decide +kernel) (by decide +kernel)
set_option maxRecDepth 20000 in
theorem gX5_comes_X5_isCut : GoodIn wsX5_comes (wsV RX5 79 RX5 yX5_isCut wsX5_isCut) := goodIn_app (goodIn_of _ (by decide +kernel)) ggX5_comes_X5_isCut
theorem dX5_comes_0 : decode cX5_comes 0 = .ok (.aload_n 0, 1) := by decide +kernel
theorem dX5_comes_1 : decode cX5_comes 1 = .ok (.invokevirtual 71, 3) := by decide +kernel
theorem dX5_comes_4 : decode cX5_comes 4 = .ok (.bipush 12, 2) := by decide +kernel
theorem dX5_comes_6 : decode cX5_comes 6 = .ok (.aload_n 0, 1) := by decide +kernel
theorem dX5_comes_7 : decode cX5_comes 7 = .ok (.iload_n 1, 1) := by decide +kernel
theorem dX5_comes_8 : decode cX5_comes 8 = .ok (.invokevirtual 75, 3) := by decide +kernel
theorem dX5_comes_11 : decode cX5_comes 11 = .ok (.imul, 1) := by decide +kernel
theorem dX5_comes_12 : decode cX5_comes 12 = .ok (.isub, 1) := by decide +kernel
theorem dX5_comes_13 : decode cX5_comes 13 = .ok (.istore_n 2, 1) := by decide +kernel
theorem dX5_comes_14 : decode cX5_comes 14 = .ok (.aload_n 0, 1) := by decide +kernel
theorem dX5_comes_15 : decode cX5_comes 15 = .ok (.iload_n 1, 1) := by decide +kernel
theorem dX5_comes_16 : decode cX5_comes 16 = .ok (.invokevirtual 79, 3) := by decide +kernel
theorem dX5_comes_19 : decode cX5_comes 19 = .ok (.ifCond .ne 7, 3) := by decide +kernel
theorem dX5_comes_22 : decode cX5_comes 22 = .ok (.iload_n 2, 1) := by decide +kernel
theorem dX5_comes_23 : decode cX5_comes 23 = .ok (.ifCond .ge 7, 3) := by decide +kernel
theorem dX5_comes_26 : decode cX5_comes 26 = .ok (.iconst 0, 1) := by decide +kernel
theorem dX5_comes_27 : decode cX5_comes 27 = .ok (.goto 4, 3) := by decide +kernel
theorem dX5_comes_30 : decode cX5_comes 30 = .ok (.iload_n 2, 1) := by decide +kernel
theorem dX5_comes_31 : decode cX5_comes 31 = .ok (.ireturn, 1) := by decide +kernel
set_option maxRecDepth 20000 in
theorem ggX5_arrives_X5_lengthOf : GoodIn wsX5_arrives wsX5_lengthOf := goodIn_r _ [6, 7, 1, 8, 9, 5, 10, 15, 16, 17, 18, 19, 20, 21, 22, 23, 24, 25, 26, 27] (by decide +kernel) (by decide +kernel)
set_option maxRecDepth 20000 in
theorem gX5_arrives_X5_lengthOf : GoodIn wsX5_arrives (wsV RX5 82 RX5 yX5_lengthOf wsX5_lengthOf) := goodIn_app (goodIn_of _ (by decide +kernel)) ggX5_arrives_X5_lengthOf
set_option maxRecDepth 20000 in
theorem ggX5_arrives_X5_isTaker : GoodIn wsX5_arrives wsX5_isTaker := goodIn_r _ [14, 1, 15, 16, 17, 18, 19, 20, 21, 22, 23, 24, 25, 26, 27] (by decide +kernel) (by decide +kernel)
set_option maxRecDepth 20000 in
theorem gX5_arrives_X5_isTaker : GoodIn wsX5_arrives (wsV RX5 68 RX5 yX5_isTaker wsX5_isTaker) := goodIn_app (goodIn_of _ (by decide +kernel)) ggX5_arrives_X5_isTaker
theorem dX5_arrives_0 : decode cX5_arrives 0 = .ok (.aload_n 0, 1) := by decide +kernel
theorem dX5_arrives_1 : decode cX5_arrives 1 = .ok (.iload_n 2, 1) := by decide +kernel
theorem dX5_arrives_2 : decode cX5_arrives 2 = .ok (.invokevirtual 82, 3) := by decide +kernel
theorem dX5_arrives_5 : decode cX5_arrives 5 = .ok (.istore_n 3, 1) := by decide +kernel
theorem dX5_arrives_6 : decode cX5_arrives 6 = .ok (.iconst 0, 1) := by decide +kernel
theorem dX5_arrives_7 : decode cX5_arrives 7 = .ok (.istore 4, 2) := by decide +kernel
theorem dX5_arrives_9 : decode cX5_arrives 9 = .ok (.iload 4, 2) := by decide +kernel
theorem dX5_arrives_11 : decode cX5_arrives 11 = .ok (.iload_n 1, 1) := by decide +kernel
theorem dX5_arrives_12 : decode cX5_arrives 12 = .ok (.if_icmp .gt 86, 3) := by decide +kernel
theorem dX5_arrives_15 : decode cX5_arrives 15 = .ok (.iload_n 3, 1) := by decide +kernel
theorem dX5_arrives_16 : decode cX5_arrives 16 = .ok (.aload_n 0, 1) := by decide +kernel
theorem dX5_arrives_17 : decode cX5_arrives 17 = .ok (.getfield 7, 3) := by decide +kernel
theorem dX5_arrives_20 : decode cX5_arrives 20 = .ok (.bipush 8, 2) := by decide +kernel
theorem dX5_arrives_22 : decode cX5_arrives 22 = .ok (.iload 4, 2) := by decide +kernel
theorem dX5_arrives_24 : decode cX5_arrives 24 = .ok (.iadd, 1) := by decide +kernel
theorem dX5_arrives_25 : decode cX5_arrives 25 = .ok (.iaload, 1) := by decide +kernel
theorem dX5_arrives_26 : decode cX5_arrives 26 = .ok (.isub, 1) := by decide +kernel
theorem dX5_arrives_27 : decode cX5_arrives 27 = .ok (.iconst 1, 1) := by decide +kernel
theorem dX5_arrives_28 : decode cX5_arrives 28 = .ok (.if_icmp .ge 7, 3) := by decide +kernel
theorem dX5_arrives_31 : decode cX5_arrives 31 = .ok (.iconst 1, 1) := by decide +kernel
theorem dX5_arrives_32 : decode cX5_arrives 32 = .ok (.goto 15, 3) := by decide +kernel
theorem dX5_arrives_35 : decode cX5_arrives 35 = .ok (.iload_n 3, 1) := by decide +kernel
theorem dX5_arrives_36 : decode cX5_arrives 36 = .ok (.aload_n 0, 1) := by decide +kernel
theorem dX5_arrives_37 : decode cX5_arrives 37 = .ok (.getfield 7, 3) := by decide +kernel
theorem dX5_arrives_40 : decode cX5_arrives 40 = .ok (.bipush 8, 2) := by decide +kernel
theorem dX5_arrives_42 : decode cX5_arrives 42 = .ok (.iload 4, 2) := by decide +kernel
theorem dX5_arrives_44 : decode cX5_arrives 44 = .ok (.iadd, 1) := by decide +kernel
theorem dX5_arrives_45 : decode cX5_arrives 45 = .ok (.iaload, 1) := by decide +kernel
theorem dX5_arrives_46 : decode cX5_arrives 46 = .ok (.isub, 1) := by decide +kernel
theorem dX5_arrives_47 : decode cX5_arrives 47 = .ok (.istore_n 3, 1) := by decide +kernel
theorem dX5_arrives_48 : decode cX5_arrives 48 = .ok (.iload 4, 2) := by decide +kernel
theorem dX5_arrives_50 : decode cX5_arrives 50 = .ok (.iload_n 1, 1) := by decide +kernel
theorem dX5_arrives_51 : decode cX5_arrives 51 = .ok (.if_icmp .ge 41, 3) := by decide +kernel
theorem dX5_arrives_54 : decode cX5_arrives 54 = .ok (.aload_n 0, 1) := by decide +kernel
theorem dX5_arrives_55 : decode cX5_arrives 55 = .ok (.iload 4, 2) := by decide +kernel
theorem dX5_arrives_57 : decode cX5_arrives 57 = .ok (.invokevirtual 68, 3) := by decide +kernel
theorem dX5_arrives_60 : decode cX5_arrives 60 = .ok (.ifCond .eq 32, 3) := by decide +kernel
theorem dX5_arrives_63 : decode cX5_arrives 63 = .ok (.aload_n 0, 1) := by decide +kernel
theorem dX5_arrives_64 : decode cX5_arrives 64 = .ok (.getfield 7, 3) := by decide +kernel
theorem dX5_arrives_67 : decode cX5_arrives 67 = .ok (.bipush 41, 2) := by decide +kernel
theorem dX5_arrives_69 : decode cX5_arrives 69 = .ok (.iaload, 1) := by decide +kernel
theorem dX5_arrives_70 : decode cX5_arrives 70 = .ok (.iconst 1, 1) := by decide +kernel
theorem dX5_arrives_71 : decode cX5_arrives 71 = .ok (.if_icmp .ne 21, 3) := by decide +kernel
theorem dX5_arrives_74 : decode cX5_arrives 74 = .ok (.iload_n 3, 1) := by decide +kernel
theorem dX5_arrives_75 : decode cX5_arrives 75 = .ok (.aload_n 0, 1) := by decide +kernel
theorem dX5_arrives_76 : decode cX5_arrives 76 = .ok (.getfield 7, 3) := by decide +kernel
theorem dX5_arrives_79 : decode cX5_arrives 79 = .ok (.bipush 40, 2) := by decide +kernel
theorem dX5_arrives_81 : decode cX5_arrives 81 = .ok (.iaload, 1) := by decide +kernel
theorem dX5_arrives_82 : decode cX5_arrives 82 = .ok (.if_icmp .lt 8, 3) := by decide +kernel
theorem dX5_arrives_85 : decode cX5_arrives 85 = .ok (.bipush 8, 2) := by decide +kernel
theorem dX5_arrives_87 : decode cX5_arrives 87 = .ok (.goto 4, 3) := by decide +kernel
theorem dX5_arrives_90 : decode cX5_arrives 90 = .ok (.iconst 4, 1) := by decide +kernel
theorem dX5_arrives_91 : decode cX5_arrives 91 = .ok (.istore_n 3, 1) := by decide +kernel
theorem dX5_arrives_92 : decode cX5_arrives 92 = .ok (.iinc 4 1, 3) := by decide +kernel
theorem dX5_arrives_95 : decode cX5_arrives 95 = .ok (.goto (-86), 3) := by decide +kernel
theorem dX5_arrives_98 : decode cX5_arrives 98 = .ok (.iload_n 3, 1) := by decide +kernel
theorem dX5_arrives_99 : decode cX5_arrives 99 = .ok (.ireturn, 1) := by decide +kernel
set_option maxRecDepth 20000 in
theorem ggX5_takes_X5_isTaker : GoodIn wsX5_takes wsX5_isTaker := goodIn_r _ [5, 6, 24, 25, 26, 27, 28, 29, 30, 31, 32, 33, 34, 35, 36] (by decide +kernel) (by decide +kernel)
set_option maxRecDepth 20000 in
theorem gX5_takes_X5_isTaker : GoodIn wsX5_takes (wsV RX5 68 RX5 yX5_isTaker wsX5_isTaker) := goodIn_app (goodIn_of _ (by decide +kernel)) ggX5_takes_X5_isTaker
set_option maxRecDepth 20000 in
theorem ggX5_takes_X5_comes : GoodIn wsX5_takes wsX5_comes := goodIn_r _ [10, 11, 12, 13, 4, 14, 15, 6, 16, 17, 18, 19, 1, 2, 3, 5, 20, 21, 22, 23, 24, 25, 26, 27, 28, 29, 30, 31, 32, 33, 34, 35, 36] (by decide +kernel) (by decide +kernel)
set_option maxRecDepth 20000 in
theorem gX5_takes_X5_comes : GoodIn wsX5_takes (wsV RX5 85 RX5 yX5_comes wsX5_comes) := goodIn_app (goodIn_of _ (by decide +kernel)) ggX5_takes_X5_comes
theorem dX5_takes_0 : decode cX5_takes 0 = .ok (.aload_n 0, 1) := by decide +kernel
theorem dX5_takes_1 : decode cX5_takes 1 = .ok (.iload_n 1, 1) := by decide +kernel
theorem dX5_takes_2 : decode cX5_takes 2 = .ok (.invokevirtual 68, 3) := by decide +kernel
theorem dX5_takes_5 : decode cX5_takes 5 = .ok (.ifCond .eq 17, 3) := by decide +kernel
theorem dX5_takes_8 : decode cX5_takes 8 = .ok (.aload_n 0, 1) := by decide +kernel
theorem dX5_takes_9 : decode cX5_takes 9 = .ok (.iload_n 1, 1) := by decide +kernel
theorem dX5_takes_10 : decode cX5_takes 10 = .ok (.invokevirtual 85, 3) := by decide +kernel
theorem dX5_takes_13 : decode cX5_takes 13 = .ok (.bipush 12, 2) := by decide +kernel
theorem dX5_takes_15 : decode cX5_takes 15 = .ok (.if_icmp .lt 7, 3) := by decide +kernel
theorem dX5_takes_18 : decode cX5_takes 18 = .ok (.iconst 1, 1) := by decide +kernel
theorem dX5_takes_19 : decode cX5_takes 19 = .ok (.goto 4, 3) := by decide +kernel
theorem dX5_takes_22 : decode cX5_takes 22 = .ok (.iconst 0, 1) := by decide +kernel
theorem dX5_takes_23 : decode cX5_takes 23 = .ok (.ireturn, 1) := by decide +kernel
set_option maxRecDepth 20000 in
theorem ggX5_wordBehind_X5_takes : GoodIn wsX5_wordBehind wsX5_takes := goodIn_r _ [6, 7, 8, 9, 5, 10, 1, 11, 12, 13, 14, 15, 16, 17, 18, 19, 20, 21, 22, 23, 24, 25, 26, 27, 39, 40, 41, 42, 43, 44, 45, 46, 47, 48, 49, 50, 51] (by decide +kernel) (by decide +kernel)
set_option maxRecDepth 20000 in
theorem gX5_wordBehind_X5_takes : GoodIn wsX5_wordBehind (wsV RX5 88 RX5 yX5_takes wsX5_takes) := goodIn_app (goodIn_of _ (by decide +kernel)) ggX5_wordBehind_X5_takes
set_option maxRecDepth 20000 in
theorem ggX5_wordBehind_X5_takersAhead : GoodIn wsX5_wordBehind wsX5_takersAhead := goodIn_r _ [23, 7, 8, 9, 5, 10, 1, 39, 40, 41, 42, 43, 44, 45, 46, 47, 48, 49, 50, 51] (by decide +kernel) (by decide +kernel)
set_option maxRecDepth 20000 in
theorem gX5_wordBehind_X5_takersAhead : GoodIn wsX5_wordBehind (wsV RX5 75 RX5 yX5_takersAhead wsX5_takersAhead) := goodIn_app (goodIn_of _ (by decide +kernel)) ggX5_wordBehind_X5_takersAhead
set_option maxRecDepth 20000 in
theorem ggX5_wordBehind_X5_arrives : GoodIn wsX5_wordBehind wsX5_arrives := goodIn_r _ [31, 1, 32, 33, 34, 5, 35, 19, 36, 37, 38, 7, 8, 9, 10, 39, 40, 41, 42, 43, 44, 45, 46, 47, 48, 49, 50, 51] (by decide +kernel) (by decide +kernel)
set_option maxRecDepth 20000 in
theorem gX5_wordBehind_X5_arrives : GoodIn wsX5_wordBehind (wsV RX5 91 RX5 yX5_arrives wsX5_arrives) := goodIn_app (goodIn_of _ (by decide +kernel)) ggX5_wordBehind_X5_arrives
theorem dX5_wordBehind_0 : decode cX5_wordBehind 0 = .ok (.aload_n 0, 1) := by decide +kernel
theorem dX5_wordBehind_1 : decode cX5_wordBehind 1 = .ok (.iload_n 1, 1) := by decide +kernel
theorem dX5_wordBehind_2 : decode cX5_wordBehind 2 = .ok (.invokevirtual 88, 3) := by decide +kernel
theorem dX5_wordBehind_5 : decode cX5_wordBehind 5 = .ok (.ifCond .ne 13, 3) := by decide +kernel
theorem dX5_wordBehind_8 : decode cX5_wordBehind 8 = .ok (.aload_n 0, 1) := by decide +kernel
theorem dX5_wordBehind_9 : decode cX5_wordBehind 9 = .ok (.getfield 7, 3) := by decide +kernel
theorem dX5_wordBehind_12 : decode cX5_wordBehind 12 = .ok (.bipush 16, 2) := by decide +kernel
theorem dX5_wordBehind_14 : decode cX5_wordBehind 14 = .ok (.iload_n 1, 1) := by decide +kernel
theorem dX5_wordBehind_15 : decode cX5_wordBehind 15 = .ok (.iadd, 1) := by decide +kernel
theorem dX5_wordBehind_16 : decode cX5_wordBehind 16 = .ok (.iaload, 1) := by decide +kernel
theorem dX5_wordBehind_17 : decode cX5_wordBehind 17 = .ok (.ireturn, 1) := by decide +kernel
theorem dX5_wordBehind_18 : decode cX5_wordBehind 18 = .ok (.bipush 12, 2) := by decide +kernel
theorem dX5_wordBehind_20 : decode cX5_wordBehind 20 = .ok (.aload_n 0, 1) := by decide +kernel
theorem dX5_wordBehind_21 : decode cX5_wordBehind 21 = .ok (.iload_n 1, 1) := by decide +kernel
theorem dX5_wordBehind_22 : decode cX5_wordBehind 22 = .ok (.invokevirtual 75, 3) := by decide +kernel
theorem dX5_wordBehind_25 : decode cX5_wordBehind 25 = .ok (.imul, 1) := by decide +kernel
theorem dX5_wordBehind_26 : decode cX5_wordBehind 26 = .ok (.istore_n 2, 1) := by decide +kernel
theorem dX5_wordBehind_27 : decode cX5_wordBehind 27 = .ok (.iconst 0, 1) := by decide +kernel
theorem dX5_wordBehind_28 : decode cX5_wordBehind 28 = .ok (.istore_n 3, 1) := by decide +kernel
theorem dX5_wordBehind_29 : decode cX5_wordBehind 29 = .ok (.iconst 0, 1) := by decide +kernel
theorem dX5_wordBehind_30 : decode cX5_wordBehind 30 = .ok (.istore 4, 2) := by decide +kernel
theorem dX5_wordBehind_32 : decode cX5_wordBehind 32 = .ok (.iload 4, 2) := by decide +kernel
theorem dX5_wordBehind_34 : decode cX5_wordBehind 34 = .ok (.bipush 12, 2) := by decide +kernel
theorem dX5_wordBehind_36 : decode cX5_wordBehind 36 = .ok (.if_icmp .ge 38, 3) := by decide +kernel
theorem dX5_wordBehind_39 : decode cX5_wordBehind 39 = .ok (.iconst 2, 1) := by decide +kernel
theorem dX5_wordBehind_40 : decode cX5_wordBehind 40 = .ok (.iload_n 3, 1) := by decide +kernel
theorem dX5_wordBehind_41 : decode cX5_wordBehind 41 = .ok (.imul, 1) := by decide +kernel
theorem dX5_wordBehind_42 : decode cX5_wordBehind 42 = .ok (.aload_n 0, 1) := by decide +kernel
theorem dX5_wordBehind_43 : decode cX5_wordBehind 43 = .ok (.iload_n 1, 1) := by decide +kernel
theorem dX5_wordBehind_44 : decode cX5_wordBehind 44 = .ok (.iload_n 2, 1) := by decide +kernel
theorem dX5_wordBehind_45 : decode cX5_wordBehind 45 = .ok (.iload 4, 2) := by decide +kernel
theorem dX5_wordBehind_47 : decode cX5_wordBehind 47 = .ok (.iadd, 1) := by decide +kernel
theorem dX5_wordBehind_48 : decode cX5_wordBehind 48 = .ok (.invokevirtual 91, 3) := by decide +kernel
theorem dX5_wordBehind_51 : decode cX5_wordBehind 51 = .ok (.aload_n 0, 1) := by decide +kernel
theorem dX5_wordBehind_52 : decode cX5_wordBehind 52 = .ok (.getfield 7, 3) := by decide +kernel
theorem dX5_wordBehind_55 : decode cX5_wordBehind 55 = .ok (.bipush 40, 2) := by decide +kernel
theorem dX5_wordBehind_57 : decode cX5_wordBehind 57 = .ok (.iaload, 1) := by decide +kernel
theorem dX5_wordBehind_58 : decode cX5_wordBehind 58 = .ok (.if_icmp .lt 7, 3) := by decide +kernel
theorem dX5_wordBehind_61 : decode cX5_wordBehind 61 = .ok (.iconst 1, 1) := by decide +kernel
theorem dX5_wordBehind_62 : decode cX5_wordBehind 62 = .ok (.goto 4, 3) := by decide +kernel
theorem dX5_wordBehind_65 : decode cX5_wordBehind 65 = .ok (.iconst 0, 1) := by decide +kernel
theorem dX5_wordBehind_66 : decode cX5_wordBehind 66 = .ok (.iadd, 1) := by decide +kernel
theorem dX5_wordBehind_67 : decode cX5_wordBehind 67 = .ok (.istore_n 3, 1) := by decide +kernel
theorem dX5_wordBehind_68 : decode cX5_wordBehind 68 = .ok (.iinc 4 1, 3) := by decide +kernel
theorem dX5_wordBehind_71 : decode cX5_wordBehind 71 = .ok (.goto (-39), 3) := by decide +kernel
theorem dX5_wordBehind_74 : decode cX5_wordBehind 74 = .ok (.iload_n 3, 1) := by decide +kernel
theorem dX5_wordBehind_75 : decode cX5_wordBehind 75 = .ok (.ireturn, 1) := by decide +kernel
set_option maxRecDepth 20000 in
theorem ggX5_takers_X5_takes : GoodIn wsX5_takers wsX5_takes := goodIn_r _ [5, 6, 7, 8, 4, 9, 10, 11, 12, 13, 14, 15, 16, 17, 18, 19, 20, 21, 22, 23, 24, 25, 26, 27, 28, 29, 30, 31, 32, 33, 34, 35, 36, 37, 38, 39, 40] (by decide +kernel) (by decide +kernel)
set_option maxRecDepth 20000 in
theorem gX5_takers_X5_takes : GoodIn wsX5_takers (wsV RX5 88 RX5 yX5_takes wsX5_takes) := goodIn_app (goodIn_of _ (by decide +kernel)) ggX5_takers_X5_takes
theorem dX5_takers_0 : decode cX5_takers 0 = .ok (.iconst 0, 1) := by decide +kernel
theorem dX5_takers_1 : decode cX5_takers 1 = .ok (.istore_n 1, 1) := by decide +kernel
theorem dX5_takers_2 : decode cX5_takers 2 = .ok (.iconst 0, 1) := by decide +kernel
theorem dX5_takers_3 : decode cX5_takers 3 = .ok (.istore_n 2, 1) := by decide +kernel
theorem dX5_takers_4 : decode cX5_takers 4 = .ok (.iload_n 2, 1) := by decide +kernel
theorem dX5_takers_5 : decode cX5_takers 5 = .ok (.bipush 8, 2) := by decide +kernel
theorem dX5_takers_7 : decode cX5_takers 7 = .ok (.if_icmp .ge 25, 3) := by decide +kernel
theorem dX5_takers_10 : decode cX5_takers 10 = .ok (.iload_n 1, 1) := by decide +kernel
theorem dX5_takers_11 : decode cX5_takers 11 = .ok (.aload_n 0, 1) := by decide +kernel
theorem dX5_takers_12 : decode cX5_takers 12 = .ok (.iload_n 2, 1) := by decide +kernel
theorem dX5_takers_13 : decode cX5_takers 13 = .ok (.invokevirtual 88, 3) := by decide +kernel
theorem dX5_takers_16 : decode cX5_takers 16 = .ok (.ifCond .eq 7, 3) := by decide +kernel
theorem dX5_takers_19 : decode cX5_takers 19 = .ok (.iconst 1, 1) := by decide +kernel
theorem dX5_takers_20 : decode cX5_takers 20 = .ok (.goto 4, 3) := by decide +kernel
theorem dX5_takers_23 : decode cX5_takers 23 = .ok (.iconst 0, 1) := by decide +kernel
theorem dX5_takers_24 : decode cX5_takers 24 = .ok (.iadd, 1) := by decide +kernel
theorem dX5_takers_25 : decode cX5_takers 25 = .ok (.istore_n 1, 1) := by decide +kernel
theorem dX5_takers_26 : decode cX5_takers 26 = .ok (.iinc 2 1, 3) := by decide +kernel
theorem dX5_takers_29 : decode cX5_takers 29 = .ok (.goto (-25), 3) := by decide +kernel
theorem dX5_takers_32 : decode cX5_takers 32 = .ok (.iload_n 1, 1) := by decide +kernel
theorem dX5_takers_33 : decode cX5_takers 33 = .ok (.ireturn, 1) := by decide +kernel
theorem dX5_addPulse_0 : decode cX5_addPulse 0 = .ok (.aload_n 0, 1) := by decide +kernel
theorem dX5_addPulse_1 : decode cX5_addPulse 1 = .ok (.getfield 7, 3) := by decide +kernel
theorem dX5_addPulse_4 : decode cX5_addPulse 4 = .ok (.bipush 50, 2) := by decide +kernel
theorem dX5_addPulse_6 : decode cX5_addPulse 6 = .ok (.aload_n 0, 1) := by decide +kernel
theorem dX5_addPulse_7 : decode cX5_addPulse 7 = .ok (.getfield 7, 3) := by decide +kernel
theorem dX5_addPulse_10 : decode cX5_addPulse 10 = .ok (.bipush 49, 2) := by decide +kernel
theorem dX5_addPulse_12 : decode cX5_addPulse 12 = .ok (.iaload, 1) := by decide +kernel
theorem dX5_addPulse_13 : decode cX5_addPulse 13 = .ok (.iadd, 1) := by decide +kernel
theorem dX5_addPulse_14 : decode cX5_addPulse 14 = .ok (.iload_n 1, 1) := by decide +kernel
theorem dX5_addPulse_15 : decode cX5_addPulse 15 = .ok (.iastore, 1) := by decide +kernel
theorem dX5_addPulse_16 : decode cX5_addPulse 16 = .ok (.aload_n 0, 1) := by decide +kernel
theorem dX5_addPulse_17 : decode cX5_addPulse 17 = .ok (.getfield 7, 3) := by decide +kernel
theorem dX5_addPulse_20 : decode cX5_addPulse 20 = .ok (.bipush 49, 2) := by decide +kernel
theorem dX5_addPulse_22 : decode cX5_addPulse 22 = .ok (.dup2, 1) := by decide +kernel
theorem dX5_addPulse_23 : decode cX5_addPulse 23 = .ok (.iaload, 1) := by decide +kernel
theorem dX5_addPulse_24 : decode cX5_addPulse 24 = .ok (.iconst 1, 1) := by decide +kernel
theorem dX5_addPulse_25 : decode cX5_addPulse 25 = .ok (.iadd, 1) := by decide +kernel
theorem dX5_addPulse_26 : decode cX5_addPulse 26 = .ok (.iastore, 1) := by decide +kernel
theorem dX5_addPulse_27 : decode cX5_addPulse 27 = .ok (.aload_n 0, 1) := by decide +kernel
theorem dX5_addPulse_28 : decode cX5_addPulse 28 = .ok (.getfield 7, 3) := by decide +kernel
theorem dX5_addPulse_31 : decode cX5_addPulse 31 = .ok (.bipush 44, 2) := by decide +kernel
theorem dX5_addPulse_33 : decode cX5_addPulse 33 = .ok (.dup2, 1) := by decide +kernel
theorem dX5_addPulse_34 : decode cX5_addPulse 34 = .ok (.iaload, 1) := by decide +kernel
theorem dX5_addPulse_35 : decode cX5_addPulse 35 = .ok (.iconst 1, 1) := by decide +kernel
theorem dX5_addPulse_36 : decode cX5_addPulse 36 = .ok (.iadd, 1) := by decide +kernel
theorem dX5_addPulse_37 : decode cX5_addPulse 37 = .ok (.iastore, 1) := by decide +kernel
theorem dX5_addPulse_38 : decode cX5_addPulse 38 = .ok (.return_, 1) := by decide +kernel
set_option maxRecDepth 20000 in
theorem ggX5_sendNow_X5_pulseOf : GoodIn wsX5_sendNow wsX5_pulseOf := goodIn_r _ [4] (by decide +kernel) (by decide +kernel)
set_option maxRecDepth 20000 in
theorem gX5_sendNow_X5_pulseOf : GoodIn wsX5_sendNow (va_wsS RX5 65 yX5_pulseOf wsX5_pulseOf) := goodIn_app (goodIn_of _ (by decide +kernel)) ggX5_sendNow_X5_pulseOf
set_option maxRecDepth 20000 in
theorem ggX5_sendNow_X5_addPulse : GoodIn wsX5_sendNow wsX5_addPulse := goodIn_r _ [8, 9, 10, 11, 12, 13, 14, 15, 16, 17, 18, 19, 20, 21, 22] (by decide +kernel) (by decide +kernel)
set_option maxRecDepth 20000 in
theorem gX5_sendNow_X5_addPulse : GoodIn wsX5_sendNow (wsV RX5 94 RX5 yX5_addPulse wsX5_addPulse) := goodIn_app (goodIn_of _ (by decide +kernel)) ggX5_sendNow_X5_addPulse
theorem dX5_sendNow_0 : decode cX5_sendNow 0 = .ok (.iconst 0, 1) := by decide +kernel
theorem dX5_sendNow_1 : decode cX5_sendNow 1 = .ok (.istore_n 2, 1) := by decide +kernel
theorem dX5_sendNow_2 : decode cX5_sendNow 2 = .ok (.iload_n 2, 1) := by decide +kernel
theorem dX5_sendNow_3 : decode cX5_sendNow 3 = .ok (.bipush 12, 2) := by decide +kernel
theorem dX5_sendNow_5 : decode cX5_sendNow 5 = .ok (.if_icmp .ge 18, 3) := by decide +kernel
theorem dX5_sendNow_8 : decode cX5_sendNow 8 = .ok (.aload_n 0, 1) := by decide +kernel
theorem dX5_sendNow_9 : decode cX5_sendNow 9 = .ok (.iload_n 1, 1) := by decide +kernel
theorem dX5_sendNow_10 : decode cX5_sendNow 10 = .ok (.iload_n 2, 1) := by decide +kernel
theorem dX5_sendNow_11 : decode cX5_sendNow 11 = .ok (.invokestatic 65, 3) := by decide +kernel
theorem dX5_sendNow_14 : decode cX5_sendNow 14 = .ok (.invokevirtual 94, 3) := by decide +kernel
theorem dX5_sendNow_17 : decode cX5_sendNow 17 = .ok (.iinc 2 1, 3) := by decide +kernel
theorem dX5_sendNow_20 : decode cX5_sendNow 20 = .ok (.goto (-18), 3) := by decide +kernel
theorem dX5_sendNow_23 : decode cX5_sendNow 23 = .ok (.return_, 1) := by decide +kernel
theorem dX5_emptyFrame_0 : decode cX5_emptyFrame 0 = .ok (.iconst 0, 1) := by decide +kernel
theorem dX5_emptyFrame_1 : decode cX5_emptyFrame 1 = .ok (.istore_n 1, 1) := by decide +kernel
theorem dX5_emptyFrame_2 : decode cX5_emptyFrame 2 = .ok (.iload_n 1, 1) := by decide +kernel
theorem dX5_emptyFrame_3 : decode cX5_emptyFrame 3 = .ok (.bipush 120, 2) := by decide +kernel
theorem dX5_emptyFrame_5 : decode cX5_emptyFrame 5 = .ok (.if_icmp .ge 19, 3) := by decide +kernel
theorem dX5_emptyFrame_8 : decode cX5_emptyFrame 8 = .ok (.aload_n 0, 1) := by decide +kernel
theorem dX5_emptyFrame_9 : decode cX5_emptyFrame 9 = .ok (.getfield 7, 3) := by decide +kernel
theorem dX5_emptyFrame_12 : decode cX5_emptyFrame 12 = .ok (.bipush 50, 2) := by decide +kernel
theorem dX5_emptyFrame_14 : decode cX5_emptyFrame 14 = .ok (.iload_n 1, 1) := by decide +kernel
theorem dX5_emptyFrame_15 : decode cX5_emptyFrame 15 = .ok (.iadd, 1) := by decide +kernel
theorem dX5_emptyFrame_16 : decode cX5_emptyFrame 16 = .ok (.iconst 0, 1) := by decide +kernel
theorem dX5_emptyFrame_17 : decode cX5_emptyFrame 17 = .ok (.iastore, 1) := by decide +kernel
theorem dX5_emptyFrame_18 : decode cX5_emptyFrame 18 = .ok (.iinc 1 1, 3) := by decide +kernel
theorem dX5_emptyFrame_21 : decode cX5_emptyFrame 21 = .ok (.goto (-19), 3) := by decide +kernel
theorem dX5_emptyFrame_24 : decode cX5_emptyFrame 24 = .ok (.aload_n 0, 1) := by decide +kernel
theorem dX5_emptyFrame_25 : decode cX5_emptyFrame 25 = .ok (.getfield 7, 3) := by decide +kernel
theorem dX5_emptyFrame_28 : decode cX5_emptyFrame 28 = .ok (.bipush 49, 2) := by decide +kernel
theorem dX5_emptyFrame_30 : decode cX5_emptyFrame 30 = .ok (.iconst 0, 1) := by decide +kernel
theorem dX5_emptyFrame_31 : decode cX5_emptyFrame 31 = .ok (.iastore, 1) := by decide +kernel
theorem dX5_emptyFrame_32 : decode cX5_emptyFrame 32 = .ok (.return_, 1) := by decide +kernel
set_option maxRecDepth 20000 in
theorem ggX5_gapNow_X5_takers : GoodIn wsX5_gapNow wsX5_takers := goodIn_r _ [7, 8, 9, 10, 6, 11, 12, 13, 14, 15, 2, 16, 17, 18, 19, 20, 21, 22, 23, 1, 24, 25, 26, 27, 28, 29, 30, 31, 51, 52, 53, 54, 55, 56, 57, 58, 59, 60, 61, 62, 63] (by decide +kernel) (by decide +kernel)
set_option maxRecDepth 20000 in
theorem gX5_gapNow_X5_takers : GoodIn wsX5_gapNow (wsV RX5 98 RX5 yX5_takers wsX5_takers) := goodIn_app (goodIn_of _ (by decide +kernel)) ggX5_gapNow_X5_takers
set_option maxRecDepth 20000 in
theorem ggX5_gapNow_X5_wordBehind : GoodIn wsX5_gapNow wsX5_wordBehind := goodIn_r _ [35, 2, 8, 9, 10, 6, 11, 12, 13, 14, 15, 16, 17, 18, 19, 20, 21, 22, 23, 1, 24, 25, 26, 27, 28, 29, 30, 31, 36, 37, 38, 39, 40, 41, 42, 43, 44, 45, 46, 51, 52, 53, 54, 55, 56, 57, 58, 59, 60, 61, 62, 63] (by decide +kernel) (by decide +kernel)
set_option maxRecDepth 20000 in
theorem gX5_gapNow_X5_wordBehind : GoodIn wsX5_gapNow (wsV RX5 101 RX5 yX5_wordBehind wsX5_wordBehind) := goodIn_app (goodIn_of _ (by decide +kernel)) ggX5_gapNow_X5_wordBehind
set_option maxRecDepth 20000 in
theorem ggX5_gapNow_X5_comes : GoodIn wsX5_gapNow wsX5_comes := goodIn_r _ [19, 20, 21, 22, 6, 23, 1, 2, 24, 25, 26, 27, 12, 13, 14, 15, 28, 29, 30, 31, 51, 52, 53, 54, 55, 56, 57, 58, 59, 60, 61, 62, 63] (by decide +kernel) (by decide +kernel)
set_option maxRecDepth 20000 in
theorem gX5_gapNow_X5_comes : GoodIn wsX5_gapNow (wsV RX5 85 RX5 yX5_comes wsX5_comes) := goodIn_app (goodIn_of _ (by decide +kernel)) ggX5_gapNow_X5_comes
set_option maxRecDepth 20000 in
theorem ggX5_gapNow_X5_emptyFrame : GoodIn wsX5_gapNow wsX5_emptyFrame := goodIn_r _ [50, 2, 51, 52, 53, 54, 55, 56, 57, 58, 59, 60, 61, 62, 63] (by decide +kernel) (by decide +kernel)
set_option maxRecDepth 20000 in
theorem gX5_gapNow_X5_emptyFrame : GoodIn wsX5_gapNow (wsV RX5 104 RX5 yX5_emptyFrame wsX5_emptyFrame) := goodIn_app (goodIn_of _ (by decide +kernel)) ggX5_gapNow_X5_emptyFrame
theorem dX5_gapNow_0 : decode cX5_gapNow 0 = .ok (.aload_n 0, 1) := by decide +kernel
theorem dX5_gapNow_1 : decode cX5_gapNow 1 = .ok (.iconst (-1), 1) := by decide +kernel
theorem dX5_gapNow_2 : decode cX5_gapNow 2 = .ok (.putfield 26, 3) := by decide +kernel
theorem dX5_gapNow_5 : decode cX5_gapNow 5 = .ok (.iconst 0, 1) := by decide +kernel
theorem dX5_gapNow_6 : decode cX5_gapNow 6 = .ok (.istore_n 1, 1) := by decide +kernel
theorem dX5_gapNow_7 : decode cX5_gapNow 7 = .ok (.bipush 12, 2) := by decide +kernel
theorem dX5_gapNow_9 : decode cX5_gapNow 9 = .ok (.aload_n 0, 1) := by decide +kernel
theorem dX5_gapNow_10 : decode cX5_gapNow 10 = .ok (.invokevirtual 98, 3) := by decide +kernel
theorem dX5_gapNow_13 : decode cX5_gapNow 13 = .ok (.imul, 1) := by decide +kernel
theorem dX5_gapNow_14 : decode cX5_gapNow 14 = .ok (.istore_n 2, 1) := by decide +kernel
theorem dX5_gapNow_15 : decode cX5_gapNow 15 = .ok (.iconst 0, 1) := by decide +kernel
theorem dX5_gapNow_16 : decode cX5_gapNow 16 = .ok (.istore_n 3, 1) := by decide +kernel
theorem dX5_gapNow_17 : decode cX5_gapNow 17 = .ok (.iload_n 3, 1) := by decide +kernel
theorem dX5_gapNow_18 : decode cX5_gapNow 18 = .ok (.bipush 8, 2) := by decide +kernel
theorem dX5_gapNow_20 : decode cX5_gapNow 20 = .ok (.if_icmp .ge 89, 3) := by decide +kernel
theorem dX5_gapNow_23 : decode cX5_gapNow 23 = .ok (.aload_n 0, 1) := by decide +kernel
theorem dX5_gapNow_24 : decode cX5_gapNow 24 = .ok (.iload_n 3, 1) := by decide +kernel
theorem dX5_gapNow_25 : decode cX5_gapNow 25 = .ok (.invokevirtual 101, 3) := by decide +kernel
theorem dX5_gapNow_28 : decode cX5_gapNow 28 = .ok (.istore 4, 2) := by decide +kernel
theorem dX5_gapNow_30 : decode cX5_gapNow 30 = .ok (.iload_n 1, 1) := by decide +kernel
theorem dX5_gapNow_31 : decode cX5_gapNow 31 = .ok (.iload 4, 2) := by decide +kernel
theorem dX5_gapNow_33 : decode cX5_gapNow 33 = .ok (.aload_n 0, 1) := by decide +kernel
theorem dX5_gapNow_34 : decode cX5_gapNow 34 = .ok (.getfield 7, 3) := by decide +kernel
theorem dX5_gapNow_37 : decode cX5_gapNow 37 = .ok (.bipush 16, 2) := by decide +kernel
theorem dX5_gapNow_39 : decode cX5_gapNow 39 = .ok (.iload_n 3, 1) := by decide +kernel
theorem dX5_gapNow_40 : decode cX5_gapNow 40 = .ok (.iadd, 1) := by decide +kernel
theorem dX5_gapNow_41 : decode cX5_gapNow 41 = .ok (.iaload, 1) := by decide +kernel
theorem dX5_gapNow_42 : decode cX5_gapNow 42 = .ok (.if_icmp .ne 7, 3) := by decide +kernel
theorem dX5_gapNow_45 : decode cX5_gapNow 45 = .ok (.iconst 0, 1) := by decide +kernel
theorem dX5_gapNow_46 : decode cX5_gapNow 46 = .ok (.goto 4, 3) := by decide +kernel
theorem dX5_gapNow_49 : decode cX5_gapNow 49 = .ok (.iconst 1, 1) := by decide +kernel
theorem dX5_gapNow_50 : decode cX5_gapNow 50 = .ok (.iadd, 1) := by decide +kernel
theorem dX5_gapNow_51 : decode cX5_gapNow 51 = .ok (.istore_n 1, 1) := by decide +kernel
theorem dX5_gapNow_52 : decode cX5_gapNow 52 = .ok (.aload_n 0, 1) := by decide +kernel
theorem dX5_gapNow_53 : decode cX5_gapNow 53 = .ok (.getfield 7, 3) := by decide +kernel
theorem dX5_gapNow_56 : decode cX5_gapNow 56 = .ok (.bipush 32, 2) := by decide +kernel
theorem dX5_gapNow_58 : decode cX5_gapNow 58 = .ok (.iload_n 3, 1) := by decide +kernel
theorem dX5_gapNow_59 : decode cX5_gapNow 59 = .ok (.iadd, 1) := by decide +kernel
theorem dX5_gapNow_60 : decode cX5_gapNow 60 = .ok (.aload_n 0, 1) := by decide +kernel
theorem dX5_gapNow_61 : decode cX5_gapNow 61 = .ok (.iload_n 3, 1) := by decide +kernel
theorem dX5_gapNow_62 : decode cX5_gapNow 62 = .ok (.invokevirtual 85, 3) := by decide +kernel
theorem dX5_gapNow_65 : decode cX5_gapNow 65 = .ok (.iastore, 1) := by decide +kernel
theorem dX5_gapNow_66 : decode cX5_gapNow 66 = .ok (.aload_n 0, 1) := by decide +kernel
theorem dX5_gapNow_67 : decode cX5_gapNow 67 = .ok (.getfield 7, 3) := by decide +kernel
theorem dX5_gapNow_70 : decode cX5_gapNow 70 = .ok (.bipush 16, 2) := by decide +kernel
theorem dX5_gapNow_72 : decode cX5_gapNow 72 = .ok (.iload_n 3, 1) := by decide +kernel
theorem dX5_gapNow_73 : decode cX5_gapNow 73 = .ok (.iadd, 1) := by decide +kernel
theorem dX5_gapNow_74 : decode cX5_gapNow 74 = .ok (.iload 4, 2) := by decide +kernel
theorem dX5_gapNow_76 : decode cX5_gapNow 76 = .ok (.iastore, 1) := by decide +kernel
theorem dX5_gapNow_77 : decode cX5_gapNow 77 = .ok (.aload_n 0, 1) := by decide +kernel
theorem dX5_gapNow_78 : decode cX5_gapNow 78 = .ok (.getfield 7, 3) := by decide +kernel
theorem dX5_gapNow_81 : decode cX5_gapNow 81 = .ok (.bipush 24, 2) := by decide +kernel
theorem dX5_gapNow_83 : decode cX5_gapNow 83 = .ok (.iload_n 3, 1) := by decide +kernel
theorem dX5_gapNow_84 : decode cX5_gapNow 84 = .ok (.iadd, 1) := by decide +kernel
theorem dX5_gapNow_85 : decode cX5_gapNow 85 = .ok (.aload_n 0, 1) := by decide +kernel
theorem dX5_gapNow_86 : decode cX5_gapNow 86 = .ok (.getfield 7, 3) := by decide +kernel
theorem dX5_gapNow_89 : decode cX5_gapNow 89 = .ok (.iconst 0, 1) := by decide +kernel
theorem dX5_gapNow_90 : decode cX5_gapNow 90 = .ok (.iload_n 3, 1) := by decide +kernel
theorem dX5_gapNow_91 : decode cX5_gapNow 91 = .ok (.iadd, 1) := by decide +kernel
theorem dX5_gapNow_92 : decode cX5_gapNow 92 = .ok (.iaload, 1) := by decide +kernel
theorem dX5_gapNow_93 : decode cX5_gapNow 93 = .ok (.ifCond .ne 8, 3) := by decide +kernel
theorem dX5_gapNow_96 : decode cX5_gapNow 96 = .ok (.iload 4, 2) := by decide +kernel
theorem dX5_gapNow_98 : decode cX5_gapNow 98 = .ok (.goto 4, 3) := by decide +kernel
theorem dX5_gapNow_101 : decode cX5_gapNow 101 = .ok (.iconst 0, 1) := by decide +kernel
theorem dX5_gapNow_102 : decode cX5_gapNow 102 = .ok (.iastore, 1) := by decide +kernel
theorem dX5_gapNow_103 : decode cX5_gapNow 103 = .ok (.iinc 3 1, 3) := by decide +kernel
theorem dX5_gapNow_106 : decode cX5_gapNow 106 = .ok (.goto (-89), 3) := by decide +kernel
theorem dX5_gapNow_109 : decode cX5_gapNow 109 = .ok (.aload_n 0, 1) := by decide +kernel
theorem dX5_gapNow_110 : decode cX5_gapNow 110 = .ok (.getfield 7, 3) := by decide +kernel
theorem dX5_gapNow_113 : decode cX5_gapNow 113 = .ok (.bipush 43, 2) := by decide +kernel
theorem dX5_gapNow_115 : decode cX5_gapNow 115 = .ok (.dup2, 1) := by decide +kernel
theorem dX5_gapNow_116 : decode cX5_gapNow 116 = .ok (.iaload, 1) := by decide +kernel
theorem dX5_gapNow_117 : decode cX5_gapNow 117 = .ok (.iconst 1, 1) := by decide +kernel
theorem dX5_gapNow_118 : decode cX5_gapNow 118 = .ok (.iadd, 1) := by decide +kernel
theorem dX5_gapNow_119 : decode cX5_gapNow 119 = .ok (.iastore, 1) := by decide +kernel
theorem dX5_gapNow_120 : decode cX5_gapNow 120 = .ok (.aload_n 0, 1) := by decide +kernel
theorem dX5_gapNow_121 : decode cX5_gapNow 121 = .ok (.getfield 7, 3) := by decide +kernel
theorem dX5_gapNow_124 : decode cX5_gapNow 124 = .ok (.bipush 45, 2) := by decide +kernel
theorem dX5_gapNow_126 : decode cX5_gapNow 126 = .ok (.dup2, 1) := by decide +kernel
theorem dX5_gapNow_127 : decode cX5_gapNow 127 = .ok (.iaload, 1) := by decide +kernel
theorem dX5_gapNow_128 : decode cX5_gapNow 128 = .ok (.iload_n 2, 1) := by decide +kernel
theorem dX5_gapNow_129 : decode cX5_gapNow 129 = .ok (.iadd, 1) := by decide +kernel
theorem dX5_gapNow_130 : decode cX5_gapNow 130 = .ok (.iastore, 1) := by decide +kernel
theorem dX5_gapNow_131 : decode cX5_gapNow 131 = .ok (.aload_n 0, 1) := by decide +kernel
theorem dX5_gapNow_132 : decode cX5_gapNow 132 = .ok (.getfield 7, 3) := by decide +kernel
theorem dX5_gapNow_135 : decode cX5_gapNow 135 = .ok (.bipush 46, 2) := by decide +kernel
theorem dX5_gapNow_137 : decode cX5_gapNow 137 = .ok (.dup2, 1) := by decide +kernel
theorem dX5_gapNow_138 : decode cX5_gapNow 138 = .ok (.iaload, 1) := by decide +kernel
theorem dX5_gapNow_139 : decode cX5_gapNow 139 = .ok (.aload_n 0, 1) := by decide +kernel
theorem dX5_gapNow_140 : decode cX5_gapNow 140 = .ok (.getfield 7, 3) := by decide +kernel
theorem dX5_gapNow_143 : decode cX5_gapNow 143 = .ok (.bipush 49, 2) := by decide +kernel
theorem dX5_gapNow_145 : decode cX5_gapNow 145 = .ok (.iaload, 1) := by decide +kernel
theorem dX5_gapNow_146 : decode cX5_gapNow 146 = .ok (.iload_n 2, 1) := by decide +kernel
theorem dX5_gapNow_147 : decode cX5_gapNow 147 = .ok (.isub, 1) := by decide +kernel
theorem dX5_gapNow_148 : decode cX5_gapNow 148 = .ok (.iadd, 1) := by decide +kernel
theorem dX5_gapNow_149 : decode cX5_gapNow 149 = .ok (.iastore, 1) := by decide +kernel
theorem dX5_gapNow_150 : decode cX5_gapNow 150 = .ok (.aload_n 0, 1) := by decide +kernel
theorem dX5_gapNow_151 : decode cX5_gapNow 151 = .ok (.invokevirtual 104, 3) := by decide +kernel
theorem dX5_gapNow_154 : decode cX5_gapNow 154 = .ok (.iload_n 1, 1) := by decide +kernel
theorem dX5_gapNow_155 : decode cX5_gapNow 155 = .ok (.ireturn, 1) := by decide +kernel
set_option maxRecDepth 20000 in
theorem ggX5_pulse_X5_in : GoodIn wsX5_pulse wsX5_in := goodIn_r _ [5] (by decide +kernel) (by decide +kernel)
set_option maxRecDepth 20000 in
theorem gX5_pulse_X5_in : GoodIn wsX5_pulse (va_wsS RX5 36 yX5_in wsX5_in) := goodIn_app (goodIn_of _ (by decide +kernel)) ggX5_pulse_X5_in
set_option maxRecDepth 20000 in
theorem ggX5_pulse_X5_refused : GoodIn wsX5_pulse wsX5_refused := goodIn_r _ [9, 10, 24, 25, 26, 27, 28, 29, 30, 31, 32, 33, 34, 35, 36] (by decide +kernel) (by decide +kernel)
set_option maxRecDepth 20000 in
theorem gX5_pulse_X5_refused : GoodIn wsX5_pulse (wsV RX5 54 RX5 yX5_refused wsX5_refused) := goodIn_app (goodIn_of _ (by decide +kernel)) ggX5_pulse_X5_refused
set_option maxRecDepth 20000 in
theorem ggX5_pulse_X5_saveState : GoodIn wsX5_pulse wsX5_saveState := goodIn_r _ [14, 15, 16, 1, 17, 18, 4, 19, 24, 25, 26, 27, 28, 29, 30, 31, 32, 33, 34, 35, 36] (by decide +kernel) (by decide +kernel)
set_option maxRecDepth 20000 in
theorem gX5_pulse_X5_saveState : GoodIn wsX5_pulse (wsV RX5 47 RX5 yX5_saveState wsX5_saveState) := goodIn_app (goodIn_of _ (by decide +kernel)) ggX5_pulse_X5_saveState
set_option maxRecDepth 20000 in
theorem ggX5_pulse_X5_addPulse : GoodIn wsX5_pulse wsX5_addPulse := goodIn_r _ [23, 1, 24, 25, 26, 27, 28, 29, 30, 31, 32, 33, 34, 35, 36] (by decide +kernel) (by decide +kernel)
set_option maxRecDepth 20000 in
theorem gX5_pulse_X5_addPulse : GoodIn wsX5_pulse (wsV RX5 94 RX5 yX5_addPulse wsX5_addPulse) := goodIn_app (goodIn_of _ (by decide +kernel)) ggX5_pulse_X5_addPulse
theorem dX5_pulse_0 : decode cX5_pulse 0 = .ok (.aload_n 0, 1) := by decide +kernel
theorem dX5_pulse_1 : decode cX5_pulse 1 = .ok (.iload_n 1, 1) := by decide +kernel
theorem dX5_pulse_2 : decode cX5_pulse 2 = .ok (.iconst 1, 1) := by decide +kernel
theorem dX5_pulse_3 : decode cX5_pulse 3 = .ok (.bipush 20, 2) := by decide +kernel
theorem dX5_pulse_5 : decode cX5_pulse 5 = .ok (.invokestatic 36, 3) := by decide +kernel
theorem dX5_pulse_8 : decode cX5_pulse 8 = .ok (.ifCond .eq 7, 3) := by decide +kernel
theorem dX5_pulse_11 : decode cX5_pulse 11 = .ok (.iconst 0, 1) := by decide +kernel
theorem dX5_pulse_12 : decode cX5_pulse 12 = .ok (.goto 4, 3) := by decide +kernel
theorem dX5_pulse_15 : decode cX5_pulse 15 = .ok (.iconst 1, 1) := by decide +kernel
theorem dX5_pulse_16 : decode cX5_pulse 16 = .ok (.invokevirtual 54, 3) := by decide +kernel
theorem dX5_pulse_19 : decode cX5_pulse 19 = .ok (.ifCond .eq 5, 3) := by decide +kernel
theorem dX5_pulse_22 : decode cX5_pulse 22 = .ok (.iconst 0, 1) := by decide +kernel
theorem dX5_pulse_23 : decode cX5_pulse 23 = .ok (.ireturn, 1) := by decide +kernel
theorem dX5_pulse_24 : decode cX5_pulse 24 = .ok (.aload_n 0, 1) := by decide +kernel
theorem dX5_pulse_25 : decode cX5_pulse 25 = .ok (.invokevirtual 47, 3) := by decide +kernel
theorem dX5_pulse_28 : decode cX5_pulse 28 = .ok (.aload_n 0, 1) := by decide +kernel
theorem dX5_pulse_29 : decode cX5_pulse 29 = .ok (.getfield 7, 3) := by decide +kernel
theorem dX5_pulse_32 : decode cX5_pulse 32 = .ok (.bipush 49, 2) := by decide +kernel
theorem dX5_pulse_34 : decode cX5_pulse 34 = .ok (.iaload, 1) := by decide +kernel
theorem dX5_pulse_35 : decode cX5_pulse 35 = .ok (.bipush 120, 2) := by decide +kernel
theorem dX5_pulse_37 : decode cX5_pulse 37 = .ok (.if_icmp .ne 16, 3) := by decide +kernel
theorem dX5_pulse_40 : decode cX5_pulse 40 = .ok (.aload_n 0, 1) := by decide +kernel
theorem dX5_pulse_41 : decode cX5_pulse 41 = .ok (.getfield 7, 3) := by decide +kernel
theorem dX5_pulse_44 : decode cX5_pulse 44 = .ok (.bipush 48, 2) := by decide +kernel
theorem dX5_pulse_46 : decode cX5_pulse 46 = .ok (.dup2, 1) := by decide +kernel
theorem dX5_pulse_47 : decode cX5_pulse 47 = .ok (.iaload, 1) := by decide +kernel
theorem dX5_pulse_48 : decode cX5_pulse 48 = .ok (.iconst 1, 1) := by decide +kernel
theorem dX5_pulse_49 : decode cX5_pulse 49 = .ok (.iadd, 1) := by decide +kernel
theorem dX5_pulse_50 : decode cX5_pulse 50 = .ok (.iastore, 1) := by decide +kernel
theorem dX5_pulse_51 : decode cX5_pulse 51 = .ok (.iconst (-1), 1) := by decide +kernel
theorem dX5_pulse_52 : decode cX5_pulse 52 = .ok (.ireturn, 1) := by decide +kernel
theorem dX5_pulse_53 : decode cX5_pulse 53 = .ok (.aload_n 0, 1) := by decide +kernel
theorem dX5_pulse_54 : decode cX5_pulse 54 = .ok (.iload_n 1, 1) := by decide +kernel
theorem dX5_pulse_55 : decode cX5_pulse 55 = .ok (.invokevirtual 94, 3) := by decide +kernel
theorem dX5_pulse_58 : decode cX5_pulse 58 = .ok (.aload_n 0, 1) := by decide +kernel
theorem dX5_pulse_59 : decode cX5_pulse 59 = .ok (.getfield 7, 3) := by decide +kernel
theorem dX5_pulse_62 : decode cX5_pulse 62 = .ok (.bipush 49, 2) := by decide +kernel
theorem dX5_pulse_64 : decode cX5_pulse 64 = .ok (.iaload, 1) := by decide +kernel
theorem dX5_pulse_65 : decode cX5_pulse 65 = .ok (.ireturn, 1) := by decide +kernel
set_option maxRecDepth 20000 in
theorem ggX5_send_X5_in : GoodIn wsX5_send wsX5_in := goodIn_r _ [5] (by decide +kernel) (by decide +kernel)
set_option maxRecDepth 20000 in
theorem gX5_send_X5_in : GoodIn wsX5_send (va_wsS RX5 36 yX5_in wsX5_in) := goodIn_app (goodIn_of _ (by decide +kernel)) ggX5_send_X5_in
set_option maxRecDepth 20000 in
theorem ggX5_send_X5_refused : GoodIn wsX5_send wsX5_refused := goodIn_r _ [9, 10, 31, 32, 33, 34, 35, 36, 37, 38, 39, 40, 41, 42, 43] (by decide +kernel) (by decide +kernel)
set_option maxRecDepth 20000 in
theorem gX5_send_X5_refused : GoodIn wsX5_send (wsV RX5 54 RX5 yX5_refused wsX5_refused) := goodIn_app (goodIn_of _ (by decide +kernel)) ggX5_send_X5_refused
set_option maxRecDepth 20000 in
theorem ggX5_send_X5_saveState : GoodIn wsX5_send wsX5_saveState := goodIn_r _ [14, 15, 16, 1, 17, 18, 4, 19, 31, 32, 33, 34, 35, 36, 37, 38, 39, 40, 41, 42, 43] (by decide +kernel) (by decide +kernel)
set_option maxRecDepth 20000 in
theorem gX5_send_X5_saveState : GoodIn wsX5_send (wsV RX5 47 RX5 yX5_saveState wsX5_saveState) := goodIn_app (goodIn_of _ (by decide +kernel)) ggX5_send_X5_saveState
set_option maxRecDepth 20000 in
theorem ggX5_send_X5_sendNow : GoodIn wsX5_send wsX5_sendNow := goodIn_r _ [23, 24, 25, 4, 26, 27, 28, 29, 30, 1, 31, 32, 33, 34, 35, 36, 37, 38, 39, 40, 41, 42, 43] (by decide +kernel) (by decide +kernel)
set_option maxRecDepth 20000 in
theorem gX5_send_X5_sendNow : GoodIn wsX5_send (wsV RX5 107 RX5 yX5_sendNow wsX5_sendNow) := goodIn_app (goodIn_of _ (by decide +kernel)) ggX5_send_X5_sendNow
theorem dX5_send_0 : decode cX5_send 0 = .ok (.aload_n 0, 1) := by decide +kernel
theorem dX5_send_1 : decode cX5_send 1 = .ok (.iload_n 1, 1) := by decide +kernel
theorem dX5_send_2 : decode cX5_send 2 = .ok (.iconst 0, 1) := by decide +kernel
theorem dX5_send_3 : decode cX5_send 3 = .ok (.sipush 4095, 3) := by decide +kernel
theorem dX5_send_6 : decode cX5_send 6 = .ok (.invokestatic 36, 3) := by decide +kernel
theorem dX5_send_9 : decode cX5_send 9 = .ok (.ifCond .eq 7, 3) := by decide +kernel
theorem dX5_send_12 : decode cX5_send 12 = .ok (.iconst 0, 1) := by decide +kernel
theorem dX5_send_13 : decode cX5_send 13 = .ok (.goto 4, 3) := by decide +kernel
theorem dX5_send_16 : decode cX5_send 16 = .ok (.iconst 1, 1) := by decide +kernel
theorem dX5_send_17 : decode cX5_send 17 = .ok (.invokevirtual 54, 3) := by decide +kernel
theorem dX5_send_20 : decode cX5_send 20 = .ok (.ifCond .eq 5, 3) := by decide +kernel
theorem dX5_send_23 : decode cX5_send 23 = .ok (.iconst 0, 1) := by decide +kernel
theorem dX5_send_24 : decode cX5_send 24 = .ok (.ireturn, 1) := by decide +kernel
theorem dX5_send_25 : decode cX5_send 25 = .ok (.aload_n 0, 1) := by decide +kernel
theorem dX5_send_26 : decode cX5_send 26 = .ok (.invokevirtual 47, 3) := by decide +kernel
theorem dX5_send_29 : decode cX5_send 29 = .ok (.aload_n 0, 1) := by decide +kernel
theorem dX5_send_30 : decode cX5_send 30 = .ok (.getfield 7, 3) := by decide +kernel
theorem dX5_send_33 : decode cX5_send 33 = .ok (.bipush 49, 2) := by decide +kernel
theorem dX5_send_35 : decode cX5_send 35 = .ok (.iaload, 1) := by decide +kernel
theorem dX5_send_36 : decode cX5_send 36 = .ok (.bipush 12, 2) := by decide +kernel
theorem dX5_send_38 : decode cX5_send 38 = .ok (.iadd, 1) := by decide +kernel
theorem dX5_send_39 : decode cX5_send 39 = .ok (.bipush 120, 2) := by decide +kernel
theorem dX5_send_41 : decode cX5_send 41 = .ok (.if_icmp .le 16, 3) := by decide +kernel
theorem dX5_send_44 : decode cX5_send 44 = .ok (.aload_n 0, 1) := by decide +kernel
theorem dX5_send_45 : decode cX5_send 45 = .ok (.getfield 7, 3) := by decide +kernel
theorem dX5_send_48 : decode cX5_send 48 = .ok (.bipush 48, 2) := by decide +kernel
theorem dX5_send_50 : decode cX5_send 50 = .ok (.dup2, 1) := by decide +kernel
theorem dX5_send_51 : decode cX5_send 51 = .ok (.iaload, 1) := by decide +kernel
theorem dX5_send_52 : decode cX5_send 52 = .ok (.iconst 1, 1) := by decide +kernel
theorem dX5_send_53 : decode cX5_send 53 = .ok (.iadd, 1) := by decide +kernel
theorem dX5_send_54 : decode cX5_send 54 = .ok (.iastore, 1) := by decide +kernel
theorem dX5_send_55 : decode cX5_send 55 = .ok (.iconst (-1), 1) := by decide +kernel
theorem dX5_send_56 : decode cX5_send 56 = .ok (.ireturn, 1) := by decide +kernel
theorem dX5_send_57 : decode cX5_send 57 = .ok (.aload_n 0, 1) := by decide +kernel
theorem dX5_send_58 : decode cX5_send 58 = .ok (.iload_n 1, 1) := by decide +kernel
theorem dX5_send_59 : decode cX5_send 59 = .ok (.invokevirtual 107, 3) := by decide +kernel
theorem dX5_send_62 : decode cX5_send 62 = .ok (.aload_n 0, 1) := by decide +kernel
theorem dX5_send_63 : decode cX5_send 63 = .ok (.getfield 7, 3) := by decide +kernel
theorem dX5_send_66 : decode cX5_send 66 = .ok (.bipush 49, 2) := by decide +kernel
theorem dX5_send_68 : decode cX5_send 68 = .ok (.iaload, 1) := by decide +kernel
theorem dX5_send_69 : decode cX5_send 69 = .ok (.ireturn, 1) := by decide +kernel
set_option maxRecDepth 20000 in
theorem ggX5_gap_X5_saveState : GoodIn wsX5_gap wsX5_saveState := goodIn_r _ [6, 7, 8, 9, 10, 11, 5, 12, 65, 66, 67, 68, 69, 70, 71, 72, 73, 74, 75, 76, 77] (by decide +kernel) (by decide +kernel)
set_option maxRecDepth 20000 in
theorem gX5_gap_X5_saveState : GoodIn wsX5_gap (wsV RX5 47 RX5 yX5_saveState wsX5_saveState) := goodIn_app (goodIn_of _ (by decide +kernel)) ggX5_gap_X5_saveState
set_option maxRecDepth 20000 in
theorem ggX5_gap_X5_gapNow : GoodIn wsX5_gap wsX5_gapNow := goodIn_r _ [16, 17, 9, 18, 19, 20, 5, 21, 22, 23, 24, 25, 26, 27, 28, 29, 30, 31, 32, 33, 34, 35, 36, 37, 38, 39, 40, 41, 42, 43, 44, 45, 46, 47, 48, 49, 50, 51, 52, 53, 54, 55, 56, 57, 58, 59, 60, 61, 62, 63, 64, 65, 66, 67, 68, 69, 70, 71, 72, 73, 74, 75, 76, 77] (by decide +kernel) (by decide +kernel)
set_option maxRecDepth 20000 in
theorem gX5_gap_X5_gapNow : GoodIn wsX5_gap (wsV RX5 110 RX5 yX5_gapNow wsX5_gapNow) := goodIn_app (goodIn_of _ (by decide +kernel)) ggX5_gap_X5_gapNow
theorem dX5_gap_0 : decode cX5_gap 0 = .ok (.aload_n 0, 1) := by decide +kernel
theorem dX5_gap_1 : decode cX5_gap 1 = .ok (.iconst 0, 1) := by decide +kernel
theorem dX5_gap_2 : decode cX5_gap 2 = .ok (.putfield 33, 3) := by decide +kernel
theorem dX5_gap_5 : decode cX5_gap 5 = .ok (.aload_n 0, 1) := by decide +kernel
theorem dX5_gap_6 : decode cX5_gap 6 = .ok (.invokevirtual 47, 3) := by decide +kernel
theorem dX5_gap_9 : decode cX5_gap 9 = .ok (.aload_n 0, 1) := by decide +kernel
theorem dX5_gap_10 : decode cX5_gap 10 = .ok (.invokevirtual 110, 3) := by decide +kernel
theorem dX5_gap_13 : decode cX5_gap 13 = .ok (.ireturn, 1) := by decide +kernel
set_option maxRecDepth 20000 in
theorem ggX5_drop_X5_saveState : GoodIn wsX5_drop wsX5_saveState := goodIn_r _ [7, 8, 9, 2, 10, 11, 6, 12, 17, 18, 19, 20, 21, 22, 23, 24, 25, 26, 27, 28, 29] (by decide +kernel) (by decide +kernel)
set_option maxRecDepth 20000 in
theorem gX5_drop_X5_saveState : GoodIn wsX5_drop (wsV RX5 47 RX5 yX5_saveState wsX5_saveState) := goodIn_app (goodIn_of _ (by decide +kernel)) ggX5_drop_X5_saveState
set_option maxRecDepth 20000 in
theorem ggX5_drop_X5_emptyFrame : GoodIn wsX5_drop wsX5_emptyFrame := goodIn_r _ [16, 2, 17, 18, 19, 20, 21, 22, 23, 24, 25, 26, 27, 28, 29] (by decide +kernel) (by decide +kernel)
set_option maxRecDepth 20000 in
theorem gX5_drop_X5_emptyFrame : GoodIn wsX5_drop (wsV RX5 104 RX5 yX5_emptyFrame wsX5_emptyFrame) := goodIn_app (goodIn_of _ (by decide +kernel)) ggX5_drop_X5_emptyFrame
theorem dX5_drop_0 : decode cX5_drop 0 = .ok (.aload_n 0, 1) := by decide +kernel
theorem dX5_drop_1 : decode cX5_drop 1 = .ok (.iconst 0, 1) := by decide +kernel
theorem dX5_drop_2 : decode cX5_drop 2 = .ok (.putfield 33, 3) := by decide +kernel
theorem dX5_drop_5 : decode cX5_drop 5 = .ok (.aload_n 0, 1) := by decide +kernel
theorem dX5_drop_6 : decode cX5_drop 6 = .ok (.invokevirtual 47, 3) := by decide +kernel
theorem dX5_drop_9 : decode cX5_drop 9 = .ok (.aload_n 0, 1) := by decide +kernel
theorem dX5_drop_10 : decode cX5_drop 10 = .ok (.getfield 7, 3) := by decide +kernel
theorem dX5_drop_13 : decode cX5_drop 13 = .ok (.bipush 49, 2) := by decide +kernel
theorem dX5_drop_15 : decode cX5_drop 15 = .ok (.iaload, 1) := by decide +kernel
theorem dX5_drop_16 : decode cX5_drop 16 = .ok (.istore_n 1, 1) := by decide +kernel
theorem dX5_drop_17 : decode cX5_drop 17 = .ok (.aload_n 0, 1) := by decide +kernel
theorem dX5_drop_18 : decode cX5_drop 18 = .ok (.getfield 7, 3) := by decide +kernel
theorem dX5_drop_21 : decode cX5_drop 21 = .ok (.bipush 47, 2) := by decide +kernel
theorem dX5_drop_23 : decode cX5_drop 23 = .ok (.dup2, 1) := by decide +kernel
theorem dX5_drop_24 : decode cX5_drop 24 = .ok (.iaload, 1) := by decide +kernel
theorem dX5_drop_25 : decode cX5_drop 25 = .ok (.iload_n 1, 1) := by decide +kernel
theorem dX5_drop_26 : decode cX5_drop 26 = .ok (.iadd, 1) := by decide +kernel
theorem dX5_drop_27 : decode cX5_drop 27 = .ok (.iastore, 1) := by decide +kernel
theorem dX5_drop_28 : decode cX5_drop 28 = .ok (.aload_n 0, 1) := by decide +kernel
theorem dX5_drop_29 : decode cX5_drop 29 = .ok (.invokevirtual 104, 3) := by decide +kernel
theorem dX5_drop_32 : decode cX5_drop 32 = .ok (.iload_n 1, 1) := by decide +kernel
theorem dX5_drop_33 : decode cX5_drop 33 = .ok (.ireturn, 1) := by decide +kernel
set_option maxRecDepth 20000 in
theorem ggX5_append_X5_in : GoodIn wsX5_append wsX5_in := goodIn_r _ [6] (by decide +kernel) (by decide +kernel)
set_option maxRecDepth 20000 in
theorem gX5_append_X5_in : GoodIn wsX5_append (va_wsS RX5 36 yX5_in wsX5_in) := goodIn_app (goodIn_of _ (by decide +kernel)) ggX5_append_X5_in
set_option maxRecDepth 20000 in
theorem ggX5_append_X5_refused : GoodIn wsX5_append wsX5_refused := goodIn_r _ [10, 11, 12, 13, 14, 15, 16, 17, 18, 19, 20, 21, 22, 23, 24] (by decide +kernel) (by decide +kernel)
set_option maxRecDepth 20000 in
theorem gX5_append_X5_refused : GoodIn wsX5_append (wsV RX5 54 RX5 yX5_refused wsX5_refused) := goodIn_app (goodIn_of _ (by decide +kernel)) ggX5_append_X5_refused
theorem dX5_append_0 : decode cX5_append 0 = .ok (.aload_n 0, 1) := by decide +kernel
theorem dX5_append_1 : decode cX5_append 1 = .ok (.iload_n 1, 1) := by decide +kernel
theorem dX5_append_2 : decode cX5_append 2 = .ok (.bipush 33, 2) := by decide +kernel
theorem dX5_append_4 : decode cX5_append 4 = .ok (.bipush 126, 2) := by decide +kernel
theorem dX5_append_6 : decode cX5_append 6 = .ok (.invokestatic 36, 3) := by decide +kernel
theorem dX5_append_9 : decode cX5_append 9 = .ok (.ifCond .ne 7, 3) := by decide +kernel
theorem dX5_append_12 : decode cX5_append 12 = .ok (.iconst 1, 1) := by decide +kernel
theorem dX5_append_13 : decode cX5_append 13 = .ok (.goto 17, 3) := by decide +kernel
theorem dX5_append_16 : decode cX5_append 16 = .ok (.aload_n 0, 1) := by decide +kernel
theorem dX5_append_17 : decode cX5_append 17 = .ok (.getfield 113, 3) := by decide +kernel
theorem dX5_append_20 : decode cX5_append 20 = .ok (.bipush 60, 2) := by decide +kernel
theorem dX5_append_22 : decode cX5_append 22 = .ok (.if_icmp .ne 7, 3) := by decide +kernel
theorem dX5_append_25 : decode cX5_append 25 = .ok (.iconst 2, 1) := by decide +kernel
theorem dX5_append_26 : decode cX5_append 26 = .ok (.goto 4, 3) := by decide +kernel
theorem dX5_append_29 : decode cX5_append 29 = .ok (.iconst 0, 1) := by decide +kernel
theorem dX5_append_30 : decode cX5_append 30 = .ok (.invokevirtual 54, 3) := by decide +kernel
theorem dX5_append_33 : decode cX5_append 33 = .ok (.ifCond .eq 5, 3) := by decide +kernel
theorem dX5_append_36 : decode cX5_append 36 = .ok (.iconst 0, 1) := by decide +kernel
theorem dX5_append_37 : decode cX5_append 37 = .ok (.ireturn, 1) := by decide +kernel
theorem dX5_append_38 : decode cX5_append 38 = .ok (.aload_n 0, 1) := by decide +kernel
theorem dX5_append_39 : decode cX5_append 39 = .ok (.getfield 23, 3) := by decide +kernel
theorem dX5_append_42 : decode cX5_append 42 = .ok (.aload_n 0, 1) := by decide +kernel
theorem dX5_append_43 : decode cX5_append 43 = .ok (.getfield 113, 3) := by decide +kernel
theorem dX5_append_46 : decode cX5_append 46 = .ok (.iload_n 1, 1) := by decide +kernel
theorem dX5_append_47 : decode cX5_append 47 = .ok (.iastore, 1) := by decide +kernel
theorem dX5_append_48 : decode cX5_append 48 = .ok (.aload_n 0, 1) := by decide +kernel
theorem dX5_append_49 : decode cX5_append 49 = .ok (.dup, 1) := by decide +kernel
theorem dX5_append_50 : decode cX5_append 50 = .ok (.getfield 113, 3) := by decide +kernel
theorem dX5_append_53 : decode cX5_append 53 = .ok (.iconst 1, 1) := by decide +kernel
theorem dX5_append_54 : decode cX5_append 54 = .ok (.iadd, 1) := by decide +kernel
theorem dX5_append_55 : decode cX5_append 55 = .ok (.putfield 113, 3) := by decide +kernel
theorem dX5_append_58 : decode cX5_append 58 = .ok (.aload_n 0, 1) := by decide +kernel
theorem dX5_append_59 : decode cX5_append 59 = .ok (.getfield 113, 3) := by decide +kernel
theorem dX5_append_62 : decode cX5_append 62 = .ok (.ireturn, 1) := by decide +kernel
theorem dX5_clearBuffer_0 : decode cX5_clearBuffer 0 = .ok (.aload_n 0, 1) := by decide +kernel
theorem dX5_clearBuffer_1 : decode cX5_clearBuffer 1 = .ok (.iconst 0, 1) := by decide +kernel
theorem dX5_clearBuffer_2 : decode cX5_clearBuffer 2 = .ok (.putfield 33, 3) := by decide +kernel
theorem dX5_clearBuffer_5 : decode cX5_clearBuffer 5 = .ok (.aload_n 0, 1) := by decide +kernel
theorem dX5_clearBuffer_6 : decode cX5_clearBuffer 6 = .ok (.getfield 113, 3) := by decide +kernel
theorem dX5_clearBuffer_9 : decode cX5_clearBuffer 9 = .ok (.istore_n 1, 1) := by decide +kernel
theorem dX5_clearBuffer_10 : decode cX5_clearBuffer 10 = .ok (.aload_n 0, 1) := by decide +kernel
theorem dX5_clearBuffer_11 : decode cX5_clearBuffer 11 = .ok (.iconst 0, 1) := by decide +kernel
theorem dX5_clearBuffer_12 : decode cX5_clearBuffer 12 = .ok (.putfield 113, 3) := by decide +kernel
theorem dX5_clearBuffer_15 : decode cX5_clearBuffer 15 = .ok (.iload_n 1, 1) := by decide +kernel
theorem dX5_clearBuffer_16 : decode cX5_clearBuffer 16 = .ok (.ireturn, 1) := by decide +kernel
theorem dX5_takesSign_0 : decode cX5_takesSign 0 = .ok (.aload_n 0, 1) := by decide +kernel
theorem dX5_takesSign_1 : decode cX5_takesSign 1 = .ok (.getfield 116, 3) := by decide +kernel
theorem dX5_takesSign_4 : decode cX5_takesSign 4 = .ok (.aload_n 0, 1) := by decide +kernel
theorem dX5_takesSign_5 : decode cX5_takesSign 5 = .ok (.getfield 113, 3) := by decide +kernel
theorem dX5_takesSign_8 : decode cX5_takesSign 8 = .ok (.if_icmp .ge 20, 3) := by decide +kernel
theorem dX5_takesSign_11 : decode cX5_takesSign 11 = .ok (.aload_n 0, 1) := by decide +kernel
theorem dX5_takesSign_12 : decode cX5_takesSign 12 = .ok (.getfield 23, 3) := by decide +kernel
theorem dX5_takesSign_15 : decode cX5_takesSign 15 = .ok (.aload_n 0, 1) := by decide +kernel
theorem dX5_takesSign_16 : decode cX5_takesSign 16 = .ok (.getfield 116, 3) := by decide +kernel
theorem dX5_takesSign_19 : decode cX5_takesSign 19 = .ok (.iaload, 1) := by decide +kernel
theorem dX5_takesSign_20 : decode cX5_takesSign 20 = .ok (.iload_n 1, 1) := by decide +kernel
theorem dX5_takesSign_21 : decode cX5_takesSign 21 = .ok (.if_icmp .ne 7, 3) := by decide +kernel
theorem dX5_takesSign_24 : decode cX5_takesSign 24 = .ok (.iconst 1, 1) := by decide +kernel
theorem dX5_takesSign_25 : decode cX5_takesSign 25 = .ok (.goto 4, 3) := by decide +kernel
theorem dX5_takesSign_28 : decode cX5_takesSign 28 = .ok (.iconst 0, 1) := by decide +kernel
theorem dX5_takesSign_29 : decode cX5_takesSign 29 = .ok (.istore_n 2, 1) := by decide +kernel
theorem dX5_takesSign_30 : decode cX5_takesSign 30 = .ok (.aload_n 0, 1) := by decide +kernel
theorem dX5_takesSign_31 : decode cX5_takesSign 31 = .ok (.dup, 1) := by decide +kernel
theorem dX5_takesSign_32 : decode cX5_takesSign 32 = .ok (.getfield 116, 3) := by decide +kernel
theorem dX5_takesSign_35 : decode cX5_takesSign 35 = .ok (.iload_n 2, 1) := by decide +kernel
theorem dX5_takesSign_36 : decode cX5_takesSign 36 = .ok (.ifCond .eq 7, 3) := by decide +kernel
theorem dX5_takesSign_39 : decode cX5_takesSign 39 = .ok (.iconst 1, 1) := by decide +kernel
theorem dX5_takesSign_40 : decode cX5_takesSign 40 = .ok (.goto 4, 3) := by decide +kernel
theorem dX5_takesSign_43 : decode cX5_takesSign 43 = .ok (.iconst 0, 1) := by decide +kernel
theorem dX5_takesSign_44 : decode cX5_takesSign 44 = .ok (.iadd, 1) := by decide +kernel
theorem dX5_takesSign_45 : decode cX5_takesSign 45 = .ok (.putfield 116, 3) := by decide +kernel
theorem dX5_takesSign_48 : decode cX5_takesSign 48 = .ok (.iload_n 2, 1) := by decide +kernel
theorem dX5_takesSign_49 : decode cX5_takesSign 49 = .ok (.ireturn, 1) := by decide +kernel
set_option maxRecDepth 20000 in
theorem ggX5_digit_X5_in : GoodIn wsX5_digit wsX5_in := goodIn_r _ [4] (by decide +kernel) (by decide +kernel)
set_option maxRecDepth 20000 in
theorem gX5_digit_X5_in : GoodIn wsX5_digit (va_wsS RX5 36 yX5_in wsX5_in) := goodIn_app (goodIn_of _ (by decide +kernel)) ggX5_digit_X5_in
theorem dX5_digit_0 : decode cX5_digit 0 = .ok (.iload_n 0, 1) := by decide +kernel
theorem dX5_digit_1 : decode cX5_digit 1 = .ok (.bipush 48, 2) := by decide +kernel
theorem dX5_digit_3 : decode cX5_digit 3 = .ok (.bipush 57, 2) := by decide +kernel
theorem dX5_digit_5 : decode cX5_digit 5 = .ok (.invokestatic 36, 3) := by decide +kernel
theorem dX5_digit_8 : decode cX5_digit 8 = .ok (.ifCond .eq 10, 3) := by decide +kernel
theorem dX5_digit_11 : decode cX5_digit 11 = .ok (.iload_n 0, 1) := by decide +kernel
theorem dX5_digit_12 : decode cX5_digit 12 = .ok (.bipush 48, 2) := by decide +kernel
theorem dX5_digit_14 : decode cX5_digit 14 = .ok (.isub, 1) := by decide +kernel
theorem dX5_digit_15 : decode cX5_digit 15 = .ok (.goto 25, 3) := by decide +kernel
theorem dX5_digit_18 : decode cX5_digit 18 = .ok (.iload_n 0, 1) := by decide +kernel
theorem dX5_digit_19 : decode cX5_digit 19 = .ok (.bipush 97, 2) := by decide +kernel
theorem dX5_digit_21 : decode cX5_digit 21 = .ok (.bipush 102, 2) := by decide +kernel
theorem dX5_digit_23 : decode cX5_digit 23 = .ok (.invokestatic 36, 3) := by decide +kernel
theorem dX5_digit_26 : decode cX5_digit 26 = .ok (.ifCond .eq 13, 3) := by decide +kernel
theorem dX5_digit_29 : decode cX5_digit 29 = .ok (.iload_n 0, 1) := by decide +kernel
theorem dX5_digit_30 : decode cX5_digit 30 = .ok (.bipush 97, 2) := by decide +kernel
theorem dX5_digit_32 : decode cX5_digit 32 = .ok (.isub, 1) := by decide +kernel
theorem dX5_digit_33 : decode cX5_digit 33 = .ok (.bipush 10, 2) := by decide +kernel
theorem dX5_digit_35 : decode cX5_digit 35 = .ok (.iadd, 1) := by decide +kernel
theorem dX5_digit_36 : decode cX5_digit 36 = .ok (.goto 4, 3) := by decide +kernel
theorem dX5_digit_39 : decode cX5_digit 39 = .ok (.iconst (-1), 1) := by decide +kernel
theorem dX5_digit_40 : decode cX5_digit 40 = .ok (.ireturn, 1) := by decide +kernel
set_option maxRecDepth 20000 in
theorem ggX5_readWord_X5_digit : GoodIn wsX5_readWord wsX5_digit := goodIn_r _ [9, 10, 11, 8, 12] (by decide +kernel) (by decide +kernel)
set_option maxRecDepth 20000 in
theorem gX5_readWord_X5_digit : GoodIn wsX5_readWord (va_wsS RX5 119 yX5_digit wsX5_digit) := goodIn_app (goodIn_of _ (by decide +kernel)) ggX5_readWord_X5_digit
theorem dX5_readWord_0 : decode cX5_readWord 0 = .ok (.iconst 0, 1) := by decide +kernel
theorem dX5_readWord_1 : decode cX5_readWord 1 = .ok (.istore_n 1, 1) := by decide +kernel
theorem dX5_readWord_2 : decode cX5_readWord 2 = .ok (.iconst 0, 1) := by decide +kernel
theorem dX5_readWord_3 : decode cX5_readWord 3 = .ok (.istore_n 2, 1) := by decide +kernel
theorem dX5_readWord_4 : decode cX5_readWord 4 = .ok (.iload_n 2, 1) := by decide +kernel
theorem dX5_readWord_5 : decode cX5_readWord 5 = .ok (.iconst 3, 1) := by decide +kernel
theorem dX5_readWord_6 : decode cX5_readWord 6 = .ok (.if_icmp .ge 61, 3) := by decide +kernel
theorem dX5_readWord_9 : decode cX5_readWord 9 = .ok (.aload_n 0, 1) := by decide +kernel
theorem dX5_readWord_10 : decode cX5_readWord 10 = .ok (.getfield 116, 3) := by decide +kernel
theorem dX5_readWord_13 : decode cX5_readWord 13 = .ok (.aload_n 0, 1) := by decide +kernel
theorem dX5_readWord_14 : decode cX5_readWord 14 = .ok (.getfield 113, 3) := by decide +kernel
theorem dX5_readWord_17 : decode cX5_readWord 17 = .ok (.if_icmp .ge 18, 3) := by decide +kernel
theorem dX5_readWord_20 : decode cX5_readWord 20 = .ok (.aload_n 0, 1) := by decide +kernel
theorem dX5_readWord_21 : decode cX5_readWord 21 = .ok (.getfield 23, 3) := by decide +kernel
theorem dX5_readWord_24 : decode cX5_readWord 24 = .ok (.aload_n 0, 1) := by decide +kernel
theorem dX5_readWord_25 : decode cX5_readWord 25 = .ok (.getfield 116, 3) := by decide +kernel
theorem dX5_readWord_28 : decode cX5_readWord 28 = .ok (.iaload, 1) := by decide +kernel
theorem dX5_readWord_29 : decode cX5_readWord 29 = .ok (.invokestatic 119, 3) := by decide +kernel
theorem dX5_readWord_32 : decode cX5_readWord 32 = .ok (.goto 4, 3) := by decide +kernel
theorem dX5_readWord_35 : decode cX5_readWord 35 = .ok (.iconst (-1), 1) := by decide +kernel
theorem dX5_readWord_36 : decode cX5_readWord 36 = .ok (.istore_n 3, 1) := by decide +kernel
theorem dX5_readWord_37 : decode cX5_readWord 37 = .ok (.iload_n 3, 1) := by decide +kernel
theorem dX5_readWord_38 : decode cX5_readWord 38 = .ok (.iconst (-1), 1) := by decide +kernel
theorem dX5_readWord_39 : decode cX5_readWord 39 = .ok (.if_icmp .ne 5, 3) := by decide +kernel
theorem dX5_readWord_42 : decode cX5_readWord 42 = .ok (.iconst 0, 1) := by decide +kernel
theorem dX5_readWord_43 : decode cX5_readWord 43 = .ok (.ireturn, 1) := by decide +kernel
theorem dX5_readWord_44 : decode cX5_readWord 44 = .ok (.bipush 16, 2) := by decide +kernel
theorem dX5_readWord_46 : decode cX5_readWord 46 = .ok (.iload_n 1, 1) := by decide +kernel
theorem dX5_readWord_47 : decode cX5_readWord 47 = .ok (.imul, 1) := by decide +kernel
theorem dX5_readWord_48 : decode cX5_readWord 48 = .ok (.iload_n 3, 1) := by decide +kernel
theorem dX5_readWord_49 : decode cX5_readWord 49 = .ok (.iadd, 1) := by decide +kernel
theorem dX5_readWord_50 : decode cX5_readWord 50 = .ok (.istore_n 1, 1) := by decide +kernel
theorem dX5_readWord_51 : decode cX5_readWord 51 = .ok (.aload_n 0, 1) := by decide +kernel
theorem dX5_readWord_52 : decode cX5_readWord 52 = .ok (.dup, 1) := by decide +kernel
theorem dX5_readWord_53 : decode cX5_readWord 53 = .ok (.getfield 116, 3) := by decide +kernel
theorem dX5_readWord_56 : decode cX5_readWord 56 = .ok (.iconst 1, 1) := by decide +kernel
theorem dX5_readWord_57 : decode cX5_readWord 57 = .ok (.iadd, 1) := by decide +kernel
theorem dX5_readWord_58 : decode cX5_readWord 58 = .ok (.putfield 116, 3) := by decide +kernel
theorem dX5_readWord_61 : decode cX5_readWord 61 = .ok (.iinc 2 1, 3) := by decide +kernel
theorem dX5_readWord_64 : decode cX5_readWord 64 = .ok (.goto (-60), 3) := by decide +kernel
theorem dX5_readWord_67 : decode cX5_readWord 67 = .ok (.aload_n 0, 1) := by decide +kernel
theorem dX5_readWord_68 : decode cX5_readWord 68 = .ok (.getfield 30, 3) := by decide +kernel
theorem dX5_readWord_71 : decode cX5_readWord 71 = .ok (.aload_n 0, 1) := by decide +kernel
theorem dX5_readWord_72 : decode cX5_readWord 72 = .ok (.getfield 122, 3) := by decide +kernel
theorem dX5_readWord_75 : decode cX5_readWord 75 = .ok (.iload_n 1, 1) := by decide +kernel
theorem dX5_readWord_76 : decode cX5_readWord 76 = .ok (.iastore, 1) := by decide +kernel
theorem dX5_readWord_77 : decode cX5_readWord 77 = .ok (.aload_n 0, 1) := by decide +kernel
theorem dX5_readWord_78 : decode cX5_readWord 78 = .ok (.dup, 1) := by decide +kernel
theorem dX5_readWord_79 : decode cX5_readWord 79 = .ok (.getfield 122, 3) := by decide +kernel
theorem dX5_readWord_82 : decode cX5_readWord 82 = .ok (.iconst 1, 1) := by decide +kernel
theorem dX5_readWord_83 : decode cX5_readWord 83 = .ok (.iadd, 1) := by decide +kernel
theorem dX5_readWord_84 : decode cX5_readWord 84 = .ok (.putfield 122, 3) := by decide +kernel
theorem dX5_readWord_87 : decode cX5_readWord 87 = .ok (.iconst 1, 1) := by decide +kernel
theorem dX5_readWord_88 : decode cX5_readWord 88 = .ok (.ireturn, 1) := by decide +kernel
set_option maxRecDepth 20000 in
theorem ggX5_readText_X5_readWord : GoodIn wsX5_readText wsX5_readWord := goodIn_r _ [9, 1, 4, 10, 11, 2, 12, 13, 8, 14, 15, 16, 17, 22, 23, 24, 25, 26, 27, 28, 29, 30, 31, 32, 33, 34] (by decide +kernel) (by decide +kernel)
set_option maxRecDepth 20000 in
theorem gX5_readText_X5_readWord : GoodIn wsX5_readText (wsV RX5 125 RX5 yX5_readWord wsX5_readWord) := goodIn_app (goodIn_of _ (by decide +kernel)) ggX5_readText_X5_readWord
set_option maxRecDepth 20000 in
theorem ggX5_readText_X5_takesSign : GoodIn wsX5_readText wsX5_takesSign := goodIn_r _ [21, 1, 4, 10, 22, 23, 24, 25, 26, 27, 28, 29, 30, 31, 32, 33, 34] (by decide +kernel) (by decide +kernel)
set_option maxRecDepth 20000 in
theorem gX5_readText_X5_takesSign : GoodIn wsX5_readText (wsV RX5 129 RX5 yX5_takesSign wsX5_takesSign) := goodIn_app (goodIn_of _ (by decide +kernel)) ggX5_readText_X5_takesSign
theorem dX5_readText_0 : decode cX5_readText 0 = .ok (.aload_n 0, 1) := by decide +kernel
theorem dX5_readText_1 : decode cX5_readText 1 = .ok (.iconst 0, 1) := by decide +kernel
theorem dX5_readText_2 : decode cX5_readText 2 = .ok (.putfield 116, 3) := by decide +kernel
theorem dX5_readText_5 : decode cX5_readText 5 = .ok (.aload_n 0, 1) := by decide +kernel
theorem dX5_readText_6 : decode cX5_readText 6 = .ok (.iconst 0, 1) := by decide +kernel
theorem dX5_readText_7 : decode cX5_readText 7 = .ok (.putfield 122, 3) := by decide +kernel
theorem dX5_readText_10 : decode cX5_readText 10 = .ok (.aload_n 0, 1) := by decide +kernel
theorem dX5_readText_11 : decode cX5_readText 11 = .ok (.invokevirtual 125, 3) := by decide +kernel
theorem dX5_readText_14 : decode cX5_readText 14 = .ok (.istore_n 1, 1) := by decide +kernel
theorem dX5_readText_15 : decode cX5_readText 15 = .ok (.iload_n 1, 1) := by decide +kernel
theorem dX5_readText_16 : decode cX5_readText 16 = .ok (.ifCond .eq 29, 3) := by decide +kernel
theorem dX5_readText_19 : decode cX5_readText 19 = .ok (.aload_n 0, 1) := by decide +kernel
theorem dX5_readText_20 : decode cX5_readText 20 = .ok (.getfield 122, 3) := by decide +kernel
theorem dX5_readText_23 : decode cX5_readText 23 = .ok (.bipush 10, 2) := by decide +kernel
theorem dX5_readText_25 : decode cX5_readText 25 = .ok (.if_icmp .ge 20, 3) := by decide +kernel
theorem dX5_readText_28 : decode cX5_readText 28 = .ok (.aload_n 0, 1) := by decide +kernel
theorem dX5_readText_29 : decode cX5_readText 29 = .ok (.bipush 44, 2) := by decide +kernel
theorem dX5_readText_31 : decode cX5_readText 31 = .ok (.invokevirtual 129, 3) := by decide +kernel
theorem dX5_readText_34 : decode cX5_readText 34 = .ok (.ifCond .eq 11, 3) := by decide +kernel
theorem dX5_readText_37 : decode cX5_readText 37 = .ok (.aload_n 0, 1) := by decide +kernel
theorem dX5_readText_38 : decode cX5_readText 38 = .ok (.invokevirtual 125, 3) := by decide +kernel
theorem dX5_readText_41 : decode cX5_readText 41 = .ok (.istore_n 1, 1) := by decide +kernel
theorem dX5_readText_42 : decode cX5_readText 42 = .ok (.goto (-27), 3) := by decide +kernel
theorem dX5_readText_45 : decode cX5_readText 45 = .ok (.aload_n 0, 1) := by decide +kernel
theorem dX5_readText_46 : decode cX5_readText 46 = .ok (.iload_n 1, 1) := by decide +kernel
theorem dX5_readText_47 : decode cX5_readText 47 = .ok (.ifCond .eq 16, 3) := by decide +kernel
theorem dX5_readText_50 : decode cX5_readText 50 = .ok (.aload_n 0, 1) := by decide +kernel
theorem dX5_readText_51 : decode cX5_readText 51 = .ok (.bipush 33, 2) := by decide +kernel
theorem dX5_readText_53 : decode cX5_readText 53 = .ok (.invokevirtual 129, 3) := by decide +kernel
theorem dX5_readText_56 : decode cX5_readText 56 = .ok (.ifCond .eq 7, 3) := by decide +kernel
theorem dX5_readText_59 : decode cX5_readText 59 = .ok (.iconst 1, 1) := by decide +kernel
theorem dX5_readText_60 : decode cX5_readText 60 = .ok (.goto 4, 3) := by decide +kernel
theorem dX5_readText_63 : decode cX5_readText 63 = .ok (.iconst 0, 1) := by decide +kernel
theorem dX5_readText_64 : decode cX5_readText 64 = .ok (.putfield 132, 3) := by decide +kernel
theorem dX5_readText_67 : decode cX5_readText 67 = .ok (.iload_n 1, 1) := by decide +kernel
theorem dX5_readText_68 : decode cX5_readText 68 = .ok (.ifCond .eq 18, 3) := by decide +kernel
theorem dX5_readText_71 : decode cX5_readText 71 = .ok (.aload_n 0, 1) := by decide +kernel
theorem dX5_readText_72 : decode cX5_readText 72 = .ok (.getfield 116, 3) := by decide +kernel
theorem dX5_readText_75 : decode cX5_readText 75 = .ok (.aload_n 0, 1) := by decide +kernel
theorem dX5_readText_76 : decode cX5_readText 76 = .ok (.getfield 113, 3) := by decide +kernel
theorem dX5_readText_79 : decode cX5_readText 79 = .ok (.if_icmp .ne 7, 3) := by decide +kernel
theorem dX5_readText_82 : decode cX5_readText 82 = .ok (.iconst 1, 1) := by decide +kernel
theorem dX5_readText_83 : decode cX5_readText 83 = .ok (.goto 4, 3) := by decide +kernel
theorem dX5_readText_86 : decode cX5_readText 86 = .ok (.iconst 0, 1) := by decide +kernel
theorem dX5_readText_87 : decode cX5_readText 87 = .ok (.ireturn, 1) := by decide +kernel
set_option maxRecDepth 20000 in
theorem ggX5_firstError_X5_readText : GoodIn wsX5_firstError wsX5_readText := goodIn_r _ [8, 3, 9, 10, 2, 11, 12, 13, 7, 14, 15, 16, 17, 18, 19, 20, 21, 22, 23, 24, 25, 26, 27, 28, 29, 30, 31, 32, 33, 34, 35, 36, 37, 38, 39] (by decide +kernel) (by decide +kernel)
set_option maxRecDepth 20000 in
theorem gX5_firstError_X5_readText : GoodIn wsX5_firstError (wsV RX5 136 RX5 yX5_readText wsX5_readText) := goodIn_app (goodIn_of _ (by decide +kernel)) ggX5_firstError_X5_readText
theorem dX5_firstError_0 : decode cX5_firstError 0 = .ok (.aload_n 0, 1) := by decide +kernel
theorem dX5_firstError_1 : decode cX5_firstError 1 = .ok (.iconst 0, 1) := by decide +kernel
theorem dX5_firstError_2 : decode cX5_firstError 2 = .ok (.putfield 33, 3) := by decide +kernel
theorem dX5_firstError_5 : decode cX5_firstError 5 = .ok (.aload_n 0, 1) := by decide +kernel
theorem dX5_firstError_6 : decode cX5_firstError 6 = .ok (.invokevirtual 136, 3) := by decide +kernel
theorem dX5_firstError_9 : decode cX5_firstError 9 = .ok (.ifCond .eq 10, 3) := by decide +kernel
theorem dX5_firstError_12 : decode cX5_firstError 12 = .ok (.aload_n 0, 1) := by decide +kernel
theorem dX5_firstError_13 : decode cX5_firstError 13 = .ok (.getfield 113, 3) := by decide +kernel
theorem dX5_firstError_16 : decode cX5_firstError 16 = .ok (.goto 7, 3) := by decide +kernel
theorem dX5_firstError_19 : decode cX5_firstError 19 = .ok (.aload_n 0, 1) := by decide +kernel
theorem dX5_firstError_20 : decode cX5_firstError 20 = .ok (.getfield 116, 3) := by decide +kernel
theorem dX5_firstError_23 : decode cX5_firstError 23 = .ok (.ireturn, 1) := by decide +kernel
set_option maxRecDepth 20000 in
theorem ggX5_load_X5_readText : GoodIn wsX5_load wsX5_readText := goodIn_r _ [10, 11, 3, 5, 1, 12, 13, 14, 9, 15, 16, 4, 17, 18, 19, 20, 21, 22, 23, 24, 25, 26, 101, 102, 103, 104, 105, 106, 107, 108, 109, 110, 111, 112, 113] (by decide +kernel) (by decide +kernel)
set_option maxRecDepth 20000 in
theorem gX5_load_X5_readText : GoodIn wsX5_load (wsV RX5 136 RX5 yX5_readText wsX5_readText) := goodIn_app (goodIn_of _ (by decide +kernel)) ggX5_load_X5_readText
set_option maxRecDepth 20000 in
theorem ggX5_load_X5_refused : GoodIn wsX5_load wsX5_refused := goodIn_r _ [30, 31, 101, 102, 103, 104, 105, 106, 107, 108, 109, 110, 111, 112, 113] (by decide +kernel) (by decide +kernel)
set_option maxRecDepth 20000 in
theorem gX5_load_X5_refused : GoodIn wsX5_load (wsV RX5 54 RX5 yX5_refused wsX5_refused) := goodIn_app (goodIn_of _ (by decide +kernel)) ggX5_load_X5_refused
set_option maxRecDepth 20000 in
theorem ggX5_load_X5_saveState : GoodIn wsX5_load wsX5_saveState := goodIn_r _ [35, 36, 37, 2, 38, 39, 9, 40, 101, 102, 103, 104, 105, 106, 107, 108, 109, 110, 111, 112, 113] (by decide +kernel) (by decide +kernel)
set_option maxRecDepth 20000 in
theorem gX5_load_X5_saveState : GoodIn wsX5_load (wsV RX5 47 RX5 yX5_saveState wsX5_saveState) := goodIn_app (goodIn_of _ (by decide +kernel)) ggX5_load_X5_saveState
set_option maxRecDepth 20000 in
theorem ggX5_load_X5_sendNow : GoodIn wsX5_load wsX5_sendNow := goodIn_r _ [44, 45, 46, 9, 47, 48, 49, 50, 51, 2, 101, 102, 103, 104, 105, 106, 107, 108, 109, 110, 111, 112, 113] (by decide +kernel) (by decide +kernel)
set_option maxRecDepth 20000 in
theorem gX5_load_X5_sendNow : GoodIn wsX5_load (wsV RX5 107 RX5 yX5_sendNow wsX5_sendNow) := goodIn_app (goodIn_of _ (by decide +kernel)) ggX5_load_X5_sendNow
set_option maxRecDepth 20000 in
theorem ggX5_load_X5_gapNow : GoodIn wsX5_load wsX5_gapNow := goodIn_r _ [55, 56, 2, 57, 58, 59, 9, 60, 61, 62, 63, 64, 65, 66, 67, 68, 69, 70, 71, 72, 73, 74, 75, 76, 77, 78, 79, 80, 81, 82, 83, 84, 85, 86, 87, 88, 89, 90, 91, 92, 93, 94, 95, 96, 45, 46, 47, 97, 98, 99, 100, 101, 102, 103, 104, 105, 106, 107, 108, 109, 110, 111, 112, 113] (by decide +kernel) (by decide +kernel)
set_option maxRecDepth 20000 in
theorem gX5_load_X5_gapNow : GoodIn wsX5_load (wsV RX5 110 RX5 yX5_gapNow wsX5_gapNow) := goodIn_app (goodIn_of _ (by decide +kernel)) ggX5_load_X5_gapNow
theorem dX5_load_0 : decode cX5_load 0 = .ok (.aload_n 0, 1) := by decide +kernel
theorem dX5_load_1 : decode cX5_load 1 = .ok (.aload_n 0, 1) := by decide +kernel
theorem dX5_load_2 : decode cX5_load 2 = .ok (.invokevirtual 136, 3) := by decide +kernel
theorem dX5_load_5 : decode cX5_load 5 = .ok (.ifCond .eq 7, 3) := by decide +kernel
theorem dX5_load_8 : decode cX5_load 8 = .ok (.iconst 0, 1) := by decide +kernel
theorem dX5_load_9 : decode cX5_load 9 = .ok (.goto 4, 3) := by decide +kernel
theorem dX5_load_12 : decode cX5_load 12 = .ok (.iconst 1, 1) := by decide +kernel
theorem dX5_load_13 : decode cX5_load 13 = .ok (.invokevirtual 54, 3) := by decide +kernel
theorem dX5_load_16 : decode cX5_load 16 = .ok (.ifCond .eq 5, 3) := by decide +kernel
theorem dX5_load_19 : decode cX5_load 19 = .ok (.iconst 0, 1) := by decide +kernel
theorem dX5_load_20 : decode cX5_load 20 = .ok (.ireturn, 1) := by decide +kernel
theorem dX5_load_21 : decode cX5_load 21 = .ok (.aload_n 0, 1) := by decide +kernel
theorem dX5_load_22 : decode cX5_load 22 = .ok (.invokevirtual 47, 3) := by decide +kernel
theorem dX5_load_25 : decode cX5_load 25 = .ok (.aload_n 0, 1) := by decide +kernel
theorem dX5_load_26 : decode cX5_load 26 = .ok (.iconst 0, 1) := by decide +kernel
theorem dX5_load_27 : decode cX5_load 27 = .ok (.putfield 113, 3) := by decide +kernel
theorem dX5_load_30 : decode cX5_load 30 = .ok (.aload_n 0, 1) := by decide +kernel
theorem dX5_load_31 : decode cX5_load 31 = .ok (.getfield 7, 3) := by decide +kernel
theorem dX5_load_34 : decode cX5_load 34 = .ok (.bipush 49, 2) := by decide +kernel
theorem dX5_load_36 : decode cX5_load 36 = .ok (.iaload, 1) := by decide +kernel
theorem dX5_load_37 : decode cX5_load 37 = .ok (.bipush 12, 2) := by decide +kernel
theorem dX5_load_39 : decode cX5_load 39 = .ok (.aload_n 0, 1) := by decide +kernel
theorem dX5_load_40 : decode cX5_load 40 = .ok (.getfield 122, 3) := by decide +kernel
theorem dX5_load_43 : decode cX5_load 43 = .ok (.imul, 1) := by decide +kernel
theorem dX5_load_44 : decode cX5_load 44 = .ok (.iadd, 1) := by decide +kernel
theorem dX5_load_45 : decode cX5_load 45 = .ok (.bipush 120, 2) := by decide +kernel
theorem dX5_load_47 : decode cX5_load 47 = .ok (.if_icmp .le 16, 3) := by decide +kernel
theorem dX5_load_50 : decode cX5_load 50 = .ok (.aload_n 0, 1) := by decide +kernel
theorem dX5_load_51 : decode cX5_load 51 = .ok (.getfield 7, 3) := by decide +kernel
theorem dX5_load_54 : decode cX5_load 54 = .ok (.bipush 48, 2) := by decide +kernel
theorem dX5_load_56 : decode cX5_load 56 = .ok (.dup2, 1) := by decide +kernel
theorem dX5_load_57 : decode cX5_load 57 = .ok (.iaload, 1) := by decide +kernel
theorem dX5_load_58 : decode cX5_load 58 = .ok (.iconst 1, 1) := by decide +kernel
theorem dX5_load_59 : decode cX5_load 59 = .ok (.iadd, 1) := by decide +kernel
theorem dX5_load_60 : decode cX5_load 60 = .ok (.iastore, 1) := by decide +kernel
theorem dX5_load_61 : decode cX5_load 61 = .ok (.iconst (-1), 1) := by decide +kernel
theorem dX5_load_62 : decode cX5_load 62 = .ok (.ireturn, 1) := by decide +kernel
theorem dX5_load_63 : decode cX5_load 63 = .ok (.iconst 0, 1) := by decide +kernel
theorem dX5_load_64 : decode cX5_load 64 = .ok (.istore_n 1, 1) := by decide +kernel
theorem dX5_load_65 : decode cX5_load 65 = .ok (.iload_n 1, 1) := by decide +kernel
theorem dX5_load_66 : decode cX5_load 66 = .ok (.aload_n 0, 1) := by decide +kernel
theorem dX5_load_67 : decode cX5_load 67 = .ok (.getfield 122, 3) := by decide +kernel
theorem dX5_load_70 : decode cX5_load 70 = .ok (.if_icmp .ge 19, 3) := by decide +kernel
theorem dX5_load_73 : decode cX5_load 73 = .ok (.aload_n 0, 1) := by decide +kernel
theorem dX5_load_74 : decode cX5_load 74 = .ok (.aload_n 0, 1) := by decide +kernel
theorem dX5_load_75 : decode cX5_load 75 = .ok (.getfield 30, 3) := by decide +kernel
theorem dX5_load_78 : decode cX5_load 78 = .ok (.iload_n 1, 1) := by decide +kernel
theorem dX5_load_79 : decode cX5_load 79 = .ok (.iaload, 1) := by decide +kernel
theorem dX5_load_80 : decode cX5_load 80 = .ok (.invokevirtual 107, 3) := by decide +kernel
theorem dX5_load_83 : decode cX5_load 83 = .ok (.iinc 1 1, 3) := by decide +kernel
theorem dX5_load_86 : decode cX5_load 86 = .ok (.goto (-21), 3) := by decide +kernel
theorem dX5_load_89 : decode cX5_load 89 = .ok (.aload_n 0, 1) := by decide +kernel
theorem dX5_load_90 : decode cX5_load 90 = .ok (.getfield 132, 3) := by decide +kernel
theorem dX5_load_93 : decode cX5_load 93 = .ok (.ifCond .eq 8, 3) := by decide +kernel
theorem dX5_load_96 : decode cX5_load 96 = .ok (.aload_n 0, 1) := by decide +kernel
theorem dX5_load_97 : decode cX5_load 97 = .ok (.invokevirtual 110, 3) := by decide +kernel
theorem dX5_load_100 : decode cX5_load 100 = .ok (.pop, 1) := by decide +kernel
theorem dX5_load_101 : decode cX5_load 101 = .ok (.aload_n 0, 1) := by decide +kernel
theorem dX5_load_102 : decode cX5_load 102 = .ok (.getfield 122, 3) := by decide +kernel
theorem dX5_load_105 : decode cX5_load 105 = .ok (.ireturn, 1) := by decide +kernel
set_option maxRecDepth 20000 in
theorem ggX5_keep_X5_in : GoodIn wsX5_keep wsX5_in := goodIn_r _ [7] (by decide +kernel) (by decide +kernel)
set_option maxRecDepth 20000 in
theorem gX5_keep_X5_in : GoodIn wsX5_keep (va_wsS RX5 36 yX5_in wsX5_in) := goodIn_app (goodIn_of _ (by decide +kernel)) ggX5_keep_X5_in
set_option maxRecDepth 20000 in
theorem ggX5_keep_X5_refused : GoodIn wsX5_keep wsX5_refused := goodIn_r _ [11, 12, 16, 17, 18, 19, 20, 21, 22, 23, 24, 25, 26, 27, 28] (by decide +kernel) (by decide +kernel)
set_option maxRecDepth 20000 in
theorem gX5_keep_X5_refused : GoodIn wsX5_keep (wsV RX5 54 RX5 yX5_refused wsX5_refused) := goodIn_app (goodIn_of _ (by decide +kernel)) ggX5_keep_X5_refused
set_option maxRecDepth 20000 in
theorem ggX5_keep_X5_copyState : GoodIn wsX5_keep wsX5_copyState := goodIn_r _ [15] (by decide +kernel) (by decide +kernel)
set_option maxRecDepth 20000 in
theorem gX5_keep_X5_copyState : GoodIn wsX5_keep (va_wsS RX5 43 yX5_copyState wsX5_copyState) := goodIn_app (goodIn_of _ (by decide +kernel)) ggX5_keep_X5_copyState
theorem dX5_keep_0 : decode cX5_keep 0 = .ok (.aload_n 0, 1) := by decide +kernel
theorem dX5_keep_1 : decode cX5_keep 1 = .ok (.iload_n 1, 1) := by decide +kernel
theorem dX5_keep_2 : decode cX5_keep 2 = .ok (.iconst 0, 1) := by decide +kernel
theorem dX5_keep_3 : decode cX5_keep 3 = .ok (.iconst 1, 1) := by decide +kernel
theorem dX5_keep_4 : decode cX5_keep 4 = .ok (.invokestatic 36, 3) := by decide +kernel
theorem dX5_keep_7 : decode cX5_keep 7 = .ok (.ifCond .eq 7, 3) := by decide +kernel
theorem dX5_keep_10 : decode cX5_keep 10 = .ok (.iconst 0, 1) := by decide +kernel
theorem dX5_keep_11 : decode cX5_keep 11 = .ok (.goto 4, 3) := by decide +kernel
theorem dX5_keep_14 : decode cX5_keep 14 = .ok (.iconst 1, 1) := by decide +kernel
theorem dX5_keep_15 : decode cX5_keep 15 = .ok (.invokevirtual 54, 3) := by decide +kernel
theorem dX5_keep_18 : decode cX5_keep 18 = .ok (.ifCond .eq 5, 3) := by decide +kernel
theorem dX5_keep_21 : decode cX5_keep 21 = .ok (.iconst 0, 1) := by decide +kernel
theorem dX5_keep_22 : decode cX5_keep 22 = .ok (.ireturn, 1) := by decide +kernel
theorem dX5_keep_23 : decode cX5_keep 23 = .ok (.aload_n 0, 1) := by decide +kernel
theorem dX5_keep_24 : decode cX5_keep 24 = .ok (.getfield 7, 3) := by decide +kernel
theorem dX5_keep_27 : decode cX5_keep 27 = .ok (.iconst 0, 1) := by decide +kernel
theorem dX5_keep_28 : decode cX5_keep 28 = .ok (.aload_n 0, 1) := by decide +kernel
theorem dX5_keep_29 : decode cX5_keep 29 = .ok (.getfield 16, 3) := by decide +kernel
theorem dX5_keep_32 : decode cX5_keep 32 = .ok (.sipush 170, 3) := by decide +kernel
theorem dX5_keep_35 : decode cX5_keep 35 = .ok (.iload_n 1, 1) := by decide +kernel
theorem dX5_keep_36 : decode cX5_keep 36 = .ok (.imul, 1) := by decide +kernel
theorem dX5_keep_37 : decode cX5_keep 37 = .ok (.invokestatic 43, 3) := by decide +kernel
theorem dX5_keep_40 : decode cX5_keep 40 = .ok (.aload_n 0, 1) := by decide +kernel
theorem dX5_keep_41 : decode cX5_keep 41 = .ok (.getfield 19, 3) := by decide +kernel
theorem dX5_keep_44 : decode cX5_keep 44 = .ok (.iload_n 1, 1) := by decide +kernel
theorem dX5_keep_45 : decode cX5_keep 45 = .ok (.iconst 1, 1) := by decide +kernel
theorem dX5_keep_46 : decode cX5_keep 46 = .ok (.bastore, 1) := by decide +kernel
theorem dX5_keep_47 : decode cX5_keep 47 = .ok (.aload_n 0, 1) := by decide +kernel
theorem dX5_keep_48 : decode cX5_keep 48 = .ok (.getfield 7, 3) := by decide +kernel
theorem dX5_keep_51 : decode cX5_keep 51 = .ok (.bipush 49, 2) := by decide +kernel
theorem dX5_keep_53 : decode cX5_keep 53 = .ok (.iaload, 1) := by decide +kernel
theorem dX5_keep_54 : decode cX5_keep 54 = .ok (.ireturn, 1) := by decide +kernel
set_option maxRecDepth 20000 in
theorem ggX5_goBack_X5_in : GoodIn wsX5_goBack wsX5_in := goodIn_r _ [7] (by decide +kernel) (by decide +kernel)
set_option maxRecDepth 20000 in
theorem gX5_goBack_X5_in : GoodIn wsX5_goBack (va_wsS RX5 36 yX5_in wsX5_in) := goodIn_app (goodIn_of _ (by decide +kernel)) ggX5_goBack_X5_in
set_option maxRecDepth 20000 in
theorem ggX5_goBack_X5_refused : GoodIn wsX5_goBack wsX5_refused := goodIn_r _ [11, 12, 22, 23, 24, 25, 26, 27, 28, 29, 30, 31, 32, 33, 34] (by decide +kernel) (by decide +kernel)
set_option maxRecDepth 20000 in
theorem gX5_goBack_X5_refused : GoodIn wsX5_goBack (wsV RX5 54 RX5 yX5_refused wsX5_refused) := goodIn_app (goodIn_of _ (by decide +kernel)) ggX5_goBack_X5_refused
set_option maxRecDepth 20000 in
theorem ggX5_goBack_X5_saveState : GoodIn wsX5_goBack wsX5_saveState := goodIn_r _ [16, 17, 18, 3, 19, 20, 6, 21, 22, 23, 24, 25, 26, 27, 28, 29, 30, 31, 32, 33, 34] (by decide +kernel) (by decide +kernel)
set_option maxRecDepth 20000 in
theorem gX5_goBack_X5_saveState : GoodIn wsX5_goBack (wsV RX5 47 RX5 yX5_saveState wsX5_saveState) := goodIn_app (goodIn_of _ (by decide +kernel)) ggX5_goBack_X5_saveState
set_option maxRecDepth 20000 in
theorem ggX5_goBack_X5_copyState : GoodIn wsX5_goBack wsX5_copyState := goodIn_r _ [21] (by decide +kernel) (by decide +kernel)
set_option maxRecDepth 20000 in
theorem gX5_goBack_X5_copyState : GoodIn wsX5_goBack (va_wsS RX5 43 yX5_copyState wsX5_copyState) := goodIn_app (goodIn_of _ (by decide +kernel)) ggX5_goBack_X5_copyState
theorem dX5_goBack_0 : decode cX5_goBack 0 = .ok (.aload_n 0, 1) := by decide +kernel
theorem dX5_goBack_1 : decode cX5_goBack 1 = .ok (.iload_n 1, 1) := by decide +kernel
theorem dX5_goBack_2 : decode cX5_goBack 2 = .ok (.iconst 0, 1) := by decide +kernel
theorem dX5_goBack_3 : decode cX5_goBack 3 = .ok (.iconst 1, 1) := by decide +kernel
theorem dX5_goBack_4 : decode cX5_goBack 4 = .ok (.invokestatic 36, 3) := by decide +kernel
theorem dX5_goBack_7 : decode cX5_goBack 7 = .ok (.ifCond .ne 7, 3) := by decide +kernel
theorem dX5_goBack_10 : decode cX5_goBack 10 = .ok (.iconst 1, 1) := by decide +kernel
theorem dX5_goBack_11 : decode cX5_goBack 11 = .ok (.goto 17, 3) := by decide +kernel
theorem dX5_goBack_14 : decode cX5_goBack 14 = .ok (.aload_n 0, 1) := by decide +kernel
theorem dX5_goBack_15 : decode cX5_goBack 15 = .ok (.getfield 19, 3) := by decide +kernel
theorem dX5_goBack_18 : decode cX5_goBack 18 = .ok (.iload_n 1, 1) := by decide +kernel
theorem dX5_goBack_19 : decode cX5_goBack 19 = .ok (.baload, 1) := by decide +kernel
theorem dX5_goBack_20 : decode cX5_goBack 20 = .ok (.ifCond .eq 7, 3) := by decide +kernel
theorem dX5_goBack_23 : decode cX5_goBack 23 = .ok (.iconst 0, 1) := by decide +kernel
theorem dX5_goBack_24 : decode cX5_goBack 24 = .ok (.goto 4, 3) := by decide +kernel
theorem dX5_goBack_27 : decode cX5_goBack 27 = .ok (.iconst 2, 1) := by decide +kernel
theorem dX5_goBack_28 : decode cX5_goBack 28 = .ok (.invokevirtual 54, 3) := by decide +kernel
theorem dX5_goBack_31 : decode cX5_goBack 31 = .ok (.ifCond .eq 5, 3) := by decide +kernel
theorem dX5_goBack_34 : decode cX5_goBack 34 = .ok (.iconst 0, 1) := by decide +kernel
theorem dX5_goBack_35 : decode cX5_goBack 35 = .ok (.ireturn, 1) := by decide +kernel
theorem dX5_goBack_36 : decode cX5_goBack 36 = .ok (.aload_n 0, 1) := by decide +kernel
theorem dX5_goBack_37 : decode cX5_goBack 37 = .ok (.invokevirtual 47, 3) := by decide +kernel
theorem dX5_goBack_40 : decode cX5_goBack 40 = .ok (.aload_n 0, 1) := by decide +kernel
theorem dX5_goBack_41 : decode cX5_goBack 41 = .ok (.getfield 16, 3) := by decide +kernel
theorem dX5_goBack_44 : decode cX5_goBack 44 = .ok (.sipush 170, 3) := by decide +kernel
theorem dX5_goBack_47 : decode cX5_goBack 47 = .ok (.iload_n 1, 1) := by decide +kernel
theorem dX5_goBack_48 : decode cX5_goBack 48 = .ok (.imul, 1) := by decide +kernel
theorem dX5_goBack_49 : decode cX5_goBack 49 = .ok (.aload_n 0, 1) := by decide +kernel
theorem dX5_goBack_50 : decode cX5_goBack 50 = .ok (.getfield 7, 3) := by decide +kernel
theorem dX5_goBack_53 : decode cX5_goBack 53 = .ok (.iconst 0, 1) := by decide +kernel
theorem dX5_goBack_54 : decode cX5_goBack 54 = .ok (.invokestatic 43, 3) := by decide +kernel
theorem dX5_goBack_57 : decode cX5_goBack 57 = .ok (.aload_n 0, 1) := by decide +kernel
theorem dX5_goBack_58 : decode cX5_goBack 58 = .ok (.getfield 7, 3) := by decide +kernel
theorem dX5_goBack_61 : decode cX5_goBack 61 = .ok (.bipush 49, 2) := by decide +kernel
theorem dX5_goBack_63 : decode cX5_goBack 63 = .ok (.iaload, 1) := by decide +kernel
theorem dX5_goBack_64 : decode cX5_goBack 64 = .ok (.ireturn, 1) := by decide +kernel
set_option maxRecDepth 20000 in
theorem ggX5_undo_X5_refused : GoodIn wsX5_undo wsX5_refused := goodIn_r _ [8, 9, 13, 14, 15, 16, 17, 18, 19, 20, 21, 22, 23, 24, 25] (by decide +kernel) (by decide +kernel)
set_option maxRecDepth 20000 in
theorem gX5_undo_X5_refused : GoodIn wsX5_undo (wsV RX5 54 RX5 yX5_refused wsX5_refused) := goodIn_app (goodIn_of _ (by decide +kernel)) ggX5_undo_X5_refused
set_option maxRecDepth 20000 in
theorem ggX5_undo_X5_copyState : GoodIn wsX5_undo wsX5_copyState := goodIn_r _ [12] (by decide +kernel) (by decide +kernel)
set_option maxRecDepth 20000 in
theorem gX5_undo_X5_copyState : GoodIn wsX5_undo (va_wsS RX5 43 yX5_copyState wsX5_copyState) := goodIn_app (goodIn_of _ (by decide +kernel)) ggX5_undo_X5_copyState
theorem dX5_undo_0 : decode cX5_undo 0 = .ok (.aload_n 0, 1) := by decide +kernel
theorem dX5_undo_1 : decode cX5_undo 1 = .ok (.aload_n 0, 1) := by decide +kernel
theorem dX5_undo_2 : decode cX5_undo 2 = .ok (.getfield 40, 3) := by decide +kernel
theorem dX5_undo_5 : decode cX5_undo 5 = .ok (.ifCond .ne 7, 3) := by decide +kernel
theorem dX5_undo_8 : decode cX5_undo 8 = .ok (.iconst 1, 1) := by decide +kernel
theorem dX5_undo_9 : decode cX5_undo 9 = .ok (.goto 4, 3) := by decide +kernel
theorem dX5_undo_12 : decode cX5_undo 12 = .ok (.iconst 0, 1) := by decide +kernel
theorem dX5_undo_13 : decode cX5_undo 13 = .ok (.invokevirtual 54, 3) := by decide +kernel
theorem dX5_undo_16 : decode cX5_undo 16 = .ok (.ifCond .eq 5, 3) := by decide +kernel
theorem dX5_undo_19 : decode cX5_undo 19 = .ok (.iconst 0, 1) := by decide +kernel
theorem dX5_undo_20 : decode cX5_undo 20 = .ok (.ireturn, 1) := by decide +kernel
theorem dX5_undo_21 : decode cX5_undo 21 = .ok (.aload_n 0, 1) := by decide +kernel
theorem dX5_undo_22 : decode cX5_undo 22 = .ok (.dup, 1) := by decide +kernel
theorem dX5_undo_23 : decode cX5_undo 23 = .ok (.getfield 40, 3) := by decide +kernel
theorem dX5_undo_26 : decode cX5_undo 26 = .ok (.iconst 1, 1) := by decide +kernel
theorem dX5_undo_27 : decode cX5_undo 27 = .ok (.isub, 1) := by decide +kernel
theorem dX5_undo_28 : decode cX5_undo 28 = .ok (.putfield 40, 3) := by decide +kernel
theorem dX5_undo_31 : decode cX5_undo 31 = .ok (.aload_n 0, 1) := by decide +kernel
theorem dX5_undo_32 : decode cX5_undo 32 = .ok (.getfield 13, 3) := by decide +kernel
theorem dX5_undo_35 : decode cX5_undo 35 = .ok (.sipush 170, 3) := by decide +kernel
theorem dX5_undo_38 : decode cX5_undo 38 = .ok (.aload_n 0, 1) := by decide +kernel
theorem dX5_undo_39 : decode cX5_undo 39 = .ok (.getfield 40, 3) := by decide +kernel
theorem dX5_undo_42 : decode cX5_undo 42 = .ok (.imul, 1) := by decide +kernel
theorem dX5_undo_43 : decode cX5_undo 43 = .ok (.aload_n 0, 1) := by decide +kernel
theorem dX5_undo_44 : decode cX5_undo 44 = .ok (.getfield 7, 3) := by decide +kernel
theorem dX5_undo_47 : decode cX5_undo 47 = .ok (.iconst 0, 1) := by decide +kernel
theorem dX5_undo_48 : decode cX5_undo 48 = .ok (.invokestatic 43, 3) := by decide +kernel
theorem dX5_undo_51 : decode cX5_undo 51 = .ok (.aload_n 0, 1) := by decide +kernel
theorem dX5_undo_52 : decode cX5_undo 52 = .ok (.getfield 40, 3) := by decide +kernel
theorem dX5_undo_55 : decode cX5_undo 55 = .ok (.ireturn, 1) := by decide +kernel
theorem dX5_colour_0 : decode cX5_colour 0 = .ok (.iload_n 0, 1) := by decide +kernel
theorem dX5_colour_1 : decode cX5_colour 1 = .ok (.iconst 4, 1) := by decide +kernel
theorem dX5_colour_2 : decode cX5_colour 2 = .ok (.iconst 2, 1) := by decide +kernel
theorem dX5_colour_3 : decode cX5_colour 3 = .ok (.iload_n 1, 1) := by decide +kernel
theorem dX5_colour_4 : decode cX5_colour 4 = .ok (.isub, 1) := by decide +kernel
theorem dX5_colour_5 : decode cX5_colour 5 = .ok (.imul, 1) := by decide +kernel
theorem dX5_colour_6 : decode cX5_colour 6 = .ok (.ishr, 1) := by decide +kernel
theorem dX5_colour_7 : decode cX5_colour 7 = .ok (.bipush 15, 2) := by decide +kernel
theorem dX5_colour_9 : decode cX5_colour 9 = .ok (.iand, 1) := by decide +kernel
theorem dX5_colour_10 : decode cX5_colour 10 = .ok (.ireturn, 1) := by decide +kernel
set_option maxRecDepth 20000 in
theorem ggX5_wanted_X5_colour : GoodIn wsX5_wanted wsX5_colour := goodIn_r _ [5] (by decide +kernel) (by decide +kernel)
set_option maxRecDepth 20000 in
theorem gX5_wanted_X5_colour : GoodIn wsX5_wanted (va_wsS RX5 139 yX5_colour wsX5_colour) := goodIn_app (goodIn_of _ (by decide +kernel)) ggX5_wanted_X5_colour
theorem dX5_wanted_0 : decode cX5_wanted 0 = .ok (.iconst 0, 1) := by decide +kernel
theorem dX5_wanted_1 : decode cX5_wanted 1 = .ok (.istore_n 1, 1) := by decide +kernel
theorem dX5_wanted_2 : decode cX5_wanted 2 = .ok (.iconst 0, 1) := by decide +kernel
theorem dX5_wanted_3 : decode cX5_wanted 3 = .ok (.istore_n 2, 1) := by decide +kernel
theorem dX5_wanted_4 : decode cX5_wanted 4 = .ok (.iload_n 2, 1) := by decide +kernel
theorem dX5_wanted_5 : decode cX5_wanted 5 = .ok (.bipush 8, 2) := by decide +kernel
theorem dX5_wanted_7 : decode cX5_wanted 7 = .ok (.if_icmp .ge 38, 3) := by decide +kernel
theorem dX5_wanted_10 : decode cX5_wanted 10 = .ok (.iconst 0, 1) := by decide +kernel
theorem dX5_wanted_11 : decode cX5_wanted 11 = .ok (.istore_n 3, 1) := by decide +kernel
theorem dX5_wanted_12 : decode cX5_wanted 12 = .ok (.iload_n 3, 1) := by decide +kernel
theorem dX5_wanted_13 : decode cX5_wanted 13 = .ok (.iconst 3, 1) := by decide +kernel
theorem dX5_wanted_14 : decode cX5_wanted 14 = .ok (.if_icmp .ge 25, 3) := by decide +kernel
theorem dX5_wanted_17 : decode cX5_wanted 17 = .ok (.iload_n 1, 1) := by decide +kernel
theorem dX5_wanted_18 : decode cX5_wanted 18 = .ok (.aload_n 0, 1) := by decide +kernel
theorem dX5_wanted_19 : decode cX5_wanted 19 = .ok (.getfield 7, 3) := by decide +kernel
theorem dX5_wanted_22 : decode cX5_wanted 22 = .ok (.bipush 24, 2) := by decide +kernel
theorem dX5_wanted_24 : decode cX5_wanted 24 = .ok (.iload_n 2, 1) := by decide +kernel
theorem dX5_wanted_25 : decode cX5_wanted 25 = .ok (.iadd, 1) := by decide +kernel
theorem dX5_wanted_26 : decode cX5_wanted 26 = .ok (.iaload, 1) := by decide +kernel
theorem dX5_wanted_27 : decode cX5_wanted 27 = .ok (.iload_n 3, 1) := by decide +kernel
theorem dX5_wanted_28 : decode cX5_wanted 28 = .ok (.invokestatic 139, 3) := by decide +kernel
theorem dX5_wanted_31 : decode cX5_wanted 31 = .ok (.iadd, 1) := by decide +kernel
theorem dX5_wanted_32 : decode cX5_wanted 32 = .ok (.istore_n 1, 1) := by decide +kernel
theorem dX5_wanted_33 : decode cX5_wanted 33 = .ok (.iinc 3 1, 3) := by decide +kernel
theorem dX5_wanted_36 : decode cX5_wanted 36 = .ok (.goto (-24), 3) := by decide +kernel
theorem dX5_wanted_39 : decode cX5_wanted 39 = .ok (.iinc 2 1, 3) := by decide +kernel
theorem dX5_wanted_42 : decode cX5_wanted 42 = .ok (.goto (-38), 3) := by decide +kernel
theorem dX5_wanted_45 : decode cX5_wanted 45 = .ok (.iload_n 1, 1) := by decide +kernel
theorem dX5_wanted_46 : decode cX5_wanted 46 = .ok (.ireturn, 1) := by decide +kernel
set_option maxRecDepth 20000 in
theorem ggX5_shown_X5_wanted : GoodIn wsX5_shown wsX5_wanted := goodIn_r _ [6, 1, 7, 8, 5, 9, 10, 11, 12, 13, 14, 15, 16, 17, 18, 19, 20, 21, 22] (by decide +kernel) (by decide +kernel)
set_option maxRecDepth 20000 in
theorem gX5_shown_X5_wanted : GoodIn wsX5_shown (wsV RX5 142 RX5 yX5_wanted wsX5_wanted) := goodIn_app (goodIn_of _ (by decide +kernel)) ggX5_shown_X5_wanted
set_option maxRecDepth 20000 in
theorem ggX5_shown_X5_colour : GoodIn wsX5_shown wsX5_colour := goodIn_r _ [9] (by decide +kernel) (by decide +kernel)
set_option maxRecDepth 20000 in
theorem gX5_shown_X5_colour : GoodIn wsX5_shown (va_wsS RX5 139 yX5_colour wsX5_colour) := goodIn_app (goodIn_of _ (by decide +kernel)) ggX5_shown_X5_colour
theorem dX5_shown_0 : decode cX5_shown 0 = .ok (.aload_n 0, 1) := by decide +kernel
theorem dX5_shown_1 : decode cX5_shown 1 = .ok (.invokevirtual 142, 3) := by decide +kernel
theorem dX5_shown_4 : decode cX5_shown 4 = .ok (.istore_n 3, 1) := by decide +kernel
theorem dX5_shown_5 : decode cX5_shown 5 = .ok (.aload_n 0, 1) := by decide +kernel
theorem dX5_shown_6 : decode cX5_shown 6 = .ok (.getfield 7, 3) := by decide +kernel
theorem dX5_shown_9 : decode cX5_shown 9 = .ok (.bipush 24, 2) := by decide +kernel
theorem dX5_shown_11 : decode cX5_shown 11 = .ok (.iload_n 1, 1) := by decide +kernel
theorem dX5_shown_12 : decode cX5_shown 12 = .ok (.iadd, 1) := by decide +kernel
theorem dX5_shown_13 : decode cX5_shown 13 = .ok (.iaload, 1) := by decide +kernel
theorem dX5_shown_14 : decode cX5_shown 14 = .ok (.iload_n 2, 1) := by decide +kernel
theorem dX5_shown_15 : decode cX5_shown 15 = .ok (.invokestatic 139, 3) := by decide +kernel
theorem dX5_shown_18 : decode cX5_shown 18 = .ok (.istore 4, 2) := by decide +kernel
theorem dX5_shown_20 : decode cX5_shown 20 = .ok (.iload_n 3, 1) := by decide +kernel
theorem dX5_shown_21 : decode cX5_shown 21 = .ok (.aload_n 0, 1) := by decide +kernel
theorem dX5_shown_22 : decode cX5_shown 22 = .ok (.getfield 7, 3) := by decide +kernel
theorem dX5_shown_25 : decode cX5_shown 25 = .ok (.bipush 42, 2) := by decide +kernel
theorem dX5_shown_27 : decode cX5_shown 27 = .ok (.iaload, 1) := by decide +kernel
theorem dX5_shown_28 : decode cX5_shown 28 = .ok (.if_icmp .le 18, 3) := by decide +kernel
theorem dX5_shown_31 : decode cX5_shown 31 = .ok (.iload 4, 2) := by decide +kernel
theorem dX5_shown_33 : decode cX5_shown 33 = .ok (.aload_n 0, 1) := by decide +kernel
theorem dX5_shown_34 : decode cX5_shown 34 = .ok (.getfield 7, 3) := by decide +kernel
theorem dX5_shown_37 : decode cX5_shown 37 = .ok (.bipush 42, 2) := by decide +kernel
theorem dX5_shown_39 : decode cX5_shown 39 = .ok (.iaload, 1) := by decide +kernel
theorem dX5_shown_40 : decode cX5_shown 40 = .ok (.imul, 1) := by decide +kernel
theorem dX5_shown_41 : decode cX5_shown 41 = .ok (.iload_n 3, 1) := by decide +kernel
theorem dX5_shown_42 : decode cX5_shown 42 = .ok (.idiv, 1) := by decide +kernel
theorem dX5_shown_43 : decode cX5_shown 43 = .ok (.goto 5, 3) := by decide +kernel
theorem dX5_shown_46 : decode cX5_shown 46 = .ok (.iload 4, 2) := by decide +kernel
theorem dX5_shown_48 : decode cX5_shown 48 = .ok (.ireturn, 1) := by decide +kernel
set_option maxRecDepth 20000 in
theorem ggX5_allShown_X5_shown : GoodIn wsX5_allShown wsX5_shown := goodIn_r _ [5, 6, 7, 8, 9, 4, 10, 11, 12, 13, 14, 15, 16, 17, 18, 19, 20, 21, 22, 23, 24, 25, 26] (by decide +kernel) (by decide +kernel)
set_option maxRecDepth 20000 in
theorem gX5_allShown_X5_shown : GoodIn wsX5_allShown (wsV RX5 145 RX5 yX5_shown wsX5_shown) := goodIn_app (goodIn_of _ (by decide +kernel)) ggX5_allShown_X5_shown
theorem dX5_allShown_0 : decode cX5_allShown 0 = .ok (.iconst 0, 1) := by decide +kernel
theorem dX5_allShown_1 : decode cX5_allShown 1 = .ok (.istore_n 1, 1) := by decide +kernel
theorem dX5_allShown_2 : decode cX5_allShown 2 = .ok (.iconst 0, 1) := by decide +kernel
theorem dX5_allShown_3 : decode cX5_allShown 3 = .ok (.istore_n 2, 1) := by decide +kernel
theorem dX5_allShown_4 : decode cX5_allShown 4 = .ok (.iload_n 2, 1) := by decide +kernel
theorem dX5_allShown_5 : decode cX5_allShown 5 = .ok (.bipush 8, 2) := by decide +kernel
theorem dX5_allShown_7 : decode cX5_allShown 7 = .ok (.if_icmp .ge 31, 3) := by decide +kernel
theorem dX5_allShown_10 : decode cX5_allShown 10 = .ok (.iconst 0, 1) := by decide +kernel
theorem dX5_allShown_11 : decode cX5_allShown 11 = .ok (.istore_n 3, 1) := by decide +kernel
theorem dX5_allShown_12 : decode cX5_allShown 12 = .ok (.iload_n 3, 1) := by decide +kernel
theorem dX5_allShown_13 : decode cX5_allShown 13 = .ok (.iconst 3, 1) := by decide +kernel
theorem dX5_allShown_14 : decode cX5_allShown 14 = .ok (.if_icmp .ge 18, 3) := by decide +kernel
theorem dX5_allShown_17 : decode cX5_allShown 17 = .ok (.iload_n 1, 1) := by decide +kernel
theorem dX5_allShown_18 : decode cX5_allShown 18 = .ok (.aload_n 0, 1) := by decide +kernel
theorem dX5_allShown_19 : decode cX5_allShown 19 = .ok (.iload_n 2, 1) := by decide +kernel
theorem dX5_allShown_20 : decode cX5_allShown 20 = .ok (.iload_n 3, 1) := by decide +kernel
theorem dX5_allShown_21 : decode cX5_allShown 21 = .ok (.invokevirtual 145, 3) := by decide +kernel
theorem dX5_allShown_24 : decode cX5_allShown 24 = .ok (.iadd, 1) := by decide +kernel
theorem dX5_allShown_25 : decode cX5_allShown 25 = .ok (.istore_n 1, 1) := by decide +kernel
theorem dX5_allShown_26 : decode cX5_allShown 26 = .ok (.iinc 3 1, 3) := by decide +kernel
theorem dX5_allShown_29 : decode cX5_allShown 29 = .ok (.goto (-17), 3) := by decide +kernel
theorem dX5_allShown_32 : decode cX5_allShown 32 = .ok (.iinc 2 1, 3) := by decide +kernel
theorem dX5_allShown_35 : decode cX5_allShown 35 = .ok (.goto (-31), 3) := by decide +kernel
theorem dX5_allShown_38 : decode cX5_allShown 38 = .ok (.iload_n 1, 1) := by decide +kernel
theorem dX5_allShown_39 : decode cX5_allShown 39 = .ok (.ireturn, 1) := by decide +kernel
theorem dX5_shining_0 : decode cX5_shining 0 = .ok (.iconst 0, 1) := by decide +kernel
theorem dX5_shining_1 : decode cX5_shining 1 = .ok (.istore_n 1, 1) := by decide +kernel
theorem dX5_shining_2 : decode cX5_shining 2 = .ok (.iconst 0, 1) := by decide +kernel
theorem dX5_shining_3 : decode cX5_shining 3 = .ok (.istore_n 2, 1) := by decide +kernel
theorem dX5_shining_4 : decode cX5_shining 4 = .ok (.iload_n 2, 1) := by decide +kernel
theorem dX5_shining_5 : decode cX5_shining 5 = .ok (.bipush 8, 2) := by decide +kernel
theorem dX5_shining_7 : decode cX5_shining 7 = .ok (.if_icmp .ge 29, 3) := by decide +kernel
theorem dX5_shining_10 : decode cX5_shining 10 = .ok (.iload_n 1, 1) := by decide +kernel
theorem dX5_shining_11 : decode cX5_shining 11 = .ok (.aload_n 0, 1) := by decide +kernel
theorem dX5_shining_12 : decode cX5_shining 12 = .ok (.getfield 7, 3) := by decide +kernel
theorem dX5_shining_15 : decode cX5_shining 15 = .ok (.bipush 24, 2) := by decide +kernel
theorem dX5_shining_17 : decode cX5_shining 17 = .ok (.iload_n 2, 1) := by decide +kernel
theorem dX5_shining_18 : decode cX5_shining 18 = .ok (.iadd, 1) := by decide +kernel
theorem dX5_shining_19 : decode cX5_shining 19 = .ok (.iaload, 1) := by decide +kernel
theorem dX5_shining_20 : decode cX5_shining 20 = .ok (.ifCond .ne 7, 3) := by decide +kernel
theorem dX5_shining_23 : decode cX5_shining 23 = .ok (.iconst 0, 1) := by decide +kernel
theorem dX5_shining_24 : decode cX5_shining 24 = .ok (.goto 4, 3) := by decide +kernel
theorem dX5_shining_27 : decode cX5_shining 27 = .ok (.iconst 1, 1) := by decide +kernel
theorem dX5_shining_28 : decode cX5_shining 28 = .ok (.iadd, 1) := by decide +kernel
theorem dX5_shining_29 : decode cX5_shining 29 = .ok (.istore_n 1, 1) := by decide +kernel
theorem dX5_shining_30 : decode cX5_shining 30 = .ok (.iinc 2 1, 3) := by decide +kernel
theorem dX5_shining_33 : decode cX5_shining 33 = .ok (.goto (-29), 3) := by decide +kernel
theorem dX5_shining_36 : decode cX5_shining 36 = .ok (.iload_n 1, 1) := by decide +kernel
theorem dX5_shining_37 : decode cX5_shining 37 = .ok (.ireturn, 1) := by decide +kernel
set_option maxRecDepth 20000 in
theorem ggX5_aboutLamp_X5_shown : GoodIn wsX5_aboutLamp wsX5_shown := goodIn_r _ [6, 1, 7, 8, 9, 5, 10, 11, 12, 13, 14, 15, 16, 17, 18, 19, 20, 21, 22, 23, 24, 25, 26] (by decide +kernel) (by decide +kernel)
set_option maxRecDepth 20000 in
theorem gX5_aboutLamp_X5_shown : GoodIn wsX5_aboutLamp (wsV RX5 145 RX5 yX5_shown wsX5_shown) := goodIn_app (goodIn_of _ (by decide +kernel)) ggX5_aboutLamp_X5_shown
theorem dX5_aboutLamp_0 : decode cX5_aboutLamp 0 = .ok (.iload_n 2, 1) := by decide +kernel
theorem dX5_aboutLamp_1 : decode cX5_aboutLamp 1 = .ok (.iconst 4, 1) := by decide +kernel
theorem dX5_aboutLamp_2 : decode cX5_aboutLamp 2 = .ok (.if_icmp .ge 17, 3) := by decide +kernel
theorem dX5_aboutLamp_5 : decode cX5_aboutLamp 5 = .ok (.aload_n 0, 1) := by decide +kernel
theorem dX5_aboutLamp_6 : decode cX5_aboutLamp 6 = .ok (.getfield 7, 3) := by decide +kernel
theorem dX5_aboutLamp_9 : decode cX5_aboutLamp 9 = .ok (.bipush 8, 2) := by decide +kernel
theorem dX5_aboutLamp_11 : decode cX5_aboutLamp 11 = .ok (.iload_n 2, 1) := by decide +kernel
theorem dX5_aboutLamp_12 : decode cX5_aboutLamp 12 = .ok (.imul, 1) := by decide +kernel
theorem dX5_aboutLamp_13 : decode cX5_aboutLamp 13 = .ok (.iload_n 1, 1) := by decide +kernel
theorem dX5_aboutLamp_14 : decode cX5_aboutLamp 14 = .ok (.iadd, 1) := by decide +kernel
theorem dX5_aboutLamp_15 : decode cX5_aboutLamp 15 = .ok (.iaload, 1) := by decide +kernel
theorem dX5_aboutLamp_16 : decode cX5_aboutLamp 16 = .ok (.goto 29, 3) := by decide +kernel
theorem dX5_aboutLamp_19 : decode cX5_aboutLamp 19 = .ok (.iload_n 2, 1) := by decide +kernel
theorem dX5_aboutLamp_20 : decode cX5_aboutLamp 20 = .ok (.bipush 7, 2) := by decide +kernel
theorem dX5_aboutLamp_22 : decode cX5_aboutLamp 22 = .ok (.if_icmp .ge 14, 3) := by decide +kernel
theorem dX5_aboutLamp_25 : decode cX5_aboutLamp 25 = .ok (.aload_n 0, 1) := by decide +kernel
theorem dX5_aboutLamp_26 : decode cX5_aboutLamp 26 = .ok (.iload_n 1, 1) := by decide +kernel
theorem dX5_aboutLamp_27 : decode cX5_aboutLamp 27 = .ok (.iload_n 2, 1) := by decide +kernel
theorem dX5_aboutLamp_28 : decode cX5_aboutLamp 28 = .ok (.iconst 4, 1) := by decide +kernel
theorem dX5_aboutLamp_29 : decode cX5_aboutLamp 29 = .ok (.isub, 1) := by decide +kernel
theorem dX5_aboutLamp_30 : decode cX5_aboutLamp 30 = .ok (.invokevirtual 145, 3) := by decide +kernel
theorem dX5_aboutLamp_33 : decode cX5_aboutLamp 33 = .ok (.goto 12, 3) := by decide +kernel
theorem dX5_aboutLamp_36 : decode cX5_aboutLamp 36 = .ok (.aload_n 0, 1) := by decide +kernel
theorem dX5_aboutLamp_37 : decode cX5_aboutLamp 37 = .ok (.getfield 7, 3) := by decide +kernel
theorem dX5_aboutLamp_40 : decode cX5_aboutLamp 40 = .ok (.bipush 32, 2) := by decide +kernel
theorem dX5_aboutLamp_42 : decode cX5_aboutLamp 42 = .ok (.iload_n 1, 1) := by decide +kernel
theorem dX5_aboutLamp_43 : decode cX5_aboutLamp 43 = .ok (.iadd, 1) := by decide +kernel
theorem dX5_aboutLamp_44 : decode cX5_aboutLamp 44 = .ok (.iaload, 1) := by decide +kernel
theorem dX5_aboutLamp_45 : decode cX5_aboutLamp 45 = .ok (.ireturn, 1) := by decide +kernel
set_option maxRecDepth 20000 in
theorem ggX5_lampOf_X5_isLamp : GoodIn wsX5_lampOf wsX5_isLamp := goodIn_r _ [4, 5, 6, 3, 7] (by decide +kernel) (by decide +kernel)
set_option maxRecDepth 20000 in
theorem gX5_lampOf_X5_isLamp : GoodIn wsX5_lampOf (va_wsS RX5 50 yX5_isLamp wsX5_isLamp) := goodIn_app (goodIn_of _ (by decide +kernel)) ggX5_lampOf_X5_isLamp
set_option maxRecDepth 20000 in
theorem ggX5_lampOf_X5_in : GoodIn wsX5_lampOf wsX5_in := goodIn_r _ [7] (by decide +kernel) (by decide +kernel)
set_option maxRecDepth 20000 in
theorem gX5_lampOf_X5_in : GoodIn wsX5_lampOf (va_wsS RX5 36 yX5_in wsX5_in) := goodIn_app (goodIn_of _ (by decide +kernel)) ggX5_lampOf_X5_in
set_option maxRecDepth 20000 in
theorem ggX5_lampOf_X5_refused : GoodIn wsX5_lampOf wsX5_refused := goodIn_r _ [11, 12, 29, 30, 31, 32, 33, 34, 35, 36, 37, 38, 39, 40, 41] (by decide +kernel) (by decide +kernel)
set_option maxRecDepth 20000 in
theorem gX5_lampOf_X5_refused : GoodIn wsX5_lampOf (wsV RX5 54 RX5 yX5_refused wsX5_refused) := goodIn_app (goodIn_of _ (by decide +kernel)) ggX5_lampOf_X5_refused
set_option maxRecDepth 20000 in
theorem ggX5_lampOf_X5_aboutLamp : GoodIn wsX5_lampOf wsX5_aboutLamp := goodIn_r _ [16, 17, 18, 19, 20, 3, 21, 22, 23, 24, 25, 26, 27, 28, 29, 30, 31, 32, 33, 34, 35, 36, 37, 38, 39, 40, 41] (by decide +kernel) (by decide +kernel)
set_option maxRecDepth 20000 in
theorem gX5_lampOf_X5_aboutLamp : GoodIn wsX5_lampOf (wsV RX5 148 RX5 yX5_aboutLamp wsX5_aboutLamp) := goodIn_app (goodIn_of _ (by decide +kernel)) ggX5_lampOf_X5_aboutLamp
theorem dX5_lampOf_0 : decode cX5_lampOf 0 = .ok (.aload_n 0, 1) := by decide +kernel
theorem dX5_lampOf_1 : decode cX5_lampOf 1 = .ok (.iload_n 1, 1) := by decide +kernel
theorem dX5_lampOf_2 : decode cX5_lampOf 2 = .ok (.invokestatic 50, 3) := by decide +kernel
theorem dX5_lampOf_5 : decode cX5_lampOf 5 = .ok (.ifCond .ne 7, 3) := by decide +kernel
theorem dX5_lampOf_8 : decode cX5_lampOf 8 = .ok (.iconst 1, 1) := by decide +kernel
theorem dX5_lampOf_9 : decode cX5_lampOf 9 = .ok (.goto 18, 3) := by decide +kernel
theorem dX5_lampOf_12 : decode cX5_lampOf 12 = .ok (.iload_n 2, 1) := by decide +kernel
theorem dX5_lampOf_13 : decode cX5_lampOf 13 = .ok (.iconst 0, 1) := by decide +kernel
theorem dX5_lampOf_14 : decode cX5_lampOf 14 = .ok (.bipush 7, 2) := by decide +kernel
theorem dX5_lampOf_16 : decode cX5_lampOf 16 = .ok (.invokestatic 36, 3) := by decide +kernel
theorem dX5_lampOf_19 : decode cX5_lampOf 19 = .ok (.ifCond .eq 7, 3) := by decide +kernel
theorem dX5_lampOf_22 : decode cX5_lampOf 22 = .ok (.iconst 0, 1) := by decide +kernel
theorem dX5_lampOf_23 : decode cX5_lampOf 23 = .ok (.goto 4, 3) := by decide +kernel
theorem dX5_lampOf_26 : decode cX5_lampOf 26 = .ok (.iconst 2, 1) := by decide +kernel
theorem dX5_lampOf_27 : decode cX5_lampOf 27 = .ok (.invokevirtual 54, 3) := by decide +kernel
theorem dX5_lampOf_30 : decode cX5_lampOf 30 = .ok (.ifCond .eq 7, 3) := by decide +kernel
theorem dX5_lampOf_33 : decode cX5_lampOf 33 = .ok (.iconst 0, 1) := by decide +kernel
theorem dX5_lampOf_34 : decode cX5_lampOf 34 = .ok (.goto 9, 3) := by decide +kernel
theorem dX5_lampOf_37 : decode cX5_lampOf 37 = .ok (.aload_n 0, 1) := by decide +kernel
theorem dX5_lampOf_38 : decode cX5_lampOf 38 = .ok (.iload_n 1, 1) := by decide +kernel
theorem dX5_lampOf_39 : decode cX5_lampOf 39 = .ok (.iload_n 2, 1) := by decide +kernel
theorem dX5_lampOf_40 : decode cX5_lampOf 40 = .ok (.invokevirtual 148, 3) := by decide +kernel
theorem dX5_lampOf_43 : decode cX5_lampOf 43 = .ok (.ireturn, 1) := by decide +kernel
set_option maxRecDepth 20000 in
theorem ggX5_pulseAt_X5_refused : GoodIn wsX5_pulseAt wsX5_refused := goodIn_r _ [6, 7, 8, 9, 10, 11, 12, 13, 14, 15, 16, 17, 18, 19, 20] (by decide +kernel) (by decide +kernel)
set_option maxRecDepth 20000 in
theorem gX5_pulseAt_X5_refused : GoodIn wsX5_pulseAt (wsV RX5 54 RX5 yX5_refused wsX5_refused) := goodIn_app (goodIn_of _ (by decide +kernel)) ggX5_pulseAt_X5_refused
theorem dX5_pulseAt_0 : decode cX5_pulseAt 0 = .ok (.aload_n 0, 1) := by decide +kernel
theorem dX5_pulseAt_1 : decode cX5_pulseAt 1 = .ok (.iload_n 1, 1) := by decide +kernel
theorem dX5_pulseAt_2 : decode cX5_pulseAt 2 = .ok (.ifCond .ge 7, 3) := by decide +kernel
theorem dX5_pulseAt_5 : decode cX5_pulseAt 5 = .ok (.iconst 1, 1) := by decide +kernel
theorem dX5_pulseAt_6 : decode cX5_pulseAt 6 = .ok (.goto 4, 3) := by decide +kernel
theorem dX5_pulseAt_9 : decode cX5_pulseAt 9 = .ok (.iconst 0, 1) := by decide +kernel
theorem dX5_pulseAt_10 : decode cX5_pulseAt 10 = .ok (.invokevirtual 54, 3) := by decide +kernel
theorem dX5_pulseAt_13 : decode cX5_pulseAt 13 = .ok (.ifCond .eq 7, 3) := by decide +kernel
theorem dX5_pulseAt_16 : decode cX5_pulseAt 16 = .ok (.iconst 0, 1) := by decide +kernel
theorem dX5_pulseAt_17 : decode cX5_pulseAt 17 = .ok (.goto 27, 3) := by decide +kernel
theorem dX5_pulseAt_20 : decode cX5_pulseAt 20 = .ok (.iload_n 1, 1) := by decide +kernel
theorem dX5_pulseAt_21 : decode cX5_pulseAt 21 = .ok (.aload_n 0, 1) := by decide +kernel
theorem dX5_pulseAt_22 : decode cX5_pulseAt 22 = .ok (.getfield 7, 3) := by decide +kernel
theorem dX5_pulseAt_25 : decode cX5_pulseAt 25 = .ok (.bipush 49, 2) := by decide +kernel
theorem dX5_pulseAt_27 : decode cX5_pulseAt 27 = .ok (.iaload, 1) := by decide +kernel
theorem dX5_pulseAt_28 : decode cX5_pulseAt 28 = .ok (.if_icmp .ge 15, 3) := by decide +kernel
theorem dX5_pulseAt_31 : decode cX5_pulseAt 31 = .ok (.aload_n 0, 1) := by decide +kernel
theorem dX5_pulseAt_32 : decode cX5_pulseAt 32 = .ok (.getfield 7, 3) := by decide +kernel
theorem dX5_pulseAt_35 : decode cX5_pulseAt 35 = .ok (.bipush 50, 2) := by decide +kernel
theorem dX5_pulseAt_37 : decode cX5_pulseAt 37 = .ok (.iload_n 1, 1) := by decide +kernel
theorem dX5_pulseAt_38 : decode cX5_pulseAt 38 = .ok (.iadd, 1) := by decide +kernel
theorem dX5_pulseAt_39 : decode cX5_pulseAt 39 = .ok (.iaload, 1) := by decide +kernel
theorem dX5_pulseAt_40 : decode cX5_pulseAt 40 = .ok (.goto 4, 3) := by decide +kernel
theorem dX5_pulseAt_43 : decode cX5_pulseAt 43 = .ok (.iconst (-1), 1) := by decide +kernel
theorem dX5_pulseAt_44 : decode cX5_pulseAt 44 = .ok (.ireturn, 1) := by decide +kernel
set_option maxRecDepth 20000 in
theorem ggX5_number_X5_wanted : GoodIn wsX5_number wsX5_wanted := goodIn_r _ [7, 1, 8, 9, 6, 10, 23, 24, 25, 26, 27, 28, 29, 30, 31, 32, 33, 34, 35] (by decide +kernel) (by decide +kernel)
set_option maxRecDepth 20000 in
theorem gX5_number_X5_wanted : GoodIn wsX5_number (wsV RX5 142 RX5 yX5_wanted wsX5_wanted) := goodIn_app (goodIn_of _ (by decide +kernel)) ggX5_number_X5_wanted
set_option maxRecDepth 20000 in
theorem ggX5_number_X5_allShown : GoodIn wsX5_number wsX5_allShown := goodIn_r _ [14, 15, 16, 17, 6, 18, 1, 3, 4, 5, 7, 8, 9, 10, 23, 24, 25, 26, 27, 28, 29, 30, 31, 32, 33, 34, 35] (by decide +kernel) (by decide +kernel)
set_option maxRecDepth 20000 in
theorem gX5_number_X5_allShown : GoodIn wsX5_number (wsV RX5 151 RX5 yX5_allShown wsX5_allShown) := goodIn_app (goodIn_of _ (by decide +kernel)) ggX5_number_X5_allShown
set_option maxRecDepth 20000 in
theorem ggX5_number_X5_shining : GoodIn wsX5_number wsX5_shining := goodIn_r _ [22, 1, 23, 24, 25, 26, 27, 28, 29, 30, 31, 32, 33, 34, 35] (by decide +kernel) (by decide +kernel)
set_option maxRecDepth 20000 in
theorem gX5_number_X5_shining : GoodIn wsX5_number (wsV RX5 154 RX5 yX5_shining wsX5_shining) := goodIn_app (goodIn_of _ (by decide +kernel)) ggX5_number_X5_shining
theorem dX5_number_0 : decode cX5_number 0 = .ok (.iload_n 1, 1) := by decide +kernel
theorem dX5_number_1 : decode cX5_number 1 = .ok (.tableswitch 98 0 9 #[55, 63, 63, 63, 63, 63, 75, 80, 85, 90], 55) := by decide +kernel
theorem dX5_number_56 : decode cX5_number 56 = .ok (.aload_n 0, 1) := by decide +kernel
theorem dX5_number_57 : decode cX5_number 57 = .ok (.getfield 7, 3) := by decide +kernel
theorem dX5_number_60 : decode cX5_number 60 = .ok (.bipush 49, 2) := by decide +kernel
theorem dX5_number_62 : decode cX5_number 62 = .ok (.iaload, 1) := by decide +kernel
theorem dX5_number_63 : decode cX5_number 63 = .ok (.ireturn, 1) := by decide +kernel
theorem dX5_number_64 : decode cX5_number 64 = .ok (.aload_n 0, 1) := by decide +kernel
theorem dX5_number_65 : decode cX5_number 65 = .ok (.getfield 7, 3) := by decide +kernel
theorem dX5_number_68 : decode cX5_number 68 = .ok (.bipush 43, 2) := by decide +kernel
theorem dX5_number_70 : decode cX5_number 70 = .ok (.iload_n 1, 1) := by decide +kernel
theorem dX5_number_71 : decode cX5_number 71 = .ok (.iadd, 1) := by decide +kernel
theorem dX5_number_72 : decode cX5_number 72 = .ok (.iconst 1, 1) := by decide +kernel
theorem dX5_number_73 : decode cX5_number 73 = .ok (.isub, 1) := by decide +kernel
theorem dX5_number_74 : decode cX5_number 74 = .ok (.iaload, 1) := by decide +kernel
theorem dX5_number_75 : decode cX5_number 75 = .ok (.ireturn, 1) := by decide +kernel
theorem dX5_number_76 : decode cX5_number 76 = .ok (.aload_n 0, 1) := by decide +kernel
theorem dX5_number_77 : decode cX5_number 77 = .ok (.invokevirtual 142, 3) := by decide +kernel
theorem dX5_number_80 : decode cX5_number 80 = .ok (.ireturn, 1) := by decide +kernel
theorem dX5_number_81 : decode cX5_number 81 = .ok (.aload_n 0, 1) := by decide +kernel
theorem dX5_number_82 : decode cX5_number 82 = .ok (.invokevirtual 151, 3) := by decide +kernel
theorem dX5_number_85 : decode cX5_number 85 = .ok (.ireturn, 1) := by decide +kernel
theorem dX5_number_86 : decode cX5_number 86 = .ok (.aload_n 0, 1) := by decide +kernel
theorem dX5_number_87 : decode cX5_number 87 = .ok (.invokevirtual 154, 3) := by decide +kernel
theorem dX5_number_90 : decode cX5_number 90 = .ok (.ireturn, 1) := by decide +kernel
theorem dX5_number_91 : decode cX5_number 91 = .ok (.aload_n 0, 1) := by decide +kernel
theorem dX5_number_92 : decode cX5_number 92 = .ok (.getfield 7, 3) := by decide +kernel
theorem dX5_number_95 : decode cX5_number 95 = .ok (.bipush 48, 2) := by decide +kernel
theorem dX5_number_97 : decode cX5_number 97 = .ok (.iaload, 1) := by decide +kernel
theorem dX5_number_98 : decode cX5_number 98 = .ok (.ireturn, 1) := by decide +kernel
theorem dX5_number_99 : decode cX5_number 99 = .ok (.aload_n 0, 1) := by decide +kernel
theorem dX5_number_100 : decode cX5_number 100 = .ok (.getfield 40, 3) := by decide +kernel
theorem dX5_number_103 : decode cX5_number 103 = .ok (.ireturn, 1) := by decide +kernel
set_option maxRecDepth 20000 in
theorem ggX5_count_X5_in : GoodIn wsX5_count wsX5_in := goodIn_r _ [4] (by decide +kernel) (by decide +kernel)
set_option maxRecDepth 20000 in
theorem gX5_count_X5_in : GoodIn wsX5_count (va_wsS RX5 36 yX5_in wsX5_in) := goodIn_app (goodIn_of _ (by decide +kernel)) ggX5_count_X5_in
set_option maxRecDepth 20000 in
theorem ggX5_count_X5_refused : GoodIn wsX5_count wsX5_refused := goodIn_r _ [8, 9, 35, 36, 37, 38, 39, 40, 41, 42, 43, 44, 45, 46, 47] (by decide +kernel) (by decide +kernel)
set_option maxRecDepth 20000 in
theorem gX5_count_X5_refused : GoodIn wsX5_count (wsV RX5 54 RX5 yX5_refused wsX5_refused) := goodIn_app (goodIn_of _ (by decide +kernel)) ggX5_count_X5_refused
set_option maxRecDepth 20000 in
theorem ggX5_count_X5_number : GoodIn wsX5_count wsX5_number := goodIn_r _ [13, 14, 15, 16, 17, 18, 3, 19, 20, 21, 22, 23, 24, 25, 26, 27, 28, 29, 30, 31, 32, 33, 34, 35, 36, 37, 38, 39, 40, 41, 42, 43, 44, 45, 46, 47] (by decide +kernel) (by decide +kernel)
set_option maxRecDepth 20000 in
theorem gX5_count_X5_number : GoodIn wsX5_count (wsV RX5 157 RX5 yX5_number wsX5_number) := goodIn_app (goodIn_of _ (by decide +kernel)) ggX5_count_X5_number
theorem dX5_count_0 : decode cX5_count 0 = .ok (.aload_n 0, 1) := by decide +kernel
theorem dX5_count_1 : decode cX5_count 1 = .ok (.iload_n 1, 1) := by decide +kernel
theorem dX5_count_2 : decode cX5_count 2 = .ok (.iconst 0, 1) := by decide +kernel
theorem dX5_count_3 : decode cX5_count 3 = .ok (.bipush 10, 2) := by decide +kernel
theorem dX5_count_5 : decode cX5_count 5 = .ok (.invokestatic 36, 3) := by decide +kernel
theorem dX5_count_8 : decode cX5_count 8 = .ok (.ifCond .eq 7, 3) := by decide +kernel
theorem dX5_count_11 : decode cX5_count 11 = .ok (.iconst 0, 1) := by decide +kernel
theorem dX5_count_12 : decode cX5_count 12 = .ok (.goto 4, 3) := by decide +kernel
theorem dX5_count_15 : decode cX5_count 15 = .ok (.iconst 1, 1) := by decide +kernel
theorem dX5_count_16 : decode cX5_count 16 = .ok (.invokevirtual 54, 3) := by decide +kernel
theorem dX5_count_19 : decode cX5_count 19 = .ok (.ifCond .eq 7, 3) := by decide +kernel
theorem dX5_count_22 : decode cX5_count 22 = .ok (.iconst 0, 1) := by decide +kernel
theorem dX5_count_23 : decode cX5_count 23 = .ok (.goto 8, 3) := by decide +kernel
theorem dX5_count_26 : decode cX5_count 26 = .ok (.aload_n 0, 1) := by decide +kernel
theorem dX5_count_27 : decode cX5_count 27 = .ok (.iload_n 1, 1) := by decide +kernel
theorem dX5_count_28 : decode cX5_count 28 = .ok (.invokevirtual 157, 3) := by decide +kernel
theorem dX5_count_31 : decode cX5_count 31 = .ok (.ireturn, 1) := by decide +kernel
set_option maxRecDepth 20000 in
theorem ggX5_setting_X5_in : GoodIn wsX5_setting wsX5_in := goodIn_r _ [5] (by decide +kernel) (by decide +kernel)
set_option maxRecDepth 20000 in
theorem gX5_setting_X5_in : GoodIn wsX5_setting (va_wsS RX5 36 yX5_in wsX5_in) := goodIn_app (goodIn_of _ (by decide +kernel)) ggX5_setting_X5_in
set_option maxRecDepth 20000 in
theorem ggX5_setting_X5_refused : GoodIn wsX5_setting wsX5_refused := goodIn_r _ [9, 10, 11, 12, 13, 14, 15, 16, 17, 18, 19, 20, 21, 22, 23] (by decide +kernel) (by decide +kernel)
set_option maxRecDepth 20000 in
theorem gX5_setting_X5_refused : GoodIn wsX5_setting (wsV RX5 54 RX5 yX5_refused wsX5_refused) := goodIn_app (goodIn_of _ (by decide +kernel)) ggX5_setting_X5_refused
theorem dX5_setting_0 : decode cX5_setting 0 = .ok (.aload_n 0, 1) := by decide +kernel
theorem dX5_setting_1 : decode cX5_setting 1 = .ok (.iload_n 1, 1) := by decide +kernel
theorem dX5_setting_2 : decode cX5_setting 2 = .ok (.iconst 0, 1) := by decide +kernel
theorem dX5_setting_3 : decode cX5_setting 3 = .ok (.iconst 2, 1) := by decide +kernel
theorem dX5_setting_4 : decode cX5_setting 4 = .ok (.invokestatic 36, 3) := by decide +kernel
theorem dX5_setting_7 : decode cX5_setting 7 = .ok (.ifCond .eq 7, 3) := by decide +kernel
theorem dX5_setting_10 : decode cX5_setting 10 = .ok (.iconst 0, 1) := by decide +kernel
theorem dX5_setting_11 : decode cX5_setting 11 = .ok (.goto 4, 3) := by decide +kernel
theorem dX5_setting_14 : decode cX5_setting 14 = .ok (.iconst 1, 1) := by decide +kernel
theorem dX5_setting_15 : decode cX5_setting 15 = .ok (.invokevirtual 54, 3) := by decide +kernel
theorem dX5_setting_18 : decode cX5_setting 18 = .ok (.ifCond .eq 7, 3) := by decide +kernel
theorem dX5_setting_21 : decode cX5_setting 21 = .ok (.iconst 0, 1) := by decide +kernel
theorem dX5_setting_22 : decode cX5_setting 22 = .ok (.goto 12, 3) := by decide +kernel
theorem dX5_setting_25 : decode cX5_setting 25 = .ok (.aload_n 0, 1) := by decide +kernel
theorem dX5_setting_26 : decode cX5_setting 26 = .ok (.getfield 7, 3) := by decide +kernel
theorem dX5_setting_29 : decode cX5_setting 29 = .ok (.bipush 40, 2) := by decide +kernel
theorem dX5_setting_31 : decode cX5_setting 31 = .ok (.iload_n 1, 1) := by decide +kernel
theorem dX5_setting_32 : decode cX5_setting 32 = .ok (.iadd, 1) := by decide +kernel
theorem dX5_setting_33 : decode cX5_setting 33 = .ok (.iaload, 1) := by decide +kernel
theorem dX5_setting_34 : decode cX5_setting 34 = .ok (.ireturn, 1) := by decide +kernel
set_option maxRecDepth 20000 in
theorem ggX5_ifGap_X5_isLamp : GoodIn wsX5_ifGap wsX5_isLamp := goodIn_r _ [5, 6, 7, 4, 8] (by decide +kernel) (by decide +kernel)
set_option maxRecDepth 20000 in
theorem gX5_ifGap_X5_isLamp : GoodIn wsX5_ifGap (va_wsS RX5 50 yX5_isLamp wsX5_isLamp) := goodIn_app (goodIn_of _ (by decide +kernel)) ggX5_ifGap_X5_isLamp
set_option maxRecDepth 20000 in
theorem ggX5_ifGap_X5_in : GoodIn wsX5_ifGap wsX5_in := goodIn_r _ [8] (by decide +kernel) (by decide +kernel)
set_option maxRecDepth 20000 in
theorem gX5_ifGap_X5_in : GoodIn wsX5_ifGap (va_wsS RX5 36 yX5_in wsX5_in) := goodIn_app (goodIn_of _ (by decide +kernel)) ggX5_ifGap_X5_in
set_option maxRecDepth 20000 in
theorem ggX5_ifGap_X5_refused : GoodIn wsX5_ifGap wsX5_refused := goodIn_r _ [12, 13, 54, 55, 56, 57, 58, 59, 60, 61, 62, 63, 64, 65, 66] (by decide +kernel) (by decide +kernel)
set_option maxRecDepth 20000 in
theorem gX5_ifGap_X5_refused : GoodIn wsX5_ifGap (wsV RX5 54 RX5 yX5_refused wsX5_refused) := goodIn_app (goodIn_of _ (by decide +kernel)) ggX5_ifGap_X5_refused
set_option maxRecDepth 20000 in
theorem ggX5_ifGap_X5_wordBehind : GoodIn wsX5_ifGap wsX5_wordBehind := goodIn_r _ [17, 18, 19, 20, 21, 4, 22, 23, 24, 25, 26, 27, 28, 29, 30, 31, 32, 33, 34, 1, 35, 36, 37, 38, 39, 40, 41, 42, 43, 44, 45, 46, 47, 48, 49, 50, 51, 52, 53, 54, 55, 56, 57, 58, 59, 60, 61, 62, 63, 64, 65, 66] (by decide +kernel) (by decide +kernel)
set_option maxRecDepth 20000 in
theorem gX5_ifGap_X5_wordBehind : GoodIn wsX5_ifGap (wsV RX5 101 RX5 yX5_wordBehind wsX5_wordBehind) := goodIn_app (goodIn_of _ (by decide +kernel)) ggX5_ifGap_X5_wordBehind
theorem dX5_ifGap_0 : decode cX5_ifGap 0 = .ok (.aload_n 0, 1) := by decide +kernel
theorem dX5_ifGap_1 : decode cX5_ifGap 1 = .ok (.iload_n 1, 1) := by decide +kernel
theorem dX5_ifGap_2 : decode cX5_ifGap 2 = .ok (.invokestatic 50, 3) := by decide +kernel
theorem dX5_ifGap_5 : decode cX5_ifGap 5 = .ok (.ifCond .ne 7, 3) := by decide +kernel
theorem dX5_ifGap_8 : decode cX5_ifGap 8 = .ok (.iconst 1, 1) := by decide +kernel
theorem dX5_ifGap_9 : decode cX5_ifGap 9 = .ok (.goto 17, 3) := by decide +kernel
theorem dX5_ifGap_12 : decode cX5_ifGap 12 = .ok (.iload_n 2, 1) := by decide +kernel
theorem dX5_ifGap_13 : decode cX5_ifGap 13 = .ok (.iconst 0, 1) := by decide +kernel
theorem dX5_ifGap_14 : decode cX5_ifGap 14 = .ok (.iconst 1, 1) := by decide +kernel
theorem dX5_ifGap_15 : decode cX5_ifGap 15 = .ok (.invokestatic 36, 3) := by decide +kernel
theorem dX5_ifGap_18 : decode cX5_ifGap 18 = .ok (.ifCond .eq 7, 3) := by decide +kernel
theorem dX5_ifGap_21 : decode cX5_ifGap 21 = .ok (.iconst 0, 1) := by decide +kernel
theorem dX5_ifGap_22 : decode cX5_ifGap 22 = .ok (.goto 4, 3) := by decide +kernel
theorem dX5_ifGap_25 : decode cX5_ifGap 25 = .ok (.iconst 2, 1) := by decide +kernel
theorem dX5_ifGap_26 : decode cX5_ifGap 26 = .ok (.invokevirtual 54, 3) := by decide +kernel
theorem dX5_ifGap_29 : decode cX5_ifGap 29 = .ok (.ifCond .eq 5, 3) := by decide +kernel
theorem dX5_ifGap_32 : decode cX5_ifGap 32 = .ok (.iconst 0, 1) := by decide +kernel
theorem dX5_ifGap_33 : decode cX5_ifGap 33 = .ok (.ireturn, 1) := by decide +kernel
theorem dX5_ifGap_34 : decode cX5_ifGap 34 = .ok (.aload_n 0, 1) := by decide +kernel
theorem dX5_ifGap_35 : decode cX5_ifGap 35 = .ok (.iconst (-1), 1) := by decide +kernel
theorem dX5_ifGap_36 : decode cX5_ifGap 36 = .ok (.putfield 26, 3) := by decide +kernel
theorem dX5_ifGap_39 : decode cX5_ifGap 39 = .ok (.aload_n 0, 1) := by decide +kernel
theorem dX5_ifGap_40 : decode cX5_ifGap 40 = .ok (.iload_n 1, 1) := by decide +kernel
theorem dX5_ifGap_41 : decode cX5_ifGap 41 = .ok (.invokevirtual 101, 3) := by decide +kernel
theorem dX5_ifGap_44 : decode cX5_ifGap 44 = .ok (.ireturn, 1) := by decide +kernel
set_option maxRecDepth 20000 in
theorem ggX5_wrongOnes_X5_wordBehind : GoodIn wsX5_wrongOnes wsX5_wordBehind := goodIn_r _ [7, 2, 8, 9, 10, 6, 11, 12, 13, 14, 15, 16, 17, 18, 19, 20, 21, 22, 23, 1, 24, 25, 26, 27, 28, 29, 30, 31, 32, 33, 34, 35, 36, 37, 38, 39, 40, 41, 42, 43, 44, 45, 46, 47, 48, 49, 50, 51, 52, 53, 54, 55] (by decide +kernel) (by decide +kernel)
set_option maxRecDepth 20000 in
theorem gX5_wrongOnes_X5_wordBehind : GoodIn wsX5_wrongOnes (wsV RX5 101 RX5 yX5_wordBehind wsX5_wordBehind) := goodIn_app (goodIn_of _ (by decide +kernel)) ggX5_wrongOnes_X5_wordBehind
theorem dX5_wrongOnes_0 : decode cX5_wrongOnes 0 = .ok (.aload_n 0, 1) := by decide +kernel
theorem dX5_wrongOnes_1 : decode cX5_wrongOnes 1 = .ok (.iload_n 1, 1) := by decide +kernel
theorem dX5_wrongOnes_2 : decode cX5_wrongOnes 2 = .ok (.putfield 26, 3) := by decide +kernel
theorem dX5_wrongOnes_5 : decode cX5_wrongOnes 5 = .ok (.iconst 0, 1) := by decide +kernel
theorem dX5_wrongOnes_6 : decode cX5_wrongOnes 6 = .ok (.istore_n 2, 1) := by decide +kernel
theorem dX5_wrongOnes_7 : decode cX5_wrongOnes 7 = .ok (.iconst 0, 1) := by decide +kernel
theorem dX5_wrongOnes_8 : decode cX5_wrongOnes 8 = .ok (.istore_n 3, 1) := by decide +kernel
theorem dX5_wrongOnes_9 : decode cX5_wrongOnes 9 = .ok (.iload_n 3, 1) := by decide +kernel
theorem dX5_wrongOnes_10 : decode cX5_wrongOnes 10 = .ok (.bipush 8, 2) := by decide +kernel
theorem dX5_wrongOnes_12 : decode cX5_wrongOnes 12 = .ok (.if_icmp .ge 47, 3) := by decide +kernel
theorem dX5_wrongOnes_15 : decode cX5_wrongOnes 15 = .ok (.aload_n 0, 1) := by decide +kernel
theorem dX5_wrongOnes_16 : decode cX5_wrongOnes 16 = .ok (.getfield 7, 3) := by decide +kernel
theorem dX5_wrongOnes_19 : decode cX5_wrongOnes 19 = .ok (.iconst 0, 1) := by decide +kernel
theorem dX5_wrongOnes_20 : decode cX5_wrongOnes 20 = .ok (.iload_n 3, 1) := by decide +kernel
theorem dX5_wrongOnes_21 : decode cX5_wrongOnes 21 = .ok (.iadd, 1) := by decide +kernel
theorem dX5_wrongOnes_22 : decode cX5_wrongOnes 22 = .ok (.iaload, 1) := by decide +kernel
theorem dX5_wrongOnes_23 : decode cX5_wrongOnes 23 = .ok (.ifCond .ne 11, 3) := by decide +kernel
theorem dX5_wrongOnes_26 : decode cX5_wrongOnes 26 = .ok (.aload_n 0, 1) := by decide +kernel
theorem dX5_wrongOnes_27 : decode cX5_wrongOnes 27 = .ok (.iload_n 3, 1) := by decide +kernel
theorem dX5_wrongOnes_28 : decode cX5_wrongOnes 28 = .ok (.invokevirtual 101, 3) := by decide +kernel
theorem dX5_wrongOnes_31 : decode cX5_wrongOnes 31 = .ok (.goto 4, 3) := by decide +kernel
theorem dX5_wrongOnes_34 : decode cX5_wrongOnes 34 = .ok (.iconst 0, 1) := by decide +kernel
theorem dX5_wrongOnes_35 : decode cX5_wrongOnes 35 = .ok (.istore 4, 2) := by decide +kernel
theorem dX5_wrongOnes_37 : decode cX5_wrongOnes 37 = .ok (.iload_n 2, 1) := by decide +kernel
theorem dX5_wrongOnes_38 : decode cX5_wrongOnes 38 = .ok (.iload 4, 2) := by decide +kernel
theorem dX5_wrongOnes_40 : decode cX5_wrongOnes 40 = .ok (.iload_n 1, 1) := by decide +kernel
theorem dX5_wrongOnes_41 : decode cX5_wrongOnes 41 = .ok (.if_icmp .ne 7, 3) := by decide +kernel
theorem dX5_wrongOnes_44 : decode cX5_wrongOnes 44 = .ok (.iconst 0, 1) := by decide +kernel
theorem dX5_wrongOnes_45 : decode cX5_wrongOnes 45 = .ok (.goto 6, 3) := by decide +kernel
theorem dX5_wrongOnes_48 : decode cX5_wrongOnes 48 = .ok (.iconst 1, 1) := by decide +kernel
theorem dX5_wrongOnes_49 : decode cX5_wrongOnes 49 = .ok (.iload_n 3, 1) := by decide +kernel
theorem dX5_wrongOnes_50 : decode cX5_wrongOnes 50 = .ok (.ishl, 1) := by decide +kernel
theorem dX5_wrongOnes_51 : decode cX5_wrongOnes 51 = .ok (.ior, 1) := by decide +kernel
theorem dX5_wrongOnes_52 : decode cX5_wrongOnes 52 = .ok (.istore_n 2, 1) := by decide +kernel
theorem dX5_wrongOnes_53 : decode cX5_wrongOnes 53 = .ok (.iinc 3 1, 3) := by decide +kernel
theorem dX5_wrongOnes_56 : decode cX5_wrongOnes 56 = .ok (.goto (-47), 3) := by decide +kernel
theorem dX5_wrongOnes_59 : decode cX5_wrongOnes 59 = .ok (.aload_n 0, 1) := by decide +kernel
theorem dX5_wrongOnes_60 : decode cX5_wrongOnes 60 = .ok (.iconst (-1), 1) := by decide +kernel
theorem dX5_wrongOnes_61 : decode cX5_wrongOnes 61 = .ok (.putfield 26, 3) := by decide +kernel
theorem dX5_wrongOnes_64 : decode cX5_wrongOnes 64 = .ok (.iload_n 2, 1) := by decide +kernel
theorem dX5_wrongOnes_65 : decode cX5_wrongOnes 65 = .ok (.ireturn, 1) := by decide +kernel
set_option maxRecDepth 20000 in
theorem ggX5_wrong_X5_in : GoodIn wsX5_wrong wsX5_in := goodIn_r _ [4] (by decide +kernel) (by decide +kernel)
set_option maxRecDepth 20000 in
theorem gX5_wrong_X5_in : GoodIn wsX5_wrong (va_wsS RX5 36 yX5_in wsX5_in) := goodIn_app (goodIn_of _ (by decide +kernel)) ggX5_wrong_X5_in
set_option maxRecDepth 20000 in
theorem ggX5_wrong_X5_refused : GoodIn wsX5_wrong wsX5_refused := goodIn_r _ [8, 9, 55, 56, 57, 58, 59, 60, 61, 62, 63, 64, 65, 66, 67] (by decide +kernel) (by decide +kernel)
set_option maxRecDepth 20000 in
theorem gX5_wrong_X5_refused : GoodIn wsX5_wrong (wsV RX5 54 RX5 yX5_refused wsX5_refused) := goodIn_app (goodIn_of _ (by decide +kernel)) ggX5_wrong_X5_refused
set_option maxRecDepth 20000 in
theorem ggX5_wrong_X5_wrongOnes : GoodIn wsX5_wrong wsX5_wrongOnes := goodIn_r _ [13, 14, 15, 16, 17, 18, 3, 19, 20, 21, 22, 23, 24, 25, 26, 27, 28, 29, 30, 31, 32, 33, 34, 35, 36, 37, 38, 39, 40, 41, 42, 43, 44, 45, 46, 47, 48, 49, 50, 51, 52, 53, 54, 55, 56, 57, 58, 59, 60, 61, 62, 63, 64, 65, 66, 67] (by decide +kernel) (by decide +kernel)
set_option maxRecDepth 20000 in
theorem gX5_wrong_X5_wrongOnes : GoodIn wsX5_wrong (wsV RX5 160 RX5 yX5_wrongOnes wsX5_wrongOnes) := goodIn_app (goodIn_of _ (by decide +kernel)) ggX5_wrong_X5_wrongOnes
theorem dX5_wrong_0 : decode cX5_wrong 0 = .ok (.aload_n 0, 1) := by decide +kernel
theorem dX5_wrong_1 : decode cX5_wrong 1 = .ok (.iload_n 1, 1) := by decide +kernel
theorem dX5_wrong_2 : decode cX5_wrong 2 = .ok (.iconst 0, 1) := by decide +kernel
theorem dX5_wrong_3 : decode cX5_wrong 3 = .ok (.sipush 4095, 3) := by decide +kernel
theorem dX5_wrong_6 : decode cX5_wrong 6 = .ok (.invokestatic 36, 3) := by decide +kernel
theorem dX5_wrong_9 : decode cX5_wrong 9 = .ok (.ifCond .eq 7, 3) := by decide +kernel
theorem dX5_wrong_12 : decode cX5_wrong 12 = .ok (.iconst 0, 1) := by decide +kernel
theorem dX5_wrong_13 : decode cX5_wrong 13 = .ok (.goto 4, 3) := by decide +kernel
theorem dX5_wrong_16 : decode cX5_wrong 16 = .ok (.iconst 1, 1) := by decide +kernel
theorem dX5_wrong_17 : decode cX5_wrong 17 = .ok (.invokevirtual 54, 3) := by decide +kernel
theorem dX5_wrong_20 : decode cX5_wrong 20 = .ok (.ifCond .eq 7, 3) := by decide +kernel
theorem dX5_wrong_23 : decode cX5_wrong 23 = .ok (.iconst 0, 1) := by decide +kernel
theorem dX5_wrong_24 : decode cX5_wrong 24 = .ok (.goto 8, 3) := by decide +kernel
theorem dX5_wrong_27 : decode cX5_wrong 27 = .ok (.aload_n 0, 1) := by decide +kernel
theorem dX5_wrong_28 : decode cX5_wrong 28 = .ok (.iload_n 1, 1) := by decide +kernel
theorem dX5_wrong_29 : decode cX5_wrong 29 = .ok (.invokevirtual 160, 3) := by decide +kernel
theorem dX5_wrong_32 : decode cX5_wrong 32 = .ok (.ireturn, 1) := by decide +kernel
set_option maxRecDepth 20000 in
theorem ggX5_greatestLoss_X5_wrongOnes : GoodIn wsX5_greatestLoss wsX5_wrongOnes := goodIn_r _ [6, 7, 1, 8, 9, 10, 5, 11, 12, 13, 14, 15, 16, 17, 18, 19, 20, 21, 22, 23, 24, 25, 26, 27, 28, 29, 30, 31, 32, 33, 34, 35, 36, 37, 38, 39, 40, 41, 42, 43, 44, 45, 46, 47, 48, 49, 50, 51, 52, 53, 54, 55, 56, 57, 58, 59] (by decide +kernel) (by decide +kernel)
set_option maxRecDepth 20000 in
theorem gX5_greatestLoss_X5_wrongOnes : GoodIn wsX5_greatestLoss (wsV RX5 160 RX5 yX5_wrongOnes wsX5_wrongOnes) := goodIn_app (goodIn_of _ (by decide +kernel)) ggX5_greatestLoss_X5_wrongOnes
theorem dX5_greatestLoss_0 : decode cX5_greatestLoss 0 = .ok (.aload_n 0, 1) := by decide +kernel
theorem dX5_greatestLoss_1 : decode cX5_greatestLoss 1 = .ok (.getfield 7, 3) := by decide +kernel
theorem dX5_greatestLoss_4 : decode cX5_greatestLoss 4 = .ok (.bipush 8, 2) := by decide +kernel
theorem dX5_greatestLoss_6 : decode cX5_greatestLoss 6 = .ok (.iload_n 1, 1) := by decide +kernel
theorem dX5_greatestLoss_7 : decode cX5_greatestLoss 7 = .ok (.iadd, 1) := by decide +kernel
theorem dX5_greatestLoss_8 : decode cX5_greatestLoss 8 = .ok (.iaload, 1) := by decide +kernel
theorem dX5_greatestLoss_9 : decode cX5_greatestLoss 9 = .ok (.istore_n 2, 1) := by decide +kernel
theorem dX5_greatestLoss_10 : decode cX5_greatestLoss 10 = .ok (.iconst (-1), 1) := by decide +kernel
theorem dX5_greatestLoss_11 : decode cX5_greatestLoss 11 = .ok (.istore_n 3, 1) := by decide +kernel
theorem dX5_greatestLoss_12 : decode cX5_greatestLoss 12 = .ok (.iconst 0, 1) := by decide +kernel
theorem dX5_greatestLoss_13 : decode cX5_greatestLoss 13 = .ok (.istore 4, 2) := by decide +kernel
theorem dX5_greatestLoss_15 : decode cX5_greatestLoss 15 = .ok (.iload 4, 2) := by decide +kernel
theorem dX5_greatestLoss_17 : decode cX5_greatestLoss 17 = .ok (.bipush 7, 2) := by decide +kernel
theorem dX5_greatestLoss_19 : decode cX5_greatestLoss 19 = .ok (.if_icmp .ge 47, 3) := by decide +kernel
theorem dX5_greatestLoss_22 : decode cX5_greatestLoss 22 = .ok (.aload_n 0, 1) := by decide +kernel
theorem dX5_greatestLoss_23 : decode cX5_greatestLoss 23 = .ok (.getfield 7, 3) := by decide +kernel
theorem dX5_greatestLoss_26 : decode cX5_greatestLoss 26 = .ok (.bipush 8, 2) := by decide +kernel
theorem dX5_greatestLoss_28 : decode cX5_greatestLoss 28 = .ok (.iload_n 1, 1) := by decide +kernel
theorem dX5_greatestLoss_29 : decode cX5_greatestLoss 29 = .ok (.iadd, 1) := by decide +kernel
theorem dX5_greatestLoss_30 : decode cX5_greatestLoss 30 = .ok (.iload 4, 2) := by decide +kernel
theorem dX5_greatestLoss_32 : decode cX5_greatestLoss 32 = .ok (.iastore, 1) := by decide +kernel
theorem dX5_greatestLoss_33 : decode cX5_greatestLoss 33 = .ok (.aload_n 0, 1) := by decide +kernel
theorem dX5_greatestLoss_34 : decode cX5_greatestLoss 34 = .ok (.sipush 1365, 3) := by decide +kernel
theorem dX5_greatestLoss_37 : decode cX5_greatestLoss 37 = .ok (.invokevirtual 160, 3) := by decide +kernel
theorem dX5_greatestLoss_40 : decode cX5_greatestLoss 40 = .ok (.ifCond .ne 18, 3) := by decide +kernel
theorem dX5_greatestLoss_43 : decode cX5_greatestLoss 43 = .ok (.aload_n 0, 1) := by decide +kernel
theorem dX5_greatestLoss_44 : decode cX5_greatestLoss 44 = .ok (.sipush 2730, 3) := by decide +kernel
theorem dX5_greatestLoss_47 : decode cX5_greatestLoss 47 = .ok (.invokevirtual 160, 3) := by decide +kernel
theorem dX5_greatestLoss_50 : decode cX5_greatestLoss 50 = .ok (.ifCond .ne 8, 3) := by decide +kernel
theorem dX5_greatestLoss_53 : decode cX5_greatestLoss 53 = .ok (.iload 4, 2) := by decide +kernel
theorem dX5_greatestLoss_55 : decode cX5_greatestLoss 55 = .ok (.goto 4, 3) := by decide +kernel
theorem dX5_greatestLoss_58 : decode cX5_greatestLoss 58 = .ok (.iload_n 3, 1) := by decide +kernel
theorem dX5_greatestLoss_59 : decode cX5_greatestLoss 59 = .ok (.istore_n 3, 1) := by decide +kernel
theorem dX5_greatestLoss_60 : decode cX5_greatestLoss 60 = .ok (.iinc 4 1, 3) := by decide +kernel
theorem dX5_greatestLoss_63 : decode cX5_greatestLoss 63 = .ok (.goto (-48), 3) := by decide +kernel
theorem dX5_greatestLoss_66 : decode cX5_greatestLoss 66 = .ok (.aload_n 0, 1) := by decide +kernel
theorem dX5_greatestLoss_67 : decode cX5_greatestLoss 67 = .ok (.getfield 7, 3) := by decide +kernel
theorem dX5_greatestLoss_70 : decode cX5_greatestLoss 70 = .ok (.bipush 8, 2) := by decide +kernel
theorem dX5_greatestLoss_72 : decode cX5_greatestLoss 72 = .ok (.iload_n 1, 1) := by decide +kernel
theorem dX5_greatestLoss_73 : decode cX5_greatestLoss 73 = .ok (.iadd, 1) := by decide +kernel
theorem dX5_greatestLoss_74 : decode cX5_greatestLoss 74 = .ok (.iload_n 2, 1) := by decide +kernel
theorem dX5_greatestLoss_75 : decode cX5_greatestLoss 75 = .ok (.iastore, 1) := by decide +kernel
theorem dX5_greatestLoss_76 : decode cX5_greatestLoss 76 = .ok (.iload_n 3, 1) := by decide +kernel
theorem dX5_greatestLoss_77 : decode cX5_greatestLoss 77 = .ok (.ireturn, 1) := by decide +kernel
set_option maxRecDepth 20000 in
theorem ggX5_bears_X5_isLamp : GoodIn wsX5_bears wsX5_isLamp := goodIn_r _ [4, 5, 6, 3, 7] (by decide +kernel) (by decide +kernel)
set_option maxRecDepth 20000 in
theorem gX5_bears_X5_isLamp : GoodIn wsX5_bears (va_wsS RX5 50 yX5_isLamp wsX5_isLamp) := goodIn_app (goodIn_of _ (by decide +kernel)) ggX5_bears_X5_isLamp
set_option maxRecDepth 20000 in
theorem ggX5_bears_X5_refused : GoodIn wsX5_bears wsX5_refused := goodIn_r _ [11, 12, 62, 63, 64, 65, 66, 67, 68, 69, 70, 71, 72, 73, 74] (by decide +kernel) (by decide +kernel)
set_option maxRecDepth 20000 in
theorem gX5_bears_X5_refused : GoodIn wsX5_bears (wsV RX5 54 RX5 yX5_refused wsX5_refused) := goodIn_app (goodIn_of _ (by decide +kernel)) ggX5_bears_X5_refused
set_option maxRecDepth 20000 in
theorem ggX5_bears_X5_greatestLoss : GoodIn wsX5_bears wsX5_greatestLoss := goodIn_r _ [16, 17, 18, 19, 20, 3, 21, 22, 23, 24, 25, 26, 27, 28, 29, 30, 31, 32, 33, 34, 35, 36, 37, 38, 39, 40, 41, 42, 43, 44, 45, 46, 47, 48, 49, 50, 51, 52, 53, 54, 55, 56, 57, 58, 59, 60, 61, 62, 63, 64, 65, 66, 67, 68, 69, 70, 71, 72, 73, 74] (by decide +kernel) (by decide +kernel)
set_option maxRecDepth 20000 in
theorem gX5_bears_X5_greatestLoss : GoodIn wsX5_bears (wsV RX5 163 RX5 yX5_greatestLoss wsX5_greatestLoss) := goodIn_app (goodIn_of _ (by decide +kernel)) ggX5_bears_X5_greatestLoss
theorem dX5_bears_0 : decode cX5_bears 0 = .ok (.aload_n 0, 1) := by decide +kernel
theorem dX5_bears_1 : decode cX5_bears 1 = .ok (.iload_n 1, 1) := by decide +kernel
theorem dX5_bears_2 : decode cX5_bears 2 = .ok (.invokestatic 50, 3) := by decide +kernel
theorem dX5_bears_5 : decode cX5_bears 5 = .ok (.ifCond .eq 7, 3) := by decide +kernel
theorem dX5_bears_8 : decode cX5_bears 8 = .ok (.iconst 0, 1) := by decide +kernel
theorem dX5_bears_9 : decode cX5_bears 9 = .ok (.goto 4, 3) := by decide +kernel
theorem dX5_bears_12 : decode cX5_bears 12 = .ok (.iconst 1, 1) := by decide +kernel
theorem dX5_bears_13 : decode cX5_bears 13 = .ok (.invokevirtual 54, 3) := by decide +kernel
theorem dX5_bears_16 : decode cX5_bears 16 = .ok (.ifCond .eq 7, 3) := by decide +kernel
theorem dX5_bears_19 : decode cX5_bears 19 = .ok (.iconst 0, 1) := by decide +kernel
theorem dX5_bears_20 : decode cX5_bears 20 = .ok (.goto 8, 3) := by decide +kernel
theorem dX5_bears_23 : decode cX5_bears 23 = .ok (.aload_n 0, 1) := by decide +kernel
theorem dX5_bears_24 : decode cX5_bears 24 = .ok (.iload_n 1, 1) := by decide +kernel
theorem dX5_bears_25 : decode cX5_bears 25 = .ok (.invokevirtual 163, 3) := by decide +kernel
theorem dX5_bears_28 : decode cX5_bears 28 = .ok (.ireturn, 1) := by decide +kernel
set_option maxRecDepth 20000 in
theorem ggX5_brokenAt_X5_comes : GoodIn wsX5_brokenAt wsX5_comes := goodIn_r _ [7, 8, 9, 10, 6, 11, 2, 12, 13, 14, 15, 16, 17, 18, 19, 20, 21, 22, 23, 24, 25, 26, 27, 28, 29, 30, 31, 32, 33, 34, 35, 36, 37] (by decide +kernel) (by decide +kernel)
set_option maxRecDepth 20000 in
theorem gX5_brokenAt_X5_comes : GoodIn wsX5_brokenAt (wsV RX5 85 RX5 yX5_comes wsX5_comes) := goodIn_app (goodIn_of _ (by decide +kernel)) ggX5_brokenAt_X5_comes
theorem dX5_brokenAt_0 : decode cX5_brokenAt 0 = .ok (.aload_n 0, 1) := by decide +kernel
theorem dX5_brokenAt_1 : decode cX5_brokenAt 1 = .ok (.iconst 0, 1) := by decide +kernel
theorem dX5_brokenAt_2 : decode cX5_brokenAt 2 = .ok (.putfield 33, 3) := by decide +kernel
theorem dX5_brokenAt_5 : decode cX5_brokenAt 5 = .ok (.aload_n 0, 1) := by decide +kernel
theorem dX5_brokenAt_6 : decode cX5_brokenAt 6 = .ok (.iconst 0, 1) := by decide +kernel
theorem dX5_brokenAt_7 : decode cX5_brokenAt 7 = .ok (.putfield 26, 3) := by decide +kernel
theorem dX5_brokenAt_10 : decode cX5_brokenAt 10 = .ok (.iconst (-1), 1) := by decide +kernel
theorem dX5_brokenAt_11 : decode cX5_brokenAt 11 = .ok (.istore_n 1, 1) := by decide +kernel
theorem dX5_brokenAt_12 : decode cX5_brokenAt 12 = .ok (.bipush 7, 2) := by decide +kernel
theorem dX5_brokenAt_14 : decode cX5_brokenAt 14 = .ok (.istore_n 2, 1) := by decide +kernel
theorem dX5_brokenAt_15 : decode cX5_brokenAt 15 = .ok (.iload_n 2, 1) := by decide +kernel
theorem dX5_brokenAt_16 : decode cX5_brokenAt 16 = .ok (.ifCond .lt 23, 3) := by decide +kernel
theorem dX5_brokenAt_19 : decode cX5_brokenAt 19 = .ok (.aload_n 0, 1) := by decide +kernel
theorem dX5_brokenAt_20 : decode cX5_brokenAt 20 = .ok (.iload_n 2, 1) := by decide +kernel
theorem dX5_brokenAt_21 : decode cX5_brokenAt 21 = .ok (.invokevirtual 85, 3) := by decide +kernel
theorem dX5_brokenAt_24 : decode cX5_brokenAt 24 = .ok (.ifCond .ne 7, 3) := by decide +kernel
theorem dX5_brokenAt_27 : decode cX5_brokenAt 27 = .ok (.iload_n 2, 1) := by decide +kernel
theorem dX5_brokenAt_28 : decode cX5_brokenAt 28 = .ok (.goto 4, 3) := by decide +kernel
theorem dX5_brokenAt_31 : decode cX5_brokenAt 31 = .ok (.iload_n 1, 1) := by decide +kernel
theorem dX5_brokenAt_32 : decode cX5_brokenAt 32 = .ok (.istore_n 1, 1) := by decide +kernel
theorem dX5_brokenAt_33 : decode cX5_brokenAt 33 = .ok (.iinc 2 (-1), 3) := by decide +kernel
theorem dX5_brokenAt_36 : decode cX5_brokenAt 36 = .ok (.goto (-21), 3) := by decide +kernel
theorem dX5_brokenAt_39 : decode cX5_brokenAt 39 = .ok (.aload_n 0, 1) := by decide +kernel
theorem dX5_brokenAt_40 : decode cX5_brokenAt 40 = .ok (.iconst (-1), 1) := by decide +kernel
theorem dX5_brokenAt_41 : decode cX5_brokenAt 41 = .ok (.putfield 26, 3) := by decide +kernel
theorem dX5_brokenAt_44 : decode cX5_brokenAt 44 = .ok (.iload_n 1, 1) := by decide +kernel
theorem dX5_brokenAt_45 : decode cX5_brokenAt 45 = .ok (.ireturn, 1) := by decide +kernel
set_option maxRecDepth 20000 in
theorem ggX5_fewestWords_X5_isTaker : GoodIn wsX5_fewestWords wsX5_isTaker := goodIn_r _ [5, 6, 15, 16, 17, 18, 19, 20, 21, 22, 23, 24, 25, 26, 27] (by decide +kernel) (by decide +kernel)
set_option maxRecDepth 20000 in
theorem gX5_fewestWords_X5_isTaker : GoodIn wsX5_fewestWords (wsV RX5 68 RX5 yX5_isTaker wsX5_isTaker) := goodIn_app (goodIn_of _ (by decide +kernel)) ggX5_fewestWords_X5_isTaker
set_option maxRecDepth 20000 in
theorem ggX5_fewestWords_X5_isCut : GoodIn wsX5_fewestWords wsX5_isCut := goodIn_r _ [10, 6, 15, 16, 17, 18, 19, 20, 21, 22, 23, 24, 25, 26, 27] (by decide +kernel) (by decide +kernel)
set_option maxRecDepth 20000 in
theorem gX5_fewestWords_X5_isCut : GoodIn wsX5_fewestWords (wsV RX5 79 RX5 yX5_isCut wsX5_isCut) := goodIn_app (goodIn_of _ (by decide +kernel)) ggX5_fewestWords_X5_isCut
set_option maxRecDepth 20000 in
theorem ggX5_fewestWords_X5_takersAhead : GoodIn wsX5_fewestWords wsX5_takersAhead := goodIn_r _ [14, 1, 2, 3, 4, 5, 6, 15, 16, 17, 18, 19, 20, 21, 22, 23, 24, 25, 26, 27] (by decide +kernel) (by decide +kernel)
set_option maxRecDepth 20000 in
theorem gX5_fewestWords_X5_takersAhead : GoodIn wsX5_fewestWords (wsV RX5 75 RX5 yX5_takersAhead wsX5_takersAhead) := goodIn_app (goodIn_of _ (by decide +kernel)) ggX5_fewestWords_X5_takersAhead
theorem dX5_fewestWords_0 : decode cX5_fewestWords 0 = .ok (.aload_n 0, 1) := by decide +kernel
theorem dX5_fewestWords_1 : decode cX5_fewestWords 1 = .ok (.iload_n 1, 1) := by decide +kernel
theorem dX5_fewestWords_2 : decode cX5_fewestWords 2 = .ok (.invokevirtual 68, 3) := by decide +kernel
theorem dX5_fewestWords_5 : decode cX5_fewestWords 5 = .ok (.ifCond .eq 21, 3) := by decide +kernel
theorem dX5_fewestWords_8 : decode cX5_fewestWords 8 = .ok (.aload_n 0, 1) := by decide +kernel
theorem dX5_fewestWords_9 : decode cX5_fewestWords 9 = .ok (.iload_n 1, 1) := by decide +kernel
theorem dX5_fewestWords_10 : decode cX5_fewestWords 10 = .ok (.invokevirtual 79, 3) := by decide +kernel
theorem dX5_fewestWords_13 : decode cX5_fewestWords 13 = .ok (.ifCond .ne 13, 3) := by decide +kernel
theorem dX5_fewestWords_16 : decode cX5_fewestWords 16 = .ok (.aload_n 0, 1) := by decide +kernel
theorem dX5_fewestWords_17 : decode cX5_fewestWords 17 = .ok (.iload_n 1, 1) := by decide +kernel
theorem dX5_fewestWords_18 : decode cX5_fewestWords 18 = .ok (.invokevirtual 75, 3) := by decide +kernel
theorem dX5_fewestWords_21 : decode cX5_fewestWords 21 = .ok (.iconst 1, 1) := by decide +kernel
theorem dX5_fewestWords_22 : decode cX5_fewestWords 22 = .ok (.iadd, 1) := by decide +kernel
theorem dX5_fewestWords_23 : decode cX5_fewestWords 23 = .ok (.goto 4, 3) := by decide +kernel
theorem dX5_fewestWords_26 : decode cX5_fewestWords 26 = .ok (.iconst (-1), 1) := by decide +kernel
theorem dX5_fewestWords_27 : decode cX5_fewestWords 27 = .ok (.ireturn, 1) := by decide +kernel
set_option maxRecDepth 20000 in
theorem ggX5_wordsTo_X5_isLamp : GoodIn wsX5_wordsTo wsX5_isLamp := goodIn_r _ [4, 5, 6, 3, 7] (by decide +kernel) (by decide +kernel)
set_option maxRecDepth 20000 in
theorem gX5_wordsTo_X5_isLamp : GoodIn wsX5_wordsTo (va_wsS RX5 50 yX5_isLamp wsX5_isLamp) := goodIn_app (goodIn_of _ (by decide +kernel)) ggX5_wordsTo_X5_isLamp
set_option maxRecDepth 20000 in
theorem ggX5_wordsTo_X5_refused : GoodIn wsX5_wordsTo wsX5_refused := goodIn_r _ [11, 12, 30, 31, 32, 33, 34, 35, 36, 37, 38, 39, 40, 41, 42] (by decide +kernel) (by decide +kernel)
set_option maxRecDepth 20000 in
theorem gX5_wordsTo_X5_refused : GoodIn wsX5_wordsTo (wsV RX5 54 RX5 yX5_refused wsX5_refused) := goodIn_app (goodIn_of _ (by decide +kernel)) ggX5_wordsTo_X5_refused
set_option maxRecDepth 20000 in
theorem ggX5_wordsTo_X5_fewestWords : GoodIn wsX5_wordsTo wsX5_fewestWords := goodIn_r _ [16, 17, 18, 19, 3, 20, 21, 22, 23, 24, 25, 26, 27, 28, 29, 30, 31, 32, 33, 34, 35, 36, 37, 38, 39, 40, 41, 42] (by decide +kernel) (by decide +kernel)
set_option maxRecDepth 20000 in
theorem gX5_wordsTo_X5_fewestWords : GoodIn wsX5_wordsTo (wsV RX5 166 RX5 yX5_fewestWords wsX5_fewestWords) := goodIn_app (goodIn_of _ (by decide +kernel)) ggX5_wordsTo_X5_fewestWords
theorem dX5_wordsTo_0 : decode cX5_wordsTo 0 = .ok (.aload_n 0, 1) := by decide +kernel
theorem dX5_wordsTo_1 : decode cX5_wordsTo 1 = .ok (.iload_n 1, 1) := by decide +kernel
theorem dX5_wordsTo_2 : decode cX5_wordsTo 2 = .ok (.invokestatic 50, 3) := by decide +kernel
theorem dX5_wordsTo_5 : decode cX5_wordsTo 5 = .ok (.ifCond .eq 7, 3) := by decide +kernel
theorem dX5_wordsTo_8 : decode cX5_wordsTo 8 = .ok (.iconst 0, 1) := by decide +kernel
theorem dX5_wordsTo_9 : decode cX5_wordsTo 9 = .ok (.goto 4, 3) := by decide +kernel
theorem dX5_wordsTo_12 : decode cX5_wordsTo 12 = .ok (.iconst 1, 1) := by decide +kernel
theorem dX5_wordsTo_13 : decode cX5_wordsTo 13 = .ok (.invokevirtual 54, 3) := by decide +kernel
theorem dX5_wordsTo_16 : decode cX5_wordsTo 16 = .ok (.ifCond .eq 7, 3) := by decide +kernel
theorem dX5_wordsTo_19 : decode cX5_wordsTo 19 = .ok (.iconst 0, 1) := by decide +kernel
theorem dX5_wordsTo_20 : decode cX5_wordsTo 20 = .ok (.goto 8, 3) := by decide +kernel
theorem dX5_wordsTo_23 : decode cX5_wordsTo 23 = .ok (.aload_n 0, 1) := by decide +kernel
theorem dX5_wordsTo_24 : decode cX5_wordsTo 24 = .ok (.iload_n 1, 1) := by decide +kernel
theorem dX5_wordsTo_25 : decode cX5_wordsTo 25 = .ok (.invokevirtual 166, 3) := by decide +kernel
theorem dX5_wordsTo_28 : decode cX5_wordsTo 28 = .ok (.ireturn, 1) := by decide +kernel
set_option maxRecDepth 20000 in
theorem ggX5_brightness_X5_allShown : GoodIn wsX5_brightness wsX5_allShown := goodIn_r _ [7, 8, 9, 10, 6, 11, 12, 13, 14, 15, 16, 17, 18, 19, 20, 21, 22, 23, 24, 25, 26, 27, 28, 29, 30, 31, 32] (by decide +kernel) (by decide +kernel)
set_option maxRecDepth 20000 in
theorem gX5_brightness_X5_allShown : GoodIn wsX5_brightness (wsV RX5 151 RX5 yX5_allShown wsX5_allShown) := goodIn_app (goodIn_of _ (by decide +kernel)) ggX5_brightness_X5_allShown
theorem dX5_brightness_0 : decode cX5_brightness 0 = .ok (.aload_n 0, 1) := by decide +kernel
theorem dX5_brightness_1 : decode cX5_brightness 1 = .ok (.iconst 0, 1) := by decide +kernel
theorem dX5_brightness_2 : decode cX5_brightness 2 = .ok (.putfield 33, 3) := by decide +kernel
theorem dX5_brightness_5 : decode cX5_brightness 5 = .ok (.aload_n 0, 1) := by decide +kernel
theorem dX5_brightness_6 : decode cX5_brightness 6 = .ok (.invokevirtual 151, 3) := by decide +kernel
theorem dX5_brightness_9 : decode cX5_brightness 9 = .ok (.i2d, 1) := by decide +kernel
theorem dX5_brightness_10 : decode cX5_brightness 10 = .ok (.dstore_n 1, 1) := by decide +kernel
theorem dX5_brightness_11 : decode cX5_brightness 11 = .ok (.dload_n 1, 1) := by decide +kernel
theorem dX5_brightness_12 : decode cX5_brightness 12 = .ok (.ldc2_w 169, 3) := by decide +kernel
theorem dX5_brightness_15 : decode cX5_brightness 15 = .ok (.ddiv, 1) := by decide +kernel
theorem dX5_brightness_16 : decode cX5_brightness 16 = .ok (.dreturn, 1) := by decide +kernel
set_option maxRecDepth 20000 in
theorem ggX5_digest_X5_number : GoodIn wsX5_digest wsX5_number := goodIn_r _ [13, 4, 14, 15, 16, 17, 12, 18, 19, 20, 21, 22, 23, 24, 25, 26, 27, 28, 29, 30, 31, 32, 33, 110, 111, 112, 113, 114, 115, 116, 117, 118, 119, 120, 121, 122] (by decide +kernel) (by decide +kernel)
set_option maxRecDepth 20000 in
theorem gX5_digest_X5_number : GoodIn wsX5_digest (wsV RX5 157 RX5 yX5_number wsX5_number) := goodIn_app (goodIn_of _ (by decide +kernel)) ggX5_digest_X5_number
set_option maxRecDepth 20000 in
theorem ggX5_digest_X5_aboutLamp : GoodIn wsX5_digest wsX5_aboutLamp := goodIn_r _ [37, 4, 26, 27, 28, 12, 29, 15, 16, 17, 18, 19, 20, 21, 110, 111, 112, 113, 114, 115, 116, 117, 118, 119, 120, 121, 122] (by decide +kernel) (by decide +kernel)
set_option maxRecDepth 20000 in
theorem gX5_digest_X5_aboutLamp : GoodIn wsX5_digest (wsV RX5 148 RX5 yX5_aboutLamp wsX5_aboutLamp) := goodIn_app (goodIn_of _ (by decide +kernel)) ggX5_digest_X5_aboutLamp
set_option maxRecDepth 20000 in
theorem ggX5_digest_X5_wordBehind : GoodIn wsX5_digest wsX5_wordBehind := goodIn_r _ [41, 4, 42, 43, 44, 12, 45, 46, 47, 48, 49, 50, 51, 52, 53, 54, 55, 56, 57, 5, 58, 59, 60, 61, 62, 63, 64, 65, 66, 67, 68, 69, 70, 71, 72, 73, 74, 75, 76, 110, 111, 112, 113, 114, 115, 116, 117, 118, 119, 120, 121, 122] (by decide +kernel) (by decide +kernel)
set_option maxRecDepth 20000 in
theorem gX5_digest_X5_wordBehind : GoodIn wsX5_digest (wsV RX5 101 RX5 yX5_wordBehind wsX5_wordBehind) := goodIn_app (goodIn_of _ (by decide +kernel)) ggX5_digest_X5_wordBehind
set_option maxRecDepth 20000 in
theorem ggX5_digest_X5_greatestLoss : GoodIn wsX5_digest wsX5_greatestLoss := goodIn_r _ [80, 4, 81, 82, 83, 12, 84, 5, 38, 39, 40, 41, 42, 43, 44, 45, 46, 47, 48, 49, 50, 51, 52, 53, 54, 55, 56, 57, 58, 59, 60, 61, 62, 63, 64, 65, 66, 67, 68, 69, 70, 71, 72, 73, 74, 75, 76, 110, 111, 112, 113, 114, 115, 116, 117, 118, 119, 120, 121, 122] (by decide +kernel) (by decide +kernel)
set_option maxRecDepth 20000 in
theorem gX5_digest_X5_greatestLoss : GoodIn wsX5_digest (wsV RX5 163 RX5 yX5_greatestLoss wsX5_greatestLoss) := goodIn_app (goodIn_of _ (by decide +kernel)) ggX5_digest_X5_greatestLoss
set_option maxRecDepth 20000 in
theorem ggX5_digest_X5_fewestWords : GoodIn wsX5_digest wsX5_fewestWords := goodIn_r _ [88, 46, 47, 48, 12, 49, 4, 62, 63, 64, 65, 58, 59, 60, 61, 110, 111, 112, 113, 114, 115, 116, 117, 118, 119, 120, 121, 122] (by decide +kernel) (by decide +kernel)
set_option maxRecDepth 20000 in
theorem gX5_digest_X5_fewestWords : GoodIn wsX5_digest (wsV RX5 166 RX5 yX5_fewestWords wsX5_fewestWords) := goodIn_app (goodIn_of _ (by decide +kernel)) ggX5_digest_X5_fewestWords
set_option maxRecDepth 20000 in
theorem ggX5_digest_X5_wrongOnes : GoodIn wsX5_digest wsX5_wrongOnes := goodIn_r _ [84, 5, 4, 38, 39, 40, 12, 41, 42, 43, 44, 45, 46, 47, 48, 49, 50, 51, 52, 53, 54, 55, 56, 57, 58, 59, 60, 61, 62, 63, 64, 65, 66, 67, 68, 69, 70, 71, 72, 73, 74, 75, 76, 110, 111, 112, 113, 114, 115, 116, 117, 118, 119, 120, 121, 122] (by decide +kernel) (by decide +kernel)
set_option maxRecDepth 20000 in
theorem gX5_digest_X5_wrongOnes : GoodIn wsX5_digest (wsV RX5 160 RX5 yX5_wrongOnes wsX5_wrongOnes) := goodIn_app (goodIn_of _ (by decide +kernel)) ggX5_digest_X5_wrongOnes
set_option maxRecDepth 20000 in
theorem ggX5_digest_X5_brokenAt : GoodIn wsX5_digest wsX5_brokenAt := goodIn_r _ [92, 1, 5, 50, 51, 52, 12, 53, 54, 55, 56, 57, 4, 58, 59, 60, 61, 46, 47, 48, 49, 62, 63, 64, 65, 110, 111, 112, 113, 114, 115, 116, 117, 118, 119, 120, 121, 122] (by decide +kernel) (by decide +kernel)
set_option maxRecDepth 20000 in
theorem gX5_digest_X5_brokenAt : GoodIn wsX5_digest (wsV RX5 175 RX5 yX5_brokenAt wsX5_brokenAt) := goodIn_app (goodIn_of _ (by decide +kernel)) ggX5_digest_X5_brokenAt
set_option maxRecDepth 20000 in
theorem ggX5_digest_X5_brightness : GoodIn wsX5_digest wsX5_brightness := goodIn_r _ [96, 1, 97, 22, 23, 24, 12, 25, 26, 27, 28, 29, 4, 15, 16, 17, 18, 19, 20, 21, 110, 111, 112, 113, 114, 115, 116, 117, 118, 119, 120, 121, 122] (by decide +kernel) (by decide +kernel)
set_option maxRecDepth 20000 in
theorem gX5_digest_X5_brightness : GoodIn wsX5_digest (wsV RX5 178 RX5 yX5_brightness wsX5_brightness) := goodIn_app (goodIn_of _ (by decide +kernel)) ggX5_digest_X5_brightness
set_option maxRecDepth 20000 in
theorem ggX5_digest_Jxe99ae_doubleToLongBits_ccdee : GoodIn wsX5_digest wsJxe99ae_doubleToLongBits_ccdee := goodIn_r _ [101, 102, 103, 104, 105, 106, 107, 108, 100, 109] (by decide +kernel) (by decide +kernel)
set_option maxRecDepth 20000 in
theorem gX5_digest_Jxe99ae_doubleToLongBits_ccdee : GoodIn wsX5_digest (va_wsS RX5 182 yJxe99ae_doubleToLongBits_ccdee wsJxe99ae_doubleToLongBits_ccdee) := goodIn_app (goodIn_of _ (by decide +kernel)) ggX5_digest_Jxe99ae_doubleToLongBits_ccdee
theorem dX5_digest_0 : decode cX5_digest 0 = .ok (.aload_n 0, 1) := by decide +kernel
theorem dX5_digest_1 : decode cX5_digest 1 = .ok (.iconst 0, 1) := by decide +kernel
theorem dX5_digest_2 : decode cX5_digest 2 = .ok (.putfield 33, 3) := by decide +kernel
theorem dX5_digest_5 : decode cX5_digest 5 = .ok (.ldc2_w 171, 3) := by decide +kernel
theorem dX5_digest_8 : decode cX5_digest 8 = .ok (.lstore_n 1, 1) := by decide +kernel
theorem dX5_digest_9 : decode cX5_digest 9 = .ok (.iconst 0, 1) := by decide +kernel
theorem dX5_digest_10 : decode cX5_digest 10 = .ok (.istore_n 3, 1) := by decide +kernel
theorem dX5_digest_11 : decode cX5_digest 11 = .ok (.iload_n 3, 1) := by decide +kernel
theorem dX5_digest_12 : decode cX5_digest 12 = .ok (.bipush 11, 2) := by decide +kernel
theorem dX5_digest_14 : decode cX5_digest 14 = .ok (.if_icmp .ge 22, 3) := by decide +kernel
theorem dX5_digest_17 : decode cX5_digest 17 = .ok (.ldc2_w 173, 3) := by decide +kernel
theorem dX5_digest_20 : decode cX5_digest 20 = .ok (.lload_n 1, 1) := by decide +kernel
theorem dX5_digest_21 : decode cX5_digest 21 = .ok (.lmul, 1) := by decide +kernel
theorem dX5_digest_22 : decode cX5_digest 22 = .ok (.aload_n 0, 1) := by decide +kernel
theorem dX5_digest_23 : decode cX5_digest 23 = .ok (.iload_n 3, 1) := by decide +kernel
theorem dX5_digest_24 : decode cX5_digest 24 = .ok (.invokevirtual 157, 3) := by decide +kernel
theorem dX5_digest_27 : decode cX5_digest 27 = .ok (.i2l, 1) := by decide +kernel
theorem dX5_digest_28 : decode cX5_digest 28 = .ok (.ladd, 1) := by decide +kernel
theorem dX5_digest_29 : decode cX5_digest 29 = .ok (.lstore_n 1, 1) := by decide +kernel
theorem dX5_digest_30 : decode cX5_digest 30 = .ok (.iinc 3 1, 3) := by decide +kernel
theorem dX5_digest_33 : decode cX5_digest 33 = .ok (.goto (-22), 3) := by decide +kernel
theorem dX5_digest_36 : decode cX5_digest 36 = .ok (.iconst 0, 1) := by decide +kernel
theorem dX5_digest_37 : decode cX5_digest 37 = .ok (.istore_n 3, 1) := by decide +kernel
theorem dX5_digest_38 : decode cX5_digest 38 = .ok (.iload_n 3, 1) := by decide +kernel
theorem dX5_digest_39 : decode cX5_digest 39 = .ok (.iconst 3, 1) := by decide +kernel
theorem dX5_digest_40 : decode cX5_digest 40 = .ok (.if_icmp .ge 26, 3) := by decide +kernel
theorem dX5_digest_43 : decode cX5_digest 43 = .ok (.ldc2_w 173, 3) := by decide +kernel
theorem dX5_digest_46 : decode cX5_digest 46 = .ok (.lload_n 1, 1) := by decide +kernel
theorem dX5_digest_47 : decode cX5_digest 47 = .ok (.lmul, 1) := by decide +kernel
theorem dX5_digest_48 : decode cX5_digest 48 = .ok (.aload_n 0, 1) := by decide +kernel
theorem dX5_digest_49 : decode cX5_digest 49 = .ok (.getfield 7, 3) := by decide +kernel
theorem dX5_digest_52 : decode cX5_digest 52 = .ok (.bipush 40, 2) := by decide +kernel
theorem dX5_digest_54 : decode cX5_digest 54 = .ok (.iload_n 3, 1) := by decide +kernel
theorem dX5_digest_55 : decode cX5_digest 55 = .ok (.iadd, 1) := by decide +kernel
theorem dX5_digest_56 : decode cX5_digest 56 = .ok (.iaload, 1) := by decide +kernel
theorem dX5_digest_57 : decode cX5_digest 57 = .ok (.i2l, 1) := by decide +kernel
theorem dX5_digest_58 : decode cX5_digest 58 = .ok (.ladd, 1) := by decide +kernel
theorem dX5_digest_59 : decode cX5_digest 59 = .ok (.lstore_n 1, 1) := by decide +kernel
theorem dX5_digest_60 : decode cX5_digest 60 = .ok (.iinc 3 1, 3) := by decide +kernel
theorem dX5_digest_63 : decode cX5_digest 63 = .ok (.goto (-25), 3) := by decide +kernel
theorem dX5_digest_66 : decode cX5_digest 66 = .ok (.aload_n 0, 1) := by decide +kernel
theorem dX5_digest_67 : decode cX5_digest 67 = .ok (.iconst (-1), 1) := by decide +kernel
theorem dX5_digest_68 : decode cX5_digest 68 = .ok (.putfield 26, 3) := by decide +kernel
theorem dX5_digest_71 : decode cX5_digest 71 = .ok (.iconst 0, 1) := by decide +kernel
theorem dX5_digest_72 : decode cX5_digest 72 = .ok (.istore_n 3, 1) := by decide +kernel
theorem dX5_digest_73 : decode cX5_digest 73 = .ok (.iload_n 3, 1) := by decide +kernel
theorem dX5_digest_74 : decode cX5_digest 74 = .ok (.bipush 8, 2) := by decide +kernel
theorem dX5_digest_76 : decode cX5_digest 76 = .ok (.if_icmp .ge 92, 3) := by decide +kernel
theorem dX5_digest_79 : decode cX5_digest 79 = .ok (.iconst 0, 1) := by decide +kernel
theorem dX5_digest_80 : decode cX5_digest 80 = .ok (.istore 4, 2) := by decide +kernel
theorem dX5_digest_82 : decode cX5_digest 82 = .ok (.iload 4, 2) := by decide +kernel
theorem dX5_digest_84 : decode cX5_digest 84 = .ok (.bipush 8, 2) := by decide +kernel
theorem dX5_digest_86 : decode cX5_digest 86 = .ok (.if_icmp .ge 24, 3) := by decide +kernel
theorem dX5_digest_89 : decode cX5_digest 89 = .ok (.ldc2_w 173, 3) := by decide +kernel
theorem dX5_digest_92 : decode cX5_digest 92 = .ok (.lload_n 1, 1) := by decide +kernel
theorem dX5_digest_93 : decode cX5_digest 93 = .ok (.lmul, 1) := by decide +kernel
theorem dX5_digest_94 : decode cX5_digest 94 = .ok (.aload_n 0, 1) := by decide +kernel
theorem dX5_digest_95 : decode cX5_digest 95 = .ok (.iload_n 3, 1) := by decide +kernel
theorem dX5_digest_96 : decode cX5_digest 96 = .ok (.iload 4, 2) := by decide +kernel
theorem dX5_digest_98 : decode cX5_digest 98 = .ok (.invokevirtual 148, 3) := by decide +kernel
theorem dX5_digest_101 : decode cX5_digest 101 = .ok (.i2l, 1) := by decide +kernel
theorem dX5_digest_102 : decode cX5_digest 102 = .ok (.ladd, 1) := by decide +kernel
theorem dX5_digest_103 : decode cX5_digest 103 = .ok (.lstore_n 1, 1) := by decide +kernel
theorem dX5_digest_104 : decode cX5_digest 104 = .ok (.iinc 4 1, 3) := by decide +kernel
theorem dX5_digest_107 : decode cX5_digest 107 = .ok (.goto (-25), 3) := by decide +kernel
theorem dX5_digest_110 : decode cX5_digest 110 = .ok (.ldc2_w 173, 3) := by decide +kernel
theorem dX5_digest_113 : decode cX5_digest 113 = .ok (.lload_n 1, 1) := by decide +kernel
theorem dX5_digest_114 : decode cX5_digest 114 = .ok (.lmul, 1) := by decide +kernel
theorem dX5_digest_115 : decode cX5_digest 115 = .ok (.aload_n 0, 1) := by decide +kernel
theorem dX5_digest_116 : decode cX5_digest 116 = .ok (.iload_n 3, 1) := by decide +kernel
theorem dX5_digest_117 : decode cX5_digest 117 = .ok (.invokevirtual 101, 3) := by decide +kernel
theorem dX5_digest_120 : decode cX5_digest 120 = .ok (.i2l, 1) := by decide +kernel
theorem dX5_digest_121 : decode cX5_digest 121 = .ok (.ladd, 1) := by decide +kernel
theorem dX5_digest_122 : decode cX5_digest 122 = .ok (.lstore_n 1, 1) := by decide +kernel
theorem dX5_digest_123 : decode cX5_digest 123 = .ok (.ldc2_w 173, 3) := by decide +kernel
theorem dX5_digest_126 : decode cX5_digest 126 = .ok (.lload_n 1, 1) := by decide +kernel
theorem dX5_digest_127 : decode cX5_digest 127 = .ok (.lmul, 1) := by decide +kernel
theorem dX5_digest_128 : decode cX5_digest 128 = .ok (.aload_n 0, 1) := by decide +kernel
theorem dX5_digest_129 : decode cX5_digest 129 = .ok (.iload_n 3, 1) := by decide +kernel
theorem dX5_digest_130 : decode cX5_digest 130 = .ok (.invokevirtual 101, 3) := by decide +kernel
theorem dX5_digest_133 : decode cX5_digest 133 = .ok (.i2l, 1) := by decide +kernel
theorem dX5_digest_134 : decode cX5_digest 134 = .ok (.ladd, 1) := by decide +kernel
theorem dX5_digest_135 : decode cX5_digest 135 = .ok (.lstore_n 1, 1) := by decide +kernel
theorem dX5_digest_136 : decode cX5_digest 136 = .ok (.ldc2_w 173, 3) := by decide +kernel
theorem dX5_digest_139 : decode cX5_digest 139 = .ok (.lload_n 1, 1) := by decide +kernel
theorem dX5_digest_140 : decode cX5_digest 140 = .ok (.lmul, 1) := by decide +kernel
theorem dX5_digest_141 : decode cX5_digest 141 = .ok (.aload_n 0, 1) := by decide +kernel
theorem dX5_digest_142 : decode cX5_digest 142 = .ok (.iload_n 3, 1) := by decide +kernel
theorem dX5_digest_143 : decode cX5_digest 143 = .ok (.invokevirtual 163, 3) := by decide +kernel
theorem dX5_digest_146 : decode cX5_digest 146 = .ok (.i2l, 1) := by decide +kernel
theorem dX5_digest_147 : decode cX5_digest 147 = .ok (.ladd, 1) := by decide +kernel
theorem dX5_digest_148 : decode cX5_digest 148 = .ok (.lstore_n 1, 1) := by decide +kernel
theorem dX5_digest_149 : decode cX5_digest 149 = .ok (.ldc2_w 173, 3) := by decide +kernel
theorem dX5_digest_152 : decode cX5_digest 152 = .ok (.lload_n 1, 1) := by decide +kernel
theorem dX5_digest_153 : decode cX5_digest 153 = .ok (.lmul, 1) := by decide +kernel
theorem dX5_digest_154 : decode cX5_digest 154 = .ok (.aload_n 0, 1) := by decide +kernel
theorem dX5_digest_155 : decode cX5_digest 155 = .ok (.iload_n 3, 1) := by decide +kernel
theorem dX5_digest_156 : decode cX5_digest 156 = .ok (.invokevirtual 166, 3) := by decide +kernel
theorem dX5_digest_159 : decode cX5_digest 159 = .ok (.i2l, 1) := by decide +kernel
theorem dX5_digest_160 : decode cX5_digest 160 = .ok (.ladd, 1) := by decide +kernel
theorem dX5_digest_161 : decode cX5_digest 161 = .ok (.lstore_n 1, 1) := by decide +kernel
theorem dX5_digest_162 : decode cX5_digest 162 = .ok (.iinc 3 1, 3) := by decide +kernel
theorem dX5_digest_165 : decode cX5_digest 165 = .ok (.goto (-92), 3) := by decide +kernel
theorem dX5_digest_168 : decode cX5_digest 168 = .ok (.iconst 0, 1) := by decide +kernel
theorem dX5_digest_169 : decode cX5_digest 169 = .ok (.istore_n 3, 1) := by decide +kernel
theorem dX5_digest_170 : decode cX5_digest 170 = .ok (.iload_n 3, 1) := by decide +kernel
theorem dX5_digest_171 : decode cX5_digest 171 = .ok (.aload_n 0, 1) := by decide +kernel
theorem dX5_digest_172 : decode cX5_digest 172 = .ok (.getfield 7, 3) := by decide +kernel
theorem dX5_digest_175 : decode cX5_digest 175 = .ok (.bipush 49, 2) := by decide +kernel
theorem dX5_digest_177 : decode cX5_digest 177 = .ok (.iaload, 1) := by decide +kernel
theorem dX5_digest_178 : decode cX5_digest 178 = .ok (.if_icmp .ge 26, 3) := by decide +kernel
theorem dX5_digest_181 : decode cX5_digest 181 = .ok (.ldc2_w 173, 3) := by decide +kernel
theorem dX5_digest_184 : decode cX5_digest 184 = .ok (.lload_n 1, 1) := by decide +kernel
theorem dX5_digest_185 : decode cX5_digest 185 = .ok (.lmul, 1) := by decide +kernel
theorem dX5_digest_186 : decode cX5_digest 186 = .ok (.aload_n 0, 1) := by decide +kernel
theorem dX5_digest_187 : decode cX5_digest 187 = .ok (.getfield 7, 3) := by decide +kernel
theorem dX5_digest_190 : decode cX5_digest 190 = .ok (.bipush 50, 2) := by decide +kernel
theorem dX5_digest_192 : decode cX5_digest 192 = .ok (.iload_n 3, 1) := by decide +kernel
theorem dX5_digest_193 : decode cX5_digest 193 = .ok (.iadd, 1) := by decide +kernel
theorem dX5_digest_194 : decode cX5_digest 194 = .ok (.iaload, 1) := by decide +kernel
theorem dX5_digest_195 : decode cX5_digest 195 = .ok (.i2l, 1) := by decide +kernel
theorem dX5_digest_196 : decode cX5_digest 196 = .ok (.ladd, 1) := by decide +kernel
theorem dX5_digest_197 : decode cX5_digest 197 = .ok (.lstore_n 1, 1) := by decide +kernel
theorem dX5_digest_198 : decode cX5_digest 198 = .ok (.iinc 3 1, 3) := by decide +kernel
theorem dX5_digest_201 : decode cX5_digest 201 = .ok (.goto (-31), 3) := by decide +kernel
theorem dX5_digest_204 : decode cX5_digest 204 = .ok (.ldc2_w 173, 3) := by decide +kernel
theorem dX5_digest_207 : decode cX5_digest 207 = .ok (.lload_n 1, 1) := by decide +kernel
theorem dX5_digest_208 : decode cX5_digest 208 = .ok (.lmul, 1) := by decide +kernel
theorem dX5_digest_209 : decode cX5_digest 209 = .ok (.aload_n 0, 1) := by decide +kernel
theorem dX5_digest_210 : decode cX5_digest 210 = .ok (.sipush 1365, 3) := by decide +kernel
theorem dX5_digest_213 : decode cX5_digest 213 = .ok (.invokevirtual 160, 3) := by decide +kernel
theorem dX5_digest_216 : decode cX5_digest 216 = .ok (.i2l, 1) := by decide +kernel
theorem dX5_digest_217 : decode cX5_digest 217 = .ok (.ladd, 1) := by decide +kernel
theorem dX5_digest_218 : decode cX5_digest 218 = .ok (.lstore_n 1, 1) := by decide +kernel
theorem dX5_digest_219 : decode cX5_digest 219 = .ok (.ldc2_w 173, 3) := by decide +kernel
theorem dX5_digest_222 : decode cX5_digest 222 = .ok (.lload_n 1, 1) := by decide +kernel
theorem dX5_digest_223 : decode cX5_digest 223 = .ok (.lmul, 1) := by decide +kernel
theorem dX5_digest_224 : decode cX5_digest 224 = .ok (.aload_n 0, 1) := by decide +kernel
theorem dX5_digest_225 : decode cX5_digest 225 = .ok (.sipush 4095, 3) := by decide +kernel
theorem dX5_digest_228 : decode cX5_digest 228 = .ok (.invokevirtual 160, 3) := by decide +kernel
theorem dX5_digest_231 : decode cX5_digest 231 = .ok (.i2l, 1) := by decide +kernel
theorem dX5_digest_232 : decode cX5_digest 232 = .ok (.ladd, 1) := by decide +kernel
theorem dX5_digest_233 : decode cX5_digest 233 = .ok (.lstore_n 1, 1) := by decide +kernel
theorem dX5_digest_234 : decode cX5_digest 234 = .ok (.ldc2_w 173, 3) := by decide +kernel
theorem dX5_digest_237 : decode cX5_digest 237 = .ok (.lload_n 1, 1) := by decide +kernel
theorem dX5_digest_238 : decode cX5_digest 238 = .ok (.lmul, 1) := by decide +kernel
theorem dX5_digest_239 : decode cX5_digest 239 = .ok (.aload_n 0, 1) := by decide +kernel
theorem dX5_digest_240 : decode cX5_digest 240 = .ok (.invokevirtual 175, 3) := by decide +kernel
theorem dX5_digest_243 : decode cX5_digest 243 = .ok (.i2l, 1) := by decide +kernel
theorem dX5_digest_244 : decode cX5_digest 244 = .ok (.ladd, 1) := by decide +kernel
theorem dX5_digest_245 : decode cX5_digest 245 = .ok (.lstore_n 1, 1) := by decide +kernel
theorem dX5_digest_246 : decode cX5_digest 246 = .ok (.ldc2_w 173, 3) := by decide +kernel
theorem dX5_digest_249 : decode cX5_digest 249 = .ok (.lload_n 1, 1) := by decide +kernel
theorem dX5_digest_250 : decode cX5_digest 250 = .ok (.lmul, 1) := by decide +kernel
theorem dX5_digest_251 : decode cX5_digest 251 = .ok (.aload_n 0, 1) := by decide +kernel
theorem dX5_digest_252 : decode cX5_digest 252 = .ok (.invokevirtual 178, 3) := by decide +kernel
theorem dX5_digest_255 : decode cX5_digest 255 = .ok (.invokestatic 182, 3) := by decide +kernel
theorem dX5_digest_258 : decode cX5_digest 258 = .ok (.ladd, 1) := by decide +kernel
theorem dX5_digest_259 : decode cX5_digest 259 = .ok (.lstore_n 1, 1) := by decide +kernel
theorem dX5_digest_260 : decode cX5_digest 260 = .ok (.iconst 0, 1) := by decide +kernel
theorem dX5_digest_261 : decode cX5_digest 261 = .ok (.istore_n 3, 1) := by decide +kernel
theorem dX5_digest_262 : decode cX5_digest 262 = .ok (.iload_n 3, 1) := by decide +kernel
theorem dX5_digest_263 : decode cX5_digest 263 = .ok (.iconst 2, 1) := by decide +kernel
theorem dX5_digest_264 : decode cX5_digest 264 = .ok (.if_icmp .ge 30, 3) := by decide +kernel
theorem dX5_digest_267 : decode cX5_digest 267 = .ok (.ldc2_w 173, 3) := by decide +kernel
theorem dX5_digest_270 : decode cX5_digest 270 = .ok (.lload_n 1, 1) := by decide +kernel
theorem dX5_digest_271 : decode cX5_digest 271 = .ok (.lmul, 1) := by decide +kernel
theorem dX5_digest_272 : decode cX5_digest 272 = .ok (.aload_n 0, 1) := by decide +kernel
theorem dX5_digest_273 : decode cX5_digest 273 = .ok (.getfield 19, 3) := by decide +kernel
theorem dX5_digest_276 : decode cX5_digest 276 = .ok (.iload_n 3, 1) := by decide +kernel
theorem dX5_digest_277 : decode cX5_digest 277 = .ok (.baload, 1) := by decide +kernel
theorem dX5_digest_278 : decode cX5_digest 278 = .ok (.ifCond .eq 7, 3) := by decide +kernel
theorem dX5_digest_281 : decode cX5_digest 281 = .ok (.lconst 1, 1) := by decide +kernel
theorem dX5_digest_282 : decode cX5_digest 282 = .ok (.goto 4, 3) := by decide +kernel
theorem dX5_digest_285 : decode cX5_digest 285 = .ok (.lconst 0, 1) := by decide +kernel
theorem dX5_digest_286 : decode cX5_digest 286 = .ok (.ladd, 1) := by decide +kernel
theorem dX5_digest_287 : decode cX5_digest 287 = .ok (.lstore_n 1, 1) := by decide +kernel
theorem dX5_digest_288 : decode cX5_digest 288 = .ok (.iinc 3 1, 3) := by decide +kernel
theorem dX5_digest_291 : decode cX5_digest 291 = .ok (.goto (-29), 3) := by decide +kernel
theorem dX5_digest_294 : decode cX5_digest 294 = .ok (.ldc2_w 173, 3) := by decide +kernel
theorem dX5_digest_297 : decode cX5_digest 297 = .ok (.lload_n 1, 1) := by decide +kernel
theorem dX5_digest_298 : decode cX5_digest 298 = .ok (.lmul, 1) := by decide +kernel
theorem dX5_digest_299 : decode cX5_digest 299 = .ok (.aload_n 0, 1) := by decide +kernel
theorem dX5_digest_300 : decode cX5_digest 300 = .ok (.getfield 113, 3) := by decide +kernel
theorem dX5_digest_303 : decode cX5_digest 303 = .ok (.i2l, 1) := by decide +kernel
theorem dX5_digest_304 : decode cX5_digest 304 = .ok (.ladd, 1) := by decide +kernel
theorem dX5_digest_305 : decode cX5_digest 305 = .ok (.lstore_n 1, 1) := by decide +kernel
theorem dX5_digest_306 : decode cX5_digest 306 = .ok (.iconst 0, 1) := by decide +kernel
theorem dX5_digest_307 : decode cX5_digest 307 = .ok (.istore_n 3, 1) := by decide +kernel
theorem dX5_digest_308 : decode cX5_digest 308 = .ok (.iload_n 3, 1) := by decide +kernel
theorem dX5_digest_309 : decode cX5_digest 309 = .ok (.aload_n 0, 1) := by decide +kernel
theorem dX5_digest_310 : decode cX5_digest 310 = .ok (.getfield 113, 3) := by decide +kernel
theorem dX5_digest_313 : decode cX5_digest 313 = .ok (.if_icmp .ge 23, 3) := by decide +kernel
theorem dX5_digest_316 : decode cX5_digest 316 = .ok (.ldc2_w 173, 3) := by decide +kernel
theorem dX5_digest_319 : decode cX5_digest 319 = .ok (.lload_n 1, 1) := by decide +kernel
theorem dX5_digest_320 : decode cX5_digest 320 = .ok (.lmul, 1) := by decide +kernel
theorem dX5_digest_321 : decode cX5_digest 321 = .ok (.aload_n 0, 1) := by decide +kernel
theorem dX5_digest_322 : decode cX5_digest 322 = .ok (.getfield 23, 3) := by decide +kernel
theorem dX5_digest_325 : decode cX5_digest 325 = .ok (.iload_n 3, 1) := by decide +kernel
theorem dX5_digest_326 : decode cX5_digest 326 = .ok (.iaload, 1) := by decide +kernel
theorem dX5_digest_327 : decode cX5_digest 327 = .ok (.i2l, 1) := by decide +kernel
theorem dX5_digest_328 : decode cX5_digest 328 = .ok (.ladd, 1) := by decide +kernel
theorem dX5_digest_329 : decode cX5_digest 329 = .ok (.lstore_n 1, 1) := by decide +kernel
theorem dX5_digest_330 : decode cX5_digest 330 = .ok (.iinc 3 1, 3) := by decide +kernel
theorem dX5_digest_333 : decode cX5_digest 333 = .ok (.goto (-25), 3) := by decide +kernel
theorem dX5_digest_336 : decode cX5_digest 336 = .ok (.lload_n 1, 1) := by decide +kernel
theorem dX5_digest_337 : decode cX5_digest 337 = .ok (.lreturn, 1) := by decide +kernel
end
section
/-! OWN LIBRARY 1: worlds as blocks -/
def wl_off : List va_W → Nat → Nat
  | [], _ => 0
  | _ :: _, 0 => 0
  | b :: bs, j + 1 => b.length + wl_off bs j
theorem wl_get : ∀ {bs : List va_W} {b : va_W} {x : Nat × va_E} {j i : Nat}, bs[j]? = some b → b[i]? = some x → bs.flatten[wl_off bs j + i]? = some x
  | [], _, _, _, _, h, _ => by simp at h
  | b0 :: bs, b, x, 0, i, h, hi => by
    have h : b0 = b := by simpa using h
    subst h
    show (b0 ++ bs.flatten)[0 + i]? = some x
    rw [Nat.zero_add, List.getElem?_append_left (List.getElem?_eq_some_iff.mp hi).1]
    exact hi
  | b0 :: bs, b, x, j + 1, i, h, hi => by
    show (b0 ++ bs.flatten)[b0.length + wl_off bs j + i]? = some x
    rw [List.getElem?_append_right (by omega), show b0.length + wl_off bs j + i - b0.length = wl_off bs j + i by omega]
    exact wl_get (by simpa using h) hi
theorem wl_set : ∀ {bs : List va_W} {b : va_W} {x : Nat × va_E} {j i : Nat} (_ : bs[j]? = some b) (_ : b[i]? = some x) (y : Nat × va_E), bs.flatten.set (wl_off bs j + i) y = (bs.set j (b.set i y)).flatten
  | [], _, _, _, _, h, _, _ => by simp at h
  | b0 :: bs, b, x, 0, i, h, hi, y => by
    have h : b0 = b := by simpa using h
    subst h
    show (b0 ++ bs.flatten).set (0 + i) y = (b0.set i y) ++ bs.flatten
    rw [Nat.zero_add, List.set_append_left _ _ (List.getElem?_eq_some_iff.mp hi).1]
  | b0 :: bs, b, x, j + 1, i, h, hi, y => by
    show (b0 ++ bs.flatten).set (b0.length + wl_off bs j + i) y = b0 ++ (bs.set j (b.set i y)).flatten
    rw [List.set_append_right _ _ (by omega), show b0.length + wl_off bs j + i - b0.length = wl_off bs j + i by omega, wl_set (by simpa using h) hi]
theorem wl_P {D : va_G} {cl : List vw_C} {ws : va_W} {H : Heap} : va_P D cl ws H ↔ ∀ q ∈ ws, va_at D cl q H := by
  constructor
  · intro h q hq
    obtain ⟨k, hk⟩ := List.getElem?_of_mem hq
    exact h k q hk
  · intro h k q hk
    exact h q (List.mem_of_getElem? hk)
theorem wl_D {A : Nat → Prop} {ws : va_W} : va_D A ws ↔ (ws.map Prod.fst).Nodup ∧ ∀ q ∈ ws, A q.1 := by
  constructor
  · intro h
    refine ⟨?_, fun q hq => ?_⟩
    · rw [List.Nodup, List.pairwise_map, List.pairwise_iff_getElem]
      intro i j hi hj hij he
      have := h.1 i j ws[i] ws[j] (List.getElem?_eq_getElem hi) (List.getElem?_eq_getElem hj) he
      omega
    · obtain ⟨k, hk⟩ := List.getElem?_of_mem hq
      exact h.2 k q hk
  · rintro ⟨h1, h2⟩
    refine ⟨fun i j p q hi hj he => ?_, fun k q hk => h2 q (List.mem_of_getElem? hk)⟩
    rw [List.Nodup, List.pairwise_map, List.pairwise_iff_getElem] at h1
    obtain ⟨li, ei⟩ := List.getElem?_eq_some_iff.mp hi
    obtain ⟨lj, ej⟩ := List.getElem?_eq_some_iff.mp hj
    rcases Nat.lt_trichotomy i j with q1 | q1 | q1
    · exact absurd (by rw [ei, ej]; exact he) (h1 i j li lj q1)
    · exact q1
    · exact absurd (by rw [ei, ej]; exact he.symm) (h1 j i lj li q1)
theorem wl_Pp {D : va_G} {cl : List vw_C} {ws ws' : va_W} {H : Heap} (hp : ws.Perm ws') (h : va_P D cl ws H) : va_P D cl ws' H := wl_P.mpr fun q hq => wl_P.mp h q (hp.symm.subset hq)
theorem wl_Dp {A : Nat → Prop} {ws ws' : va_W} (hp : ws.Perm ws') (h : va_D A ws) : va_D A ws' := by
  rw [wl_D] at h ⊢
  exact ⟨(hp.map Prod.fst).nodup_iff.mp h.1, fun q hq => h.2 q (hp.symm.subset hq)⟩
/-- blocks in another order, by their places -/
theorem wl_perm {bs bs' : List va_W} (is : List Nat) (n : Nat) (hl : bs.length = n) (hp : is.Perm (List.range n)) (hs : is.map (fun i => bs[i]?) = bs'.map some) : bs.Perm bs' := by
  subst hl
  have e : (List.range bs.length).map (fun i => bs[i]?) = bs.map some := by
    apply List.ext_getElem?
    intro k
    by_cases hk : k < bs.length
    · simp [hk]
    · simp [hk]
  have h1 : (bs'.map some).Perm (bs.map some) := by
    rw [← hs, ← e]
    exact hp.map _
  have h2 := h1.filterMap id
  simp only [List.filterMap_map] at h2
  have e2 : ∀ l : List va_W, l.filterMap (id ∘ some) = l := fun l => by
    induction l with
    | nil => rfl
    | cons a l ih => simp
  rw [e2, e2] at h2
  exact h2.symm
theorem wl_Po {D : va_G} {cl : List vw_C} {bs bs' : List va_W} {H : Heap} (is : List Nat) (n : Nat) (hl : bs.length = n) (hp : is.Perm (List.range n)) (hs : is.map (fun i => bs[i]?) = bs'.map some) (h : va_P D cl bs.flatten H) : va_P D cl bs'.flatten H := wl_Pp (wl_perm is n hl hp hs).flatten h
theorem wl_Do {A : Nat → Prop} {bs bs' : List va_W} (is : List Nat) (n : Nat) (hl : bs.length = n) (hp : is.Perm (List.range n)) (hs : is.map (fun i => bs[i]?) = bs'.map some) (h : va_D A bs.flatten) : va_D A bs'.flatten := wl_Dp (wl_perm is n hl hp hs).flatten h
/-- some of the blocks -/
theorem wl_Psub {D : va_G} {cl : List vw_C} {bs bs' : List va_W} {H : Heap} (is : List Nat) (hs : is.map (fun i => bs[i]?) = bs'.map some) (h : va_P D cl bs.flatten H) : va_P D cl bs'.flatten H := by
  rw [wl_P] at h ⊢
  intro q hq
  obtain ⟨b, hb, hqb⟩ := List.mem_flatten.mp hq
  have : some b ∈ is.map (fun i => bs[i]?) := by rw [hs]; exact List.mem_map.mpr ⟨b, hb, rfl⟩
  obtain ⟨i, -, hi⟩ := List.mem_map.mp this
  exact h q (List.mem_flatten.mpr ⟨b, List.mem_of_getElem? hi, hqb⟩)
theorem wl_Dl {A : Nat → Prop} {w1 w2 : va_W} (h : va_D A (w1 ++ w2)) : va_D A w1 := by
  rw [wl_D] at h ⊢
  rw [List.map_append] at h
  exact ⟨(List.nodup_append.mp h.1).1, fun q hq => h.2 q (List.mem_append_left _ hq)⟩
theorem wl_Dr {A : Nat → Prop} {w1 w2 : va_W} (h : va_D A (w1 ++ w2)) : va_D A w2 := by
  rw [wl_D] at h ⊢
  rw [List.map_append] at h
  exact ⟨(List.nodup_append.mp h.1).2.1, fun q hq => h.2 q (List.mem_append_right _ hq)⟩
theorem wl_Dx {A : Nat → Prop} {w1 w2 : va_W} (h : va_D A (w1 ++ w2)) {p q : Nat × va_E} (hp : p ∈ w1) (hq : q ∈ w2) : p.1 ≠ q.1 := by
  have h1 := (wl_D.mp h).1
  rw [List.map_append] at h1
  exact (List.nodup_append.mp h1).2.2 _ (List.mem_map_of_mem hp) _ (List.mem_map_of_mem hq)
theorem wl_Amem {ws : va_W} {sz q : Nat} : va_A ws sz q ↔ (∃ x ∈ ws, x.1 = q) ∨ sz ≤ q := by
  constructor
  · rintro (⟨k, e, h⟩ | h)
    · exact Or.inl ⟨(q, e), List.mem_of_getElem? h, rfl⟩
    · exact Or.inr h
  · rintro (⟨x, h, rfl⟩ | h)
    · obtain ⟨k, hk⟩ := List.getElem?_of_mem h
      exact Or.inl ⟨k, x.2, hk⟩
    · exact Or.inr h
/-- behind a call on w1 (now w1'), the rest w2 as it was -/
theorem wl_join {A0 : Nat → Prop} {D : va_G} {cl : List vw_C} {w1 w1' w2 : va_W} {H H1 : Heap} (hP : va_P D cl (w1 ++ w2) H) (hD : va_D A0 (w1 ++ w2)) (hF : ∀ q, va_A w1 H.size q → A0 q)
    (hk : ∀ q : Nat, q < H.size → ¬ va_A w1 H.size q → H1[q]? = H[q]?) (hP1 : va_P D cl w1' H1) (hD1 : va_D (va_A w1 H.size) w1') : va_P D cl (w1' ++ w2) H1 ∧ va_D A0 (w1' ++ w2) := by
  have ap : ∀ q ∈ w2, q.1 < H.size ∧ ¬ va_A w1 H.size q.1 := by
    intro q hq
    have hl : q.1 < H.size := (wl_P.mp hP q (List.mem_append_right _ hq)).lt
    refine ⟨hl, fun h => ?_⟩
    rcases wl_Amem.mp h with ⟨x, hx, he⟩ | h
    · exact wl_Dx hD hx hq he
    · omega
  refine ⟨wl_P.mpr fun q hq => ?_, ?_⟩
  · rcases List.mem_append.mp hq with h | h
    · exact wl_P.mp hP1 q h
    · exact (wl_P.mp hP q (List.mem_append_right _ h)).kept (hk q.1 (ap q h).1 (ap q h).2)
  · have h1 := wl_D.mp hD1
    have h2 := wl_D.mp (wl_Dr hD)
    rw [wl_D, List.map_append]
    refine ⟨List.nodup_append.mpr ⟨h1.1, h2.1, fun a ha b hb hab => ?_⟩, fun q hq => ?_⟩
    · obtain ⟨x, hx, rfl⟩ := List.mem_map.mp ha
      obtain ⟨z, hz, rfl⟩ := List.mem_map.mp hb
      exact (ap z hz).2 (by rw [← hab]; exact h1.2 x hx)
    · rcases List.mem_append.mp hq with h | h
      · exact hF _ (h1.2 q h)
      · exact h2.2 q h
theorem wl_free {A0 : Nat → Prop} {w1 w2 : va_W} {H0 H : Heap} {locs : List Loc} (hD : va_D A0 (w1 ++ w2)) (hS : va_S A0 H0 H locs) (hA : ∀ q, H0.size ≤ q → A0 q) : ∀ q, va_A w1 H.size q → A0 q := by
  intro q h
  rcases wl_Amem.mp h with ⟨x, hx, rfl⟩ | h
  · exact (wl_D.mp hD).2 x (List.mem_append_left _ hx)
  · exact hA q (Nat.le_trans hS.1 h)
end
section
/-! OWN LIBRARY 2: rows over blocks -/
abbrev tyE (cy : Nat → ClassId) : List (ClassId × FieldType) := [(cy 0, .int), (cy 1, .char), (cy 2, .boolean), (cy 3, .object "WireLamps$State"), (cy 4, .long)]
def wl_pc (D : va_G) (cy : Nat → ClassId) (bs : List va_W) (av : List Value) : Array Value → State → Prop := fun v U => v = av.toArray ∧ va_P D vwCl bs.flatten U.heap ∧ va_K D vwCl (tyE cy) U
def wl_ic (D : va_G) (cy : Nat → ClassId) (X : State → Prop) (bs : List va_W) (sz : Nat) (av : List Value) : Array Value → State → Prop := fun v U => v = av.toArray ∧ U.heap.size = sz ∧ va_P D vwCl bs.flatten U.heap ∧ va_K D vwCl (tyE cy) U ∧ va_D (fun _ => True) bs.flatten ∧ X U
def wl_ib (D : va_G) (bs0 : List va_W) (sz : Nat) : List va_W → State → Prop := fun bs t => va_P D vwCl bs.flatten t.heap ∧ va_D (va_A bs0.flatten sz) bs.flatten
theorem wl_pblind {D : va_G} {cy : Nat → ClassId} {bs : List va_W} {av : List Value} : FrameBlind (wl_pc D cy bs av) := fun a U g mk ⟨h1, h2, h3⟩ => ⟨h1, h2, va_K.moved (u := U) (U := U.calling g mk a) (Vm.Alike.refl U.vm) h3⟩
theorem wl_iblind {D : va_G} {cy : Nat → ClassId} {X : State → Prop} {bs : List va_W} {sz : Nat} {av : List Value} (hX : FrameBlind (fun _ U => X U)) : FrameBlind (wl_ic D cy X bs sz av) := fun a U g mk ⟨h1, h2, h3, h4, h5, h6⟩ => ⟨h1, h2, h3, va_K.moved (u := U) (U := U.calling g mk a) (Vm.Alike.refl U.vm) h4, h5, hX a U g mk h6⟩
theorem wl_xT : FrameBlind (fun _ (_ : State) => True) := fun _ _ _ _ h => h
theorem wl_inc (i : Nat) : nI i + Int32.ofInt 1 = nI (i + 1) := nI_1 i
theorem wl_inc3 (i : Nat) : nI i + Int32.ofInt 3 = nI (i + 3) := by
  rw [show Int32.ofInt 3 = nI 3 from rfl, nI_add]
theorem wl_dec (i : Nat) : nI (i + 1) + Int32.ofInt (-1) = nI i := by
  rw [show Int32.ofInt (-1) = -1 from rfl]; exact pk_m1 i
section WL
variable {p : Program} {l : Launch} {e : Env} {R : Room} {s : State} {m : MethodId} {args : Array Value} {below : List Frame} {meth : Method} {c : Code} {H : Heap} {locs : List Loc} {cells slots : Nat} {Q : State → Prop}
variable {cc : ByteArray} {pc : Nat} {ls : Array Slot} {rest : List Value} {D : va_G} {cy : Nat → ClassId} {A : Nat → Prop} {a : Nat} {bs : List va_W} {H0 : Heap}
theorem wl_top {x y : Int32} (h : x = y) (k : W p l e R s m args below meth c H locs cells slots Q (F0 m pc ls (.int y :: rest))) : W p l e R s m args below meth c H locs cells slots Q (F0 m pc ls (.int x :: rest)) := h ▸ k
theorem wl_topl {x y : Int64} (h : x = y) (k : W p l e R s m args below meth c H locs cells slots Q (F0 m pc ls (.long y :: rest))) : W p l e R s m args below meth c H locs cells slots Q (F0 m pc ls (.long x :: rest)) := h ▸ k
theorem wl_topv {x y : Value} (h : x = y) (k : W p l e R s m args below meth c H locs cells slots Q (F0 m pc ls (y :: rest))) : W p l e R s m args below meth c H locs cells slots Q (F0 m pc ls (x :: rest)) := h ▸ k
theorem wl_icmp_ge (hx : p.tables.exec = Jvm.exec) (hb : c.code = cc) (a b : Nat) {off : Int} {tgt : Nat} (hdg : decode cc pc = .ok (.if_icmp .ge off, 3)) (ht : (pc : Int) + off = (tgt : Int)) (ha : a < 2 ^ 31) (hb2 : b < 2 ^ 31)
    (kt : b ≤ a → W p l e R s m args below meth c H locs cells slots Q (F0 m tgt ls rest)) (kf : ¬ b ≤ a → W p l e R s m args below meth c H locs cells slots Q (F0 m (pc + 3) ls rest)) : W p l e R s m args below meth c H locs cells slots Q (F0 m pc ls (.int (nI b) :: .int (nI a) :: rest)) :=
  lv_icmp_ge hx hb hdg ht (fun h => kt ((nI_leI hb2 ha).mp h)) (fun h => kf (fun q => h ((nI_leI hb2 ha).mpr q)))
theorem wl_icmp_gt (hx : p.tables.exec = Jvm.exec) (hb : c.code = cc) (a b : Nat) {off : Int} {tgt : Nat} (hdg : decode cc pc = .ok (.if_icmp .gt off, 3)) (ht : (pc : Int) + off = (tgt : Int)) (ha : a < 2 ^ 31) (hb2 : b < 2 ^ 31)
    (kt : b < a → W p l e R s m args below meth c H locs cells slots Q (F0 m tgt ls rest)) (kf : ¬ b < a → W p l e R s m args below meth c H locs cells slots Q (F0 m (pc + 3) ls rest)) : W p l e R s m args below meth c H locs cells slots Q (F0 m pc ls (.int (nI b) :: .int (nI a) :: rest)) :=
  lv_icmp_gt hx hb hdg ht (fun h => kt ((nI_ltI hb2 ha).mp h)) (fun h => kf (fun q => h ((nI_ltI hb2 ha).mpr q)))
theorem wl_icmp_le (hx : p.tables.exec = Jvm.exec) (hb : c.code = cc) (a b : Nat) {off : Int} {tgt : Nat} (hdg : decode cc pc = .ok (.if_icmp .le off, 3)) (ht : (pc : Int) + off = (tgt : Int)) (ha : a < 2 ^ 31) (hb2 : b < 2 ^ 31)
    (kt : a ≤ b → W p l e R s m args below meth c H locs cells slots Q (F0 m tgt ls rest)) (kf : ¬ a ≤ b → W p l e R s m args below meth c H locs cells slots Q (F0 m (pc + 3) ls rest)) : W p l e R s m args below meth c H locs cells slots Q (F0 m pc ls (.int (nI b) :: .int (nI a) :: rest)) :=
  lv_icmp_le hx hb hdg ht (fun h => kt ((nI_leI ha hb2).mp h)) (fun h => kf (fun q => h ((nI_leI ha hb2).mpr q)))
theorem wl_icmp_lt (hx : p.tables.exec = Jvm.exec) (hb : c.code = cc) (a b : Nat) {off : Int} {tgt : Nat} (hdg : decode cc pc = .ok (.if_icmp .lt off, 3)) (ht : (pc : Int) + off = (tgt : Int)) (ha : a < 2 ^ 31) (hb2 : b < 2 ^ 31)
    (kt : a < b → W p l e R s m args below meth c H locs cells slots Q (F0 m tgt ls rest)) (kf : ¬ a < b → W p l e R s m args below meth c H locs cells slots Q (F0 m (pc + 3) ls rest)) : W p l e R s m args below meth c H locs cells slots Q (F0 m pc ls (.int (nI b) :: .int (nI a) :: rest)) :=
  lv_icmp_lt hx hb hdg ht (fun h => kt ((nI_ltI ha hb2).mp h)) (fun h => kf (fun q => h ((nI_ltI ha hb2).mpr q)))
theorem wl_icmp_eq (hx : p.tables.exec = Jvm.exec) (hb : c.code = cc) (a b : Nat) {off : Int} {tgt : Nat} (hdg : decode cc pc = .ok (.if_icmp .eq off, 3)) (ht : (pc : Int) + off = (tgt : Int)) (ha : a < 2 ^ 31) (hb2 : b < 2 ^ 31)
    (kt : a = b → W p l e R s m args below meth c H locs cells slots Q (F0 m tgt ls rest)) (kf : ¬ a = b → W p l e R s m args below meth c H locs cells slots Q (F0 m (pc + 3) ls rest)) : W p l e R s m args below meth c H locs cells slots Q (F0 m pc ls (.int (nI b) :: .int (nI a) :: rest)) :=
  lv_icmp_eq hx hb hdg ht (fun h => kt ((nI_eq ha hb2).mp h)) (fun h => kf (fun q => h ((nI_eq ha hb2).mpr q)))
theorem wl_icmp_ne (hx : p.tables.exec = Jvm.exec) (hb : c.code = cc) (a b : Nat) {off : Int} {tgt : Nat} (hdg : decode cc pc = .ok (.if_icmp .ne off, 3)) (ht : (pc : Int) + off = (tgt : Int)) (ha : a < 2 ^ 31) (hb2 : b < 2 ^ 31)
    (kt : ¬ a = b → W p l e R s m args below meth c H locs cells slots Q (F0 m tgt ls rest)) (kf : a = b → W p l e R s m args below meth c H locs cells slots Q (F0 m (pc + 3) ls rest)) : W p l e R s m args below meth c H locs cells slots Q (F0 m pc ls (.int (nI b) :: .int (nI a) :: rest)) :=
  lv_icmp_ne hx hb hdg ht (fun h => kt (fun q => h ((nI_eq ha hb2).mpr q))) (fun h => kf ((nI_eq ha hb2).mp h))
theorem wl_if_lt (hx : p.tables.exec = Jvm.exec) (hb : c.code = cc) (a : Nat) {off : Int} (hdg : decode cc pc = .ok (.ifCond .lt off, 3)) {tgt : Nat} (ht : (pc : Int) + off = (tgt : Int)) (ha : a < 2 ^ 31)
    (kf : W p l e R s m args below meth c H locs cells slots Q (F0 m (pc + 3) ls rest)) : W p l e R s m args below meth c H locs cells slots Q (F0 m pc ls (.int (nI a) :: rest)) :=
  lv_if_lt hx hb hdg ht (fun h => absurd h (nI_pos ha)) (fun _ => kf)
theorem wl_if_ge (hx : p.tables.exec = Jvm.exec) (hb : c.code = cc) (a : Nat) {off : Int} (hdg : decode cc pc = .ok (.ifCond .ge off, 3)) {tgt : Nat} (ht : (pc : Int) + off = (tgt : Int)) (ha : a < 2 ^ 31)
    (kt : W p l e R s m args below meth c H locs cells slots Q (F0 m tgt ls rest)) : W p l e R s m args below meth c H locs cells slots Q (F0 m pc ls (.int (nI a) :: rest)) :=
  lv_if_ge hx hb hdg ht (fun _ => kt) (fun h => absurd (nI_pos' ha) h)
theorem wl_if_le (hx : p.tables.exec = Jvm.exec) (hb : c.code = cc) (a : Nat) {off : Int} (hdg : decode cc pc = .ok (.ifCond .le off, 3)) {tgt : Nat} (ht : (pc : Int) + off = (tgt : Int)) (ha : a < 2 ^ 31)
    (kt : a = 0 → W p l e R s m args below meth c H locs cells slots Q (F0 m tgt ls rest)) (kf : ¬ a = 0 → W p l e R s m args below meth c H locs cells slots Q (F0 m (pc + 3) ls rest)) : W p l e R s m args below meth c H locs cells slots Q (F0 m pc ls (.int (nI a) :: rest)) :=
  lv_if_le hx hb hdg ht (fun h => kt (by rcases Nat.eq_zero_or_pos a with q | q; exact q; exact absurd h (nI_nle q ha))) (fun h => kf (fun q => h (by subst q; decide)))
theorem wl_if_gt (hx : p.tables.exec = Jvm.exec) (hb : c.code = cc) (a : Nat) {off : Int} (hdg : decode cc pc = .ok (.ifCond .gt off, 3)) {tgt : Nat} (ht : (pc : Int) + off = (tgt : Int)) (ha : a < 2 ^ 31)
    (kt : ¬ a = 0 → W p l e R s m args below meth c H locs cells slots Q (F0 m tgt ls rest)) (kf : a = 0 → W p l e R s m args below meth c H locs cells slots Q (F0 m (pc + 3) ls rest)) : W p l e R s m args below meth c H locs cells slots Q (F0 m pc ls (.int (nI a) :: rest)) :=
  lv_if_gt hx hb hdg ht (fun h => kt (fun q => by subst q; exact absurd h (by decide))) (fun h => kf (by rcases Nat.eq_zero_or_pos a with q | q; exact q; exact absurd (Int32.not_le.mp (nI_nle q ha)) h))
theorem wl_if_eq (hx : p.tables.exec = Jvm.exec) (hb : c.code = cc) (a : Nat) {off : Int} (hdg : decode cc pc = .ok (.ifCond .eq off, 3)) {tgt : Nat} (ht : (pc : Int) + off = (tgt : Int)) (ha : a < 2 ^ 31)
    (kt : a = 0 → W p l e R s m args below meth c H locs cells slots Q (F0 m tgt ls rest)) (kf : ¬ a = 0 → W p l e R s m args below meth c H locs cells slots Q (F0 m (pc + 3) ls rest)) : W p l e R s m args below meth c H locs cells slots Q (F0 m pc ls (.int (nI a) :: rest)) :=
  lv_if_eq hx hb hdg ht (fun h => kt (by rcases Nat.eq_zero_or_pos a with q | q; exact q; exact absurd h (nI_ne0 q ha))) (fun h => kf (fun q => h (by subst q; rfl)))
theorem wl_if_ne (hx : p.tables.exec = Jvm.exec) (hb : c.code = cc) (a : Nat) {off : Int} (hdg : decode cc pc = .ok (.ifCond .ne off, 3)) {tgt : Nat} (ht : (pc : Int) + off = (tgt : Int)) (ha : a < 2 ^ 31)
    (kt : ¬ a = 0 → W p l e R s m args below meth c H locs cells slots Q (F0 m tgt ls rest)) (kf : a = 0 → W p l e R s m args below meth c H locs cells slots Q (F0 m (pc + 3) ls rest)) : W p l e R s m args below meth c H locs cells slots Q (F0 m pc ls (.int (nI a) :: rest)) :=
  lv_if_ne hx hb hdg ht (fun h => kt (fun q => h (by subst q; rfl))) (fun h => kf (by rcases Nat.eq_zero_or_pos a with q | q; exact q; exact absurd h (nI_ne0 q ha)))
/-- a boolean answer is asked -/
theorem wl_b_eq (hx : p.tables.exec = Jvm.exec) (hb : c.code = cc) (P : Prop) [Decidable P] {x : Int32} (hp : x = if P then 1 else 0) {off : Int} (hdg : decode cc pc = .ok (.ifCond .eq off, 3)) {tgt : Nat} (ht : (pc : Int) + off = (tgt : Int))
    (kt : ¬ P → W p l e R s m args below meth c H locs cells slots Q (F0 m tgt ls rest)) (kf : P → W p l e R s m args below meth c H locs cells slots Q (F0 m (pc + 3) ls rest)) : W p l e R s m args below meth c H locs cells slots Q (F0 m pc ls (.int x :: rest)) := by
  by_cases h : P
  · rw [if_pos h] at hp; subst hp
    exact lv_if_eq hx hb hdg ht (fun q => absurd q (by decide)) (fun _ => kf h)
  · rw [if_neg h] at hp; subst hp
    exact lv_if_eq hx hb hdg ht (fun _ => kt h) (fun q => absurd rfl q)
theorem wl_b_ne (hx : p.tables.exec = Jvm.exec) (hb : c.code = cc) (P : Prop) [Decidable P] {x : Int32} (hp : x = if P then 1 else 0) {off : Int} (hdg : decode cc pc = .ok (.ifCond .ne off, 3)) {tgt : Nat} (ht : (pc : Int) + off = (tgt : Int))
    (kt : P → W p l e R s m args below meth c H locs cells slots Q (F0 m tgt ls rest)) (kf : ¬ P → W p l e R s m args below meth c H locs cells slots Q (F0 m (pc + 3) ls rest)) : W p l e R s m args below meth c H locs cells slots Q (F0 m pc ls (.int x :: rest)) := by
  by_cases h : P
  · rw [if_pos h] at hp; subst hp
    exact lv_if_ne hx hb hdg ht (fun _ => kt h) (fun q => absurd q (by decide))
  · rw [if_neg h] at hp; subst hp
    exact lv_if_ne hx hb hdg ht (fun q => absurd rfl q) (fun _ => kf h)
theorem wl_getf (hx : p.tables.exec = Jvm.exec) (hb : c.code = cc) {own ref C : String} {T : u_T} {N ci index : Nat} {Ts : List Cond} (hts : ∀ w ∈ Ts, w.before args s = true) (hin : ∀ w ∈ u_ws C T N, w ∈ Ts) (hown : s.vm.findClass own = some m.cls) (hK : va_K D vwCl (tyE cy) s) (hP : va_P D vwCl bs.flatten H) (j i : Nat) {b : va_W} (hj : bs[j]? = some b) {fs : List Value} (hi : b[i]? = some (a, .inr (ci, fs))) (hc : vwCl[ci]? = some (C, T, N)) (k : Nat) (hk : k < N) (hlink : (Cond.fieldLink own index ref (T k).2.1 (T k).2.2.1).before args s = true) (hr : ref = (T k).1) {v : Value} (hv : fs[k]? = some v) (hdg : decode cc pc = .ok (.getfield index, 3))
    (kk : W p l e R s m args below meth c H locs cells slots Q (F0 m (pc + 3) ls (v :: rest))) : W p l e R s m args below meth c H locs cells slots Q (F0 m pc ls (.ref a :: rest)) :=
  va_get hx hb hts hin hown hK hP (wl_off bs j + i) (wl_get hj hi) hc k hk hlink (fun x h => by rw [hr]; exact h) hv hdg kk
theorem wl_putf (hx : p.tables.exec = Jvm.exec) (hb : c.code = cc) {own ref C : String} {T : u_T} {N ci index : Nat} {Ts : List Cond} (hts : ∀ w ∈ Ts, w.before args s = true) (hin : ∀ w ∈ u_ws C T N, w ∈ Ts) (ty0 : Nat → FieldType) (hty : ∀ k, k < N → parseFieldDescriptor (T k).2.2.1 = some (ty0 k)) (hnm : ∀ a, a < N → ∀ b, b < N → a ≠ b → (T a).2.1 ≠ (T b).2.1) (hown : s.vm.findClass own = some m.cls) (hK : va_K D vwCl (tyE cy) s) (hP : va_P D vwCl bs.flatten H) (hD : va_D A bs.flatten) (hS0 : va_S A H0 H locs) (j i : Nat) {b : va_W} (hj : bs[j]? = some b) {fs : List Value} (hi : b[i]? = some (a, .inr (ci, fs))) (hc : vwCl[ci]? = some (C, T, N)) (k : Nat) (hk : k < N) (hlink : (Cond.fieldLink own index ref (T k).2.1 (T k).2.2.1).before args s = true) (hr : ref = (T k).1) (hfin : (T k).2.2.2 = false) {v : Value} (hn : narrow (ty0 k) v = v) (hfit : fits (ty0 k) v = true) (hl : k < fs.length)
    (hdg : decode cc pc = .ok (.putfield index, 3)) (kk : ∀ (H1 : Heap) (locs1 : List Loc), va_P D vwCl (bs.set j (b.set i (a, .inr (ci, fs.set k v)))).flatten H1 → va_D A (bs.set j (b.set i (a, .inr (ci, fs.set k v)))).flatten → va_S A H0 H1 locs1 → W p l e R s m args below meth c H1 locs1 cells slots Q (F0 m (pc + 3) ls rest)) : W p l e R s m args below meth c H locs cells slots Q (F0 m pc ls (v :: .ref a :: rest)) :=
  va_put hx hb hts hin ty0 hty hnm hown hK hP hD hS0 (wl_off bs j + i) (wl_get hj hi) hc k hk hlink (fun x h => by rw [hr]; exact h) hfin (hty k hk) hn hfit hl hdg (fun H1 locs1 h1 h2 h3 => by
    rw [wl_set hj hi] at h1 h2
    exact kk H1 locs1 h1 h2 h3)
theorem wl_putF (hx : p.tables.exec = Jvm.exec) (hb : c.code = cc) {own ref C : String} {T : u_T} {N ci index : Nat} {Ts : List Cond} (hts : ∀ w ∈ Ts, w.before args s = true) (hin : ∀ w ∈ u_ws C T N, w ∈ Ts) (ty0 : Nat → FieldType) (hty : ∀ k, k < N → parseFieldDescriptor (T k).2.2.1 = some (ty0 k)) (hnm : ∀ a, a < N → ∀ b, b < N → a ≠ b → (T a).2.1 ≠ (T b).2.1) (hown : s.vm.findClass own = some m.cls) (hK : va_K D vwCl (tyE cy) s) (hP : va_P D vwCl bs.flatten H) (hD : va_D A bs.flatten) (hS0 : va_S A H0 H locs) (j i : Nat) {b : va_W} (hj : bs[j]? = some b) {fs : List Value} (hi : b[i]? = some (a, .inr (ci, fs))) (hc : vwCl[ci]? = some (C, T, N)) (k : Nat) (hk : k < N) (hlink : (Cond.fieldLink own index ref (T k).2.1 (T k).2.2.1).before args s = true) (hr : ref = (T k).1) (hfin : (T k).2.2.2 = true) (hin2 : meth.name = "<init>") (hdecl : (T k).1 = own) {v : Value} (hn : narrow (ty0 k) v = v) (hfit : fits (ty0 k) v = true) (hl : k < fs.length)
    (hdg : decode cc pc = .ok (.putfield index, 3)) (kk : ∀ (H1 : Heap) (locs1 : List Loc), va_P D vwCl (bs.set j (b.set i (a, .inr (ci, fs.set k v)))).flatten H1 → va_D A (bs.set j (b.set i (a, .inr (ci, fs.set k v)))).flatten → va_S A H0 H1 locs1 → W p l e R s m args below meth c H1 locs1 cells slots Q (F0 m (pc + 3) ls rest)) : W p l e R s m args below meth c H locs cells slots Q (F0 m pc ls (v :: .ref a :: rest)) :=
  va_putF hx hb hts hin ty0 hty hnm hown hK hP hD hS0 (wl_off bs j + i) (wl_get hj hi) hc k hk hlink (fun x h => by rw [hr]; exact h) hfin hin2 hdecl (hty k hk) hn hfit hl hdg (fun H1 locs1 h1 h2 h3 => by
    rw [wl_set hj hi] at h1 h2
    exact kk H1 locs1 h1 h2 h3)
theorem wl_iald (hx : p.tables.exec = Jvm.exec) (hb : c.code = cc) (hK : va_K D vwCl (tyE cy) s) (hP : va_P D vwCl bs.flatten H) (j i : Nat) {b : va_W} (hj : bs[j]? = some b) {n : Nat} {f : Nat → Int32} (hi : b[i]? = some (a, .inl (cy 0, n, .inl f))) (k : Nat) (hk : k < n) (hn : n < 2 ^ 31) (hdg : decode cc pc = .ok (.iaload, 1))
    (kk : W p l e R s m args below meth c H locs cells slots Q (F0 m (pc + 1) ls (.int (f k) :: rest))) : W p l e R s m args below meth c H locs cells slots Q (F0 m pc ls (.int (nI k) :: .ref a :: rest)) :=
  va_iald hx hb hK hP (wl_off bs j + i) 0 (wl_get hj hi) rfl (vp_in_nI hk hn) hdg (by rw [nI_clamp (Nat.lt_trans hk hn)]; exact kk)
theorem wl_cald (hx : p.tables.exec = Jvm.exec) (hb : c.code = cc) (hK : va_K D vwCl (tyE cy) s) (hP : va_P D vwCl bs.flatten H) (j i : Nat) {b : va_W} (hj : bs[j]? = some b) {n : Nat} {f : Nat → Int32} (hi : b[i]? = some (a, .inl (cy 1, n, .inl f))) (k : Nat) (hk : k < n) (hn : n < 2 ^ 31) (hdg : decode cc pc = .ok (.caload, 1))
    (kk : W p l e R s m args below meth c H locs cells slots Q (F0 m (pc + 1) ls (.int (f k) :: rest))) : W p l e R s m args below meth c H locs cells slots Q (F0 m pc ls (.int (nI k) :: .ref a :: rest)) :=
  va_cald hx hb hK hP (wl_off bs j + i) 1 (wl_get hj hi) rfl (vp_in_nI hk hn) hdg (by rw [nI_clamp (Nat.lt_trans hk hn)]; exact kk)
theorem wl_zald (hx : p.tables.exec = Jvm.exec) (hb : c.code = cc) (hK : va_K D vwCl (tyE cy) s) (hP : va_P D vwCl bs.flatten H) (j i : Nat) {b : va_W} (hj : bs[j]? = some b) {n : Nat} {f : Nat → Int32} (hi : b[i]? = some (a, .inl (cy 2, n, .inl f))) (k : Nat) (hk : k < n) (hn : n < 2 ^ 31) (hdg : decode cc pc = .ok (.baload, 1))
    (kk : W p l e R s m args below meth c H locs cells slots Q (F0 m (pc + 1) ls (.int (f k) :: rest))) : W p l e R s m args below meth c H locs cells slots Q (F0 m pc ls (.int (nI k) :: .ref a :: rest)) :=
  va_zald hx hb hK hP (wl_off bs j + i) 2 (wl_get hj hi) rfl (vp_in_nI hk hn) hdg (by rw [nI_clamp (Nat.lt_trans hk hn)]; exact kk)
theorem wl_aald (hx : p.tables.exec = Jvm.exec) (hb : c.code = cc) (hK : va_K D vwCl (tyE cy) s) (hP : va_P D vwCl bs.flatten H) (j i : Nat) {b : va_W} (hj : bs[j]? = some b) {n : Nat} {f : Nat → Option Nat} (hi : b[i]? = some (a, .inl (cy 3, n, .inr (.inr (.inr (.inr f)))))) (k : Nat) (hk : k < n) (hn : n < 2 ^ 31) (hdg : decode cc pc = .ok (.aaload, 1))
    (kk : W p l e R s m args below meth c H locs cells slots Q (F0 m (pc + 1) ls (va_rf (f k) :: rest))) : W p l e R s m args below meth c H locs cells slots Q (F0 m pc ls (.int (nI k) :: .ref a :: rest)) :=
  va_aldq hx hb hK hP (wl_off bs j + i) 3 (wl_get hj hi) rfl (vp_in_nI hk hn) hdg (by rw [nI_clamp (Nat.lt_trans hk hn)]; exact kk)
theorem wl_iast (hx : p.tables.exec = Jvm.exec) (hb : c.code = cc) (hK : va_K D vwCl (tyE cy) s) (hP : va_P D vwCl bs.flatten H) (hD : va_D A bs.flatten) (hS : va_S A H0 H locs) (j i : Nat) {b : va_W} (hj : bs[j]? = some b) {n : Nat} {f : Nat → Int32} (hi : b[i]? = some (a, .inl (cy 0, n, .inl f))) (k : Nat) (hk : k < n) (hn : n < 2 ^ 31) {x : Int32} (hdg : decode cc pc = .ok (.iastore, 1))
    (kk : ∀ (H1 : Heap) (locs1 : List Loc), va_P D vwCl (bs.set j (b.set i (a, .inl (cy 0, n, .inl (upd f k x))))).flatten H1 → va_D A (bs.set j (b.set i (a, .inl (cy 0, n, .inl (upd f k x))))).flatten → va_S A H0 H1 locs1 → W p l e R s m args below meth c H1 locs1 cells slots Q (F0 m (pc + 1) ls rest)) : W p l e R s m args below meth c H locs cells slots Q (F0 m pc ls (.int x :: .int (nI k) :: .ref a :: rest)) :=
  va_iast hx hb hK hP hD hS (wl_off bs j + i) 0 (wl_get hj hi) rfl (vp_in_nI hk hn) hdg (fun H1 locs1 h1 h2 h3 => by
    rw [nI_clamp (Nat.lt_trans hk hn), wl_set hj hi] at h1 h2
    exact kk H1 locs1 h1 h2 h3)
theorem wl_cast (hx : p.tables.exec = Jvm.exec) (hb : c.code = cc) (hK : va_K D vwCl (tyE cy) s) (hP : va_P D vwCl bs.flatten H) (hD : va_D A bs.flatten) (hS : va_S A H0 H locs) (j i : Nat) {b : va_W} (hj : bs[j]? = some b) {n : Nat} {f : Nat → Int32} (hi : b[i]? = some (a, .inl (cy 1, n, .inl f))) (k : Nat) (hk : k < n) (hn : n < 2 ^ 31) {x : Int32} (hx2 : vp_nar .char x = x) (hdg : decode cc pc = .ok (.castore, 1))
    (kk : ∀ (H1 : Heap) (locs1 : List Loc), va_P D vwCl (bs.set j (b.set i (a, .inl (cy 1, n, .inl (upd f k x))))).flatten H1 → va_D A (bs.set j (b.set i (a, .inl (cy 1, n, .inl (upd f k x))))).flatten → va_S A H0 H1 locs1 → W p l e R s m args below meth c H1 locs1 cells slots Q (F0 m (pc + 1) ls rest)) : W p l e R s m args below meth c H locs cells slots Q (F0 m pc ls (.int x :: .int (nI k) :: .ref a :: rest)) :=
  va_cast hx hb hK hP hD hS (wl_off bs j + i) 1 (wl_get hj hi) rfl (vp_in_nI hk hn) hdg (fun H1 locs1 h1 h2 h3 => by
    rw [nI_clamp (Nat.lt_trans hk hn), wl_set hj hi, hx2] at h1 h2
    exact kk H1 locs1 h1 h2 h3)
theorem wl_zast (hx : p.tables.exec = Jvm.exec) (hb : c.code = cc) (hK : va_K D vwCl (tyE cy) s) (hP : va_P D vwCl bs.flatten H) (hD : va_D A bs.flatten) (hS : va_S A H0 H locs) (j i : Nat) {b : va_W} (hj : bs[j]? = some b) {n : Nat} {f : Nat → Int32} (hi : b[i]? = some (a, .inl (cy 2, n, .inl f))) (k : Nat) (hk : k < n) (hn : n < 2 ^ 31) {x : Int32} (hx2 : vp_nar .boolean x = x) (hdg : decode cc pc = .ok (.bastore, 1))
    (kk : ∀ (H1 : Heap) (locs1 : List Loc), va_P D vwCl (bs.set j (b.set i (a, .inl (cy 2, n, .inl (upd f k x))))).flatten H1 → va_D A (bs.set j (b.set i (a, .inl (cy 2, n, .inl (upd f k x))))).flatten → va_S A H0 H1 locs1 → W p l e R s m args below meth c H1 locs1 cells slots Q (F0 m (pc + 1) ls rest)) : W p l e R s m args below meth c H locs cells slots Q (F0 m pc ls (.int x :: .int (nI k) :: .ref a :: rest)) :=
  va_zast hx hb hK hP hD hS (wl_off bs j + i) 2 (wl_get hj hi) rfl (vp_in_nI hk hn) hdg (fun H1 locs1 h1 h2 h3 => by
    rw [nI_clamp (Nat.lt_trans hk hn), wl_set hj hi, hx2] at h1 h2
    exact kk H1 locs1 h1 h2 h3)
end WL
end
section
/-! OWN LIBRARY 3: calls over blocks -/
section WC
variable {p : Program} {l : Launch} {e : Env} {R : Room} {s : State} {m : MethodId} {args : Array Value} {below : List Frame} {meth : Method} {c : Code} {H : Heap} {locs : List Loc} {cells slots : Nat} {Q : State → Prop}
variable {cc bytes : ByteArray} {pc nL maxL n index : Nat} {ls : Array Slot} {rest st As : List Value} {D : va_G} {cy : Nat → ClassId} {A : Nat → Prop} {b : Nat} {bs bsC bsR : List va_W} {H0 : Heap}
variable {Ts wsy : List Cond} {own C : String} {y : MethodName} {ret : Option FieldType} {rm : Room} {mc ms : Nat} {X : State → Prop}
theorem wl_preV (hK : va_K D vwCl (tyE cy) s) (hP : va_P D vwCl bs.flatten H) (is : List Nat) (hs : is.map (fun i => bs[i]?) = bsC.map some) {b0 : va_W} (h0 : bsC[0]? = some b0) {ci : Nat} {fs : List Value} (h1 : b0[0]? = some (b, .inr (ci, fs))) {rC : vw_C} (hc : vwCl[ci]? = some rC) (hC : rC.1 = C) : PreV s H C b (wl_pc D cy bsC (.ref b :: As)) As := by
  have hPc := wl_Psub is hs hP
  subst hC
  refine ⟨wl_pblind, ?_, fun U hU hW => ⟨rfl, by rw [hU]; exact hPc, va_K.moved hW.alike hK⟩⟩
  exact va_recv hK hPc hc (wl_get (j := 0) (i := 0) h0 h1)
theorem wl_preS (hK : va_K D vwCl (tyE cy) s) (hP : va_P D vwCl bs.flatten H) (is : List Nat) (hs : is.map (fun i => bs[i]?) = bsC.map some) : PreS s H (wl_pc D cy bsC As) As :=
  ⟨wl_pblind, fun U hU hW => ⟨rfl, by rw [hU]; exact wl_Psub is hs hP, va_K.moved hW.alike hK⟩⟩
/-- reading calls: an int, a long, a double, a reference -/
theorem wl_pV {post : Int32 → Prop} (S : CallFix p m c cc nL s args Ts own) (hM : Met l y wsy rm (wl_pc D cy bsC (.ref b :: As)) (vp_Si post) 0 0 (fun _ => False)) (cw : CallW R s args own C index y bytes maxL ret wsy rm 0 0 n) (hK : va_K D vwCl (tyE cy) s) (hP : va_P D vwCl bs.flatten H) (is : List Nat) (hs : is.map (fun i => bs[i]?) = bsC.map some) {b0 : va_W} (h0 : bsC[0]? = some b0) {ci : Nat} {fs : List Value} (h1 : b0[0]? = some (b, .inr (ci, fs))) {rC : vw_C} (hc : vwCl[ci]? = some rC) (hC : rC.1 = C)
    (hn : As.length = n) (hsize : ls.size = nL) (hst : st = As.reverse ++ .ref b :: rest) (hrm : (rest.map fun v => v.category).sum ≤ 8) (hdg : decode cc pc = .ok (.invokevirtual index, 3)) (hcl : cells ≤ R.cells ∧ slots ≤ R.slots)
    (kk : ∀ r : Int32, post r → W p l e R s m args below meth c H locs cells slots Q (F0 m (pc + 3) ls (.int r :: rest))) : W p l e R s m args below meth c H locs cells slots Q (F0 m pc ls st) :=
  vp_callSi (W.runV S hM cw (wl_preV hK hP is hs h0 h1 hc hC) rfl hn hsize hst (lv_room (m := m) (pc := pc) (ls := ls) (rest := st) hrm) hdg hcl) kk
theorem wl_pVl {post : Int64 → Prop} (S : CallFix p m c cc nL s args Ts own) (hM : Met l y wsy rm (wl_pc D cy bsC (.ref b :: As)) (vp_Sl post) 0 0 (fun _ => False)) (cw : CallW R s args own C index y bytes maxL ret wsy rm 0 0 n) (hK : va_K D vwCl (tyE cy) s) (hP : va_P D vwCl bs.flatten H) (is : List Nat) (hs : is.map (fun i => bs[i]?) = bsC.map some) {b0 : va_W} (h0 : bsC[0]? = some b0) {ci : Nat} {fs : List Value} (h1 : b0[0]? = some (b, .inr (ci, fs))) {rC : vw_C} (hc : vwCl[ci]? = some rC) (hC : rC.1 = C)
    (hn : As.length = n) (hsize : ls.size = nL) (hst : st = As.reverse ++ .ref b :: rest) (hrm : (rest.map fun v => v.category).sum ≤ 8) (hdg : decode cc pc = .ok (.invokevirtual index, 3)) (hcl : cells ≤ R.cells ∧ slots ≤ R.slots)
    (kk : ∀ r : Int64, post r → W p l e R s m args below meth c H locs cells slots Q (F0 m (pc + 3) ls (.long r :: rest))) : W p l e R s m args below meth c H locs cells slots Q (F0 m pc ls st) :=
  vp_callSl (W.runV S hM cw (wl_preV hK hP is hs h0 h1 hc hC) rfl hn hsize hst (lv_room (m := m) (pc := pc) (ls := ls) (rest := st) hrm) hdg hcl) kk
theorem wl_pVd {post : UInt64 → Prop} (S : CallFix p m c cc nL s args Ts own) (hM : Met l y wsy rm (wl_pc D cy bsC (.ref b :: As)) (vp_Sd post) 0 0 (fun _ => False)) (cw : CallW R s args own C index y bytes maxL ret wsy rm 0 0 n) (hK : va_K D vwCl (tyE cy) s) (hP : va_P D vwCl bs.flatten H) (is : List Nat) (hs : is.map (fun i => bs[i]?) = bsC.map some) {b0 : va_W} (h0 : bsC[0]? = some b0) {ci : Nat} {fs : List Value} (h1 : b0[0]? = some (b, .inr (ci, fs))) {rC : vw_C} (hc : vwCl[ci]? = some rC) (hC : rC.1 = C)
    (hn : As.length = n) (hsize : ls.size = nL) (hst : st = As.reverse ++ .ref b :: rest) (hrm : (rest.map fun v => v.category).sum ≤ 8) (hdg : decode cc pc = .ok (.invokevirtual index, 3)) (hcl : cells ≤ R.cells ∧ slots ≤ R.slots)
    (kk : ∀ r : UInt64, post r → W p l e R s m args below meth c H locs cells slots Q (F0 m (pc + 3) ls (.double r :: rest))) : W p l e R s m args below meth c H locs cells slots Q (F0 m pc ls st) :=
  vp_callSd (W.runV S hM cw (wl_preV hK hP is hs h0 h1 hc hC) rfl hn hsize hst (lv_room (m := m) (pc := pc) (ls := ls) (rest := st) hrm) hdg hcl) kk
theorem wl_pVq {post : Option Nat → Prop} (S : CallFix p m c cc nL s args Ts own) (hM : Met l y wsy rm (wl_pc D cy bsC (.ref b :: As)) (va_Sq post) 0 0 (fun _ => False)) (cw : CallW R s args own C index y bytes maxL ret wsy rm 0 0 n) (hK : va_K D vwCl (tyE cy) s) (hP : va_P D vwCl bs.flatten H) (is : List Nat) (hs : is.map (fun i => bs[i]?) = bsC.map some) {b0 : va_W} (h0 : bsC[0]? = some b0) {ci : Nat} {fs : List Value} (h1 : b0[0]? = some (b, .inr (ci, fs))) {rC : vw_C} (hc : vwCl[ci]? = some rC) (hC : rC.1 = C)
    (hn : As.length = n) (hsize : ls.size = nL) (hst : st = As.reverse ++ .ref b :: rest) (hrm : (rest.map fun v => v.category).sum ≤ 8) (hdg : decode cc pc = .ok (.invokevirtual index, 3)) (hcl : cells ≤ R.cells ∧ slots ≤ R.slots)
    (kk : ∀ r : Option Nat, post r → W p l e R s m args below meth c H locs cells slots Q (F0 m (pc + 3) ls (va_rf r :: rest))) : W p l e R s m args below meth c H locs cells slots Q (F0 m pc ls st) :=
  va_csq (W.runV S hM cw (wl_preV hK hP is hs h0 h1 hc hC) rfl hn hsize hst (lv_room (m := m) (pc := pc) (ls := ls) (rest := st) hrm) hdg hcl) kk
theorem wl_pS {post : Int32 → Prop} (S : CallFix p m c cc nL s args Ts own) (hM : Met l y wsy rm (wl_pc D cy bsC As) (vp_Si post) 0 0 (fun _ => False)) (cw : CallB R s args own index y bytes maxL ret wsy rm 0 0 n ∧ (Cond.static y).before args s = true) (hK : va_K D vwCl (tyE cy) s) (hP : va_P D vwCl bs.flatten H) (is : List Nat) (hs : is.map (fun i => bs[i]?) = bsC.map some)
    (hn : As.length = n) (hsize : ls.size = nL) (hst : st = As.reverse ++ rest) (hrm : (rest.map fun v => v.category).sum ≤ 8) (hdg : decode cc pc = .ok (.invokestatic index, 3)) (hcl : cells ≤ R.cells ∧ slots ≤ R.slots)
    (kk : ∀ r : Int32, post r → W p l e R s m args below meth c H locs cells slots Q (F0 m (pc + 3) ls (.int r :: rest))) : W p l e R s m args below meth c H locs cells slots Q (F0 m pc ls st) :=
  vp_callSi (W.runS S hM cw (wl_preS hK hP is hs) rfl hn hsize hst (lv_room (m := m) (pc := pc) (ls := ls) (rest := st) hrm) hdg hcl) kk
theorem wl_pSl {post : Int64 → Prop} (S : CallFix p m c cc nL s args Ts own) (hM : Met l y wsy rm (wl_pc D cy bsC As) (vp_Sl post) 0 0 (fun _ => False)) (cw : CallB R s args own index y bytes maxL ret wsy rm 0 0 n ∧ (Cond.static y).before args s = true) (hK : va_K D vwCl (tyE cy) s) (hP : va_P D vwCl bs.flatten H) (is : List Nat) (hs : is.map (fun i => bs[i]?) = bsC.map some)
    (hn : As.length = n) (hsize : ls.size = nL) (hst : st = As.reverse ++ rest) (hrm : (rest.map fun v => v.category).sum ≤ 8) (hdg : decode cc pc = .ok (.invokestatic index, 3)) (hcl : cells ≤ R.cells ∧ slots ≤ R.slots)
    (kk : ∀ r : Int64, post r → W p l e R s m args below meth c H locs cells slots Q (F0 m (pc + 3) ls (.long r :: rest))) : W p l e R s m args below meth c H locs cells slots Q (F0 m pc ls st) :=
  vp_callSl (W.runS S hM cw (wl_preS hK hP is hs) rfl hn hsize hst (lv_room (m := m) (pc := pc) (ls := ls) (rest := st) hrm) hdg hcl) kk
/-- calls that change their world -/
theorem wl_preVi (hXb : FrameBlind (fun _ U => X U)) (hXs : ∀ U : State, U.heap = H → s.WarmedH U.vm → X U) (hK : va_K D vwCl (tyE cy) s) (hP : va_P D vwCl (bsC ++ bsR).flatten H) (hD : va_D A (bsC ++ bsR).flatten) {b0 : va_W} (h0 : bsC[0]? = some b0) {ci : Nat} {fs : List Value} (h1 : b0[0]? = some (b, .inr (ci, fs))) {rC : vw_C} (hc : vwCl[ci]? = some rC) (hC : rC.1 = C) : PreV s H C b (wl_ic D cy X bsC H.size (.ref b :: As)) As := by
  rw [List.flatten_append] at hP hD
  have hPc : va_P D vwCl bsC.flatten H := wl_P.mpr fun q hq => wl_P.mp hP q (List.mem_append_left _ hq)
  subst hC
  refine ⟨wl_iblind hXb, ?_, fun U hU hW => ⟨rfl, by rw [hU], by rw [hU]; exact hPc, va_K.moved hW.alike hK, (wl_Dl hD).weaken (fun _ _ _ _ => trivial), hXs U hU hW⟩⟩
  exact va_recv hK hPc hc (wl_get (j := 0) (i := 0) h0 h1)
theorem wl_preSi (hXb : FrameBlind (fun _ U => X U)) (hXs : ∀ U : State, U.heap = H → s.WarmedH U.vm → X U) (hK : va_K D vwCl (tyE cy) s) (hP : va_P D vwCl (bsC ++ bsR).flatten H) (hD : va_D A (bsC ++ bsR).flatten) : PreS s H (wl_ic D cy X bsC H.size As) As := by
  rw [List.flatten_append] at hP hD
  have hPc : va_P D vwCl bsC.flatten H := wl_P.mpr fun q hq => wl_P.mp hP q (List.mem_append_left _ hq)
  exact ⟨wl_iblind hXb, fun U hU hW => ⟨rfl, by rw [hU], by rw [hU]; exact hPc, va_K.moved hW.alike hK, (wl_Dl hD).weaken (fun _ _ _ _ => trivial), hXs U hU hW⟩⟩
theorem wl_freeB {locs : List Loc} (hD : va_D A (bsC ++ bsR).flatten) (hS : va_S A H0 H locs) (hA : ∀ q, H0.size ≤ q → A q) : ∀ q, va_A bsC.flatten H.size q → A q := by
  rw [List.flatten_append] at hD
  exact wl_free hD hS hA
theorem wl_joinB {bs1 : List va_W} {H1 : Heap} (hP : va_P D vwCl (bsC ++ bsR).flatten H) (hD : va_D A (bsC ++ bsR).flatten) (hF : ∀ q, va_A bsC.flatten H.size q → A q) (hk : ∀ q : Nat, q < H.size → ¬ va_A bsC.flatten H.size q → H1[q]? = H[q]?) (hP1 : va_P D vwCl bs1.flatten H1) (hD1 : va_D (va_A bsC.flatten H.size) bs1.flatten) : va_P D vwCl (bs1 ++ bsR).flatten H1 ∧ va_D A (bs1 ++ bsR).flatten := by
  rw [List.flatten_append] at hP hD ⊢
  exact wl_join hP hD hF hk hP1 hD1
theorem wl_iV {post : Int32 → List va_W → Prop} (S : CallFix p m c cc nL s args Ts own) (hM : Met l y wsy rm (wl_ic D cy X bsC H.size (.ref b :: As)) (va_Qi post (wl_ib D bsC H.size) (va_A bsC.flatten H.size)) mc ms (va_A bsC.flatten H.size)) (cw : CallW R s args own C index y bytes maxL ret wsy rm mc ms n) (hXb : FrameBlind (fun _ U => X U)) (hXs : ∀ U : State, U.heap = H → s.WarmedH U.vm → X U) (hK : va_K D vwCl (tyE cy) s) (hP : va_P D vwCl (bsC ++ bsR).flatten H) (hD : va_D A (bsC ++ bsR).flatten) (hS : va_S A H0 H locs) (hA : ∀ q, H0.size ≤ q → A q) {b0 : va_W} (h0 : bsC[0]? = some b0) {ci : Nat} {fs : List Value} (h1 : b0[0]? = some (b, .inr (ci, fs))) {rC : vw_C} (hc : vwCl[ci]? = some rC) (hC : rC.1 = C)
    (hn : As.length = n) (hsize : ls.size = nL) (hst : st = As.reverse ++ .ref b :: rest) (hrm : (rest.map fun v => v.category).sum ≤ 8) (hdg : decode cc pc = .ok (.invokevirtual index, 3)) (hcl : cells + mc ≤ R.cells ∧ slots + ms ≤ R.slots)
    (kk : ∀ (r : Int32) (bs1 : List va_W) (H1 : Heap) (locs1 : List Loc), post r bs1 → H.size ≤ H1.size → (∀ q : Nat, q < H.size → ¬ va_A bsC.flatten H.size q → H1[q]? = H[q]?) → va_P D vwCl (bs1 ++ bsR).flatten H1 → va_D A (bs1 ++ bsR).flatten → va_S A H0 H1 locs1 → W p l e R s m args below meth c H1 locs1 (cells + mc) (slots + ms) Q (F0 m (pc + 3) ls (.int r :: rest))) : W p l e R s m args below meth c H locs cells slots Q (F0 m pc ls st) := by
  have hF := wl_freeB hD hS hA
  refine va_calli (va_runV S hM cw (wl_preVi hXb hXs hK hP hD h0 h1 hc hC) rfl hn hsize hst (lv_room (m := m) (pc := pc) (ls := ls) (rest := st) hrm) hdg hcl) hS (fun q _ h => hF q h) hF (fun r u t H1 locs1 ht hvm hw hB hz hk hS1 => ?_)
  obtain ⟨hB1, hB2⟩ := hB
  rw [ht] at hB1
  obtain ⟨g1, g2⟩ := wl_joinB hP hD hF hk hB1 hB2
  exact kk r u H1 locs1 hw hz hk g1 g2 hS1
theorem wl_iVl {post : Int64 → List va_W → Prop} (S : CallFix p m c cc nL s args Ts own) (hM : Met l y wsy rm (wl_ic D cy X bsC H.size (.ref b :: As)) (va_Ql post (wl_ib D bsC H.size) (va_A bsC.flatten H.size)) mc ms (va_A bsC.flatten H.size)) (cw : CallW R s args own C index y bytes maxL ret wsy rm mc ms n) (hXb : FrameBlind (fun _ U => X U)) (hXs : ∀ U : State, U.heap = H → s.WarmedH U.vm → X U) (hK : va_K D vwCl (tyE cy) s) (hP : va_P D vwCl (bsC ++ bsR).flatten H) (hD : va_D A (bsC ++ bsR).flatten) (hS : va_S A H0 H locs) (hA : ∀ q, H0.size ≤ q → A q) {b0 : va_W} (h0 : bsC[0]? = some b0) {ci : Nat} {fs : List Value} (h1 : b0[0]? = some (b, .inr (ci, fs))) {rC : vw_C} (hc : vwCl[ci]? = some rC) (hC : rC.1 = C)
    (hn : As.length = n) (hsize : ls.size = nL) (hst : st = As.reverse ++ .ref b :: rest) (hrm : (rest.map fun v => v.category).sum ≤ 8) (hdg : decode cc pc = .ok (.invokevirtual index, 3)) (hcl : cells + mc ≤ R.cells ∧ slots + ms ≤ R.slots)
    (kk : ∀ (r : Int64) (bs1 : List va_W) (H1 : Heap) (locs1 : List Loc), post r bs1 → H.size ≤ H1.size → (∀ q : Nat, q < H.size → ¬ va_A bsC.flatten H.size q → H1[q]? = H[q]?) → va_P D vwCl (bs1 ++ bsR).flatten H1 → va_D A (bs1 ++ bsR).flatten → va_S A H0 H1 locs1 → W p l e R s m args below meth c H1 locs1 (cells + mc) (slots + ms) Q (F0 m (pc + 3) ls (.long r :: rest))) : W p l e R s m args below meth c H locs cells slots Q (F0 m pc ls st) := by
  have hF := wl_freeB hD hS hA
  refine va_calll (va_runV S hM cw (wl_preVi hXb hXs hK hP hD h0 h1 hc hC) rfl hn hsize hst (lv_room (m := m) (pc := pc) (ls := ls) (rest := st) hrm) hdg hcl) hS (fun q _ h => hF q h) hF (fun r u t H1 locs1 ht hvm hw hB hz hk hS1 => ?_)
  obtain ⟨hB1, hB2⟩ := hB
  rw [ht] at hB1
  obtain ⟨g1, g2⟩ := wl_joinB hP hD hF hk hB1 hB2
  exact kk r u H1 locs1 hw hz hk g1 g2 hS1
theorem wl_iVd {post : UInt64 → List va_W → Prop} (S : CallFix p m c cc nL s args Ts own) (hM : Met l y wsy rm (wl_ic D cy X bsC H.size (.ref b :: As)) (va_Qd post (wl_ib D bsC H.size) (va_A bsC.flatten H.size)) mc ms (va_A bsC.flatten H.size)) (cw : CallW R s args own C index y bytes maxL ret wsy rm mc ms n) (hXb : FrameBlind (fun _ U => X U)) (hXs : ∀ U : State, U.heap = H → s.WarmedH U.vm → X U) (hK : va_K D vwCl (tyE cy) s) (hP : va_P D vwCl (bsC ++ bsR).flatten H) (hD : va_D A (bsC ++ bsR).flatten) (hS : va_S A H0 H locs) (hA : ∀ q, H0.size ≤ q → A q) {b0 : va_W} (h0 : bsC[0]? = some b0) {ci : Nat} {fs : List Value} (h1 : b0[0]? = some (b, .inr (ci, fs))) {rC : vw_C} (hc : vwCl[ci]? = some rC) (hC : rC.1 = C)
    (hn : As.length = n) (hsize : ls.size = nL) (hst : st = As.reverse ++ .ref b :: rest) (hrm : (rest.map fun v => v.category).sum ≤ 8) (hdg : decode cc pc = .ok (.invokevirtual index, 3)) (hcl : cells + mc ≤ R.cells ∧ slots + ms ≤ R.slots)
    (kk : ∀ (r : UInt64) (bs1 : List va_W) (H1 : Heap) (locs1 : List Loc), post r bs1 → H.size ≤ H1.size → (∀ q : Nat, q < H.size → ¬ va_A bsC.flatten H.size q → H1[q]? = H[q]?) → va_P D vwCl (bs1 ++ bsR).flatten H1 → va_D A (bs1 ++ bsR).flatten → va_S A H0 H1 locs1 → W p l e R s m args below meth c H1 locs1 (cells + mc) (slots + ms) Q (F0 m (pc + 3) ls (.double r :: rest))) : W p l e R s m args below meth c H locs cells slots Q (F0 m pc ls st) := by
  have hF := wl_freeB hD hS hA
  refine va_calld (va_runV S hM cw (wl_preVi hXb hXs hK hP hD h0 h1 hc hC) rfl hn hsize hst (lv_room (m := m) (pc := pc) (ls := ls) (rest := st) hrm) hdg hcl) hS (fun q _ h => hF q h) hF (fun r u t H1 locs1 ht hvm hw hB hz hk hS1 => ?_)
  obtain ⟨hB1, hB2⟩ := hB
  rw [ht] at hB1
  obtain ⟨g1, g2⟩ := wl_joinB hP hD hF hk hB1 hB2
  exact kk r u H1 locs1 hw hz hk g1 g2 hS1
theorem wl_iVv {post : List va_W → Prop} (S : CallFix p m c cc nL s args Ts own) (hM : Met l y wsy rm (wl_ic D cy X bsC H.size (.ref b :: As)) (va_Qv post (wl_ib D bsC H.size) (va_A bsC.flatten H.size)) mc ms (va_A bsC.flatten H.size)) (cw : CallW R s args own C index y bytes maxL ret wsy rm mc ms n) (hXb : FrameBlind (fun _ U => X U)) (hXs : ∀ U : State, U.heap = H → s.WarmedH U.vm → X U) (hK : va_K D vwCl (tyE cy) s) (hP : va_P D vwCl (bsC ++ bsR).flatten H) (hD : va_D A (bsC ++ bsR).flatten) (hS : va_S A H0 H locs) (hA : ∀ q, H0.size ≤ q → A q) {b0 : va_W} (h0 : bsC[0]? = some b0) {ci : Nat} {fs : List Value} (h1 : b0[0]? = some (b, .inr (ci, fs))) {rC : vw_C} (hc : vwCl[ci]? = some rC) (hC : rC.1 = C)
    (hn : As.length = n) (hsize : ls.size = nL) (hst : st = As.reverse ++ .ref b :: rest) (hrm : (rest.map fun v => v.category).sum ≤ 8) (hdg : decode cc pc = .ok (.invokevirtual index, 3)) (hcl : cells + mc ≤ R.cells ∧ slots + ms ≤ R.slots)
    (kk : ∀ (bs1 : List va_W) (H1 : Heap) (locs1 : List Loc), post bs1 → H.size ≤ H1.size → (∀ q : Nat, q < H.size → ¬ va_A bsC.flatten H.size q → H1[q]? = H[q]?) → va_P D vwCl (bs1 ++ bsR).flatten H1 → va_D A (bs1 ++ bsR).flatten → va_S A H0 H1 locs1 → W p l e R s m args below meth c H1 locs1 (cells + mc) (slots + ms) Q (F0 m (pc + 3) ls rest)) : W p l e R s m args below meth c H locs cells slots Q (F0 m pc ls st) := by
  have hF := wl_freeB hD hS hA
  refine va_callv (va_runV S hM cw (wl_preVi hXb hXs hK hP hD h0 h1 hc hC) rfl hn hsize hst (lv_room (m := m) (pc := pc) (ls := ls) (rest := st) hrm) hdg hcl) hS (fun q _ h => hF q h) hF (fun u t H1 locs1 ht hvm hw hB hz hk hS1 => ?_)
  obtain ⟨hB1, hB2⟩ := hB
  rw [ht] at hB1
  obtain ⟨g1, g2⟩ := wl_joinB hP hD hF hk hB1 hB2
  exact kk u H1 locs1 hw hz hk g1 g2 hS1
theorem wl_iSv {post : List va_W → Prop} (S : CallFix p m c cc nL s args Ts own) (hM : Met l y wsy rm (wl_ic D cy X bsC H.size As) (va_Qv post (wl_ib D bsC H.size) (va_A bsC.flatten H.size)) mc ms (va_A bsC.flatten H.size)) (cw : CallB R s args own index y bytes maxL ret wsy rm mc ms n ∧ (Cond.static y).before args s = true) (hXb : FrameBlind (fun _ U => X U)) (hXs : ∀ U : State, U.heap = H → s.WarmedH U.vm → X U) (hK : va_K D vwCl (tyE cy) s) (hP : va_P D vwCl (bsC ++ bsR).flatten H) (hD : va_D A (bsC ++ bsR).flatten) (hS : va_S A H0 H locs) (hA : ∀ q, H0.size ≤ q → A q)
    (hn : As.length = n) (hsize : ls.size = nL) (hst : st = As.reverse ++ rest) (hrm : (rest.map fun v => v.category).sum ≤ 8) (hdg : decode cc pc = .ok (.invokestatic index, 3)) (hcl : cells + mc ≤ R.cells ∧ slots + ms ≤ R.slots)
    (kk : ∀ (bs1 : List va_W) (H1 : Heap) (locs1 : List Loc), post bs1 → H.size ≤ H1.size → (∀ q : Nat, q < H.size → ¬ va_A bsC.flatten H.size q → H1[q]? = H[q]?) → va_P D vwCl (bs1 ++ bsR).flatten H1 → va_D A (bs1 ++ bsR).flatten → va_S A H0 H1 locs1 → W p l e R s m args below meth c H1 locs1 (cells + mc) (slots + ms) Q (F0 m (pc + 3) ls rest)) : W p l e R s m args below meth c H locs cells slots Q (F0 m pc ls st) := by
  have hF := wl_freeB hD hS hA
  refine va_callv (va_runS S hM cw (wl_preSi hXb hXs hK hP hD) rfl hn hsize hst (lv_room (m := m) (pc := pc) (ls := ls) (rest := st) hrm) hdg hcl) hS (fun q _ h => hF q h) hF (fun u t H1 locs1 ht hvm hw hB hz hk hS1 => ?_)
  obtain ⟨hB1, hB2⟩ := hB
  rw [ht] at hB1
  obtain ⟨g1, g2⟩ := wl_joinB hP hD hF hk hB1 hB2
  exact kk u H1 locs1 hw hz hk g1 g2 hS1
theorem wl_iI {post : List va_W → Prop} (S : CallFix p m c cc nL s args Ts own) (hM : Met l y wsy rm (wl_ic D cy X bsC H.size (.ref b :: As)) (va_Qv post (wl_ib D bsC H.size) (va_A bsC.flatten H.size)) mc ms (va_A bsC.flatten H.size)) (cw : CallB R s args own index y bytes maxL none wsy rm mc ms n ∧ y.name = "<init>" ∧ (Cond.instanceMethod y).before args s = true) (hXb : FrameBlind (fun _ U => X U)) (hXs : ∀ U : State, U.heap = H → s.WarmedH U.vm → X U) (hK : va_K D vwCl (tyE cy) s) (hP : va_P D vwCl (bsC ++ bsR).flatten H) (hD : va_D A (bsC ++ bsR).flatten) (hS : va_S A H0 H locs) (hA : ∀ q, H0.size ≤ q → A q)
    (hn : As.length = n) (hsize : ls.size = nL) (hst : st = As.reverse ++ .ref b :: rest) (hrm : (rest.map fun v => v.category).sum ≤ 8) (hdg : decode cc pc = .ok (.invokespecial index, 3)) (hcl : cells + mc ≤ R.cells ∧ slots + ms ≤ R.slots)
    (kk : ∀ (bs1 : List va_W) (H1 : Heap) (locs1 : List Loc), post bs1 → H.size ≤ H1.size → (∀ q : Nat, q < H.size → ¬ va_A bsC.flatten H.size q → H1[q]? = H[q]?) → va_P D vwCl (bs1 ++ bsR).flatten H1 → va_D A (bs1 ++ bsR).flatten → va_S A H0 H1 locs1 → W p l e R s m args below meth c H1 locs1 (cells + mc) (slots + ms) Q (F0 m (pc + 3) ls rest)) : W p l e R s m args below meth c H locs cells slots Q (F0 m pc ls st) := by
  have hF := wl_freeB hD hS hA
  refine va_callv (va_runI S hM cw (wl_preSi hXb hXs hK hP hD) rfl hn hsize hst (lv_room (m := m) (pc := pc) (ls := ls) (rest := st) hrm) hdg hcl) hS (fun q _ h => hF q h) hF (fun u t H1 locs1 ht hvm hw hB hz hk hS1 => ?_)
  obtain ⟨hB1, hB2⟩ := hB
  rw [ht] at hB1
  obtain ⟨g1, g2⟩ := wl_joinB hP hD hF hk hB1 hB2
  exact kk u H1 locs1 hw hz hk g1 g2 hS1
theorem wl_iIN {host : String} {post : List va_W → Prop} (S : CallFix p m c cc nL s args Ts own) (hM : Met l y wsy rm (wl_ic D cy X bsC H.size (.ref b :: As)) (va_Qv post (wl_ib D bsC H.size) (va_A bsC.flatten H.size)) mc ms (va_A bsC.flatten H.size)) (cw : va_CN R s args own index y host bytes maxL none wsy rm mc ms n ∧ y.name = "<init>" ∧ (Cond.instanceMethod y).before args s = true) (hXb : FrameBlind (fun _ U => X U)) (hXs : ∀ U : State, U.heap = H → s.WarmedH U.vm → X U) (hK : va_K D vwCl (tyE cy) s) (hP : va_P D vwCl (bsC ++ bsR).flatten H) (hD : va_D A (bsC ++ bsR).flatten) (hS : va_S A H0 H locs) (hA : ∀ q, H0.size ≤ q → A q)
    (hn : As.length = n) (hsize : ls.size = nL) (hst : st = As.reverse ++ .ref b :: rest) (hrm : (rest.map fun v => v.category).sum ≤ 8) (hdg : decode cc pc = .ok (.invokespecial index, 3)) (hcl : cells + mc ≤ R.cells ∧ slots + ms ≤ R.slots)
    (kk : ∀ (bs1 : List va_W) (H1 : Heap) (locs1 : List Loc), post bs1 → H.size ≤ H1.size → (∀ q : Nat, q < H.size → ¬ va_A bsC.flatten H.size q → H1[q]? = H[q]?) → va_P D vwCl (bs1 ++ bsR).flatten H1 → va_D A (bs1 ++ bsR).flatten → va_S A H0 H1 locs1 → W p l e R s m args below meth c H1 locs1 (cells + mc) (slots + ms) Q (F0 m (pc + 3) ls rest)) : W p l e R s m args below meth c H locs cells slots Q (F0 m pc ls st) := by
  have hF := wl_freeB hD hS hA
  refine va_callv (va_runIN S hM cw (wl_preSi hXb hXs hK hP hD) rfl hn hsize hst (lv_room (m := m) (pc := pc) (ls := ls) (rest := st) hrm) hdg hcl) hS (fun q _ h => hF q h) hF (fun u t H1 locs1 ht hvm hw hB hz hk hS1 => ?_)
  obtain ⟨hB1, hB2⟩ := hB
  rw [ht] at hB1
  obtain ⟨g1, g2⟩ := wl_joinB hP hD hF hk hB1 hB2
  exact kk u H1 locs1 hw hz hk g1 g2 hS1
end WC
end
section
/-! OWN LIBRARY 4: how a method begins and ends -/
theorem wl_ofP {l : Launch} {y : MethodName} {ws ws' : List Cond} {rm : Room} {D : va_G} {cy : Nat → ClassId} {bs : List va_W} {av : List Value} {Qc : Array Value → State → Outcome → State → Prop} {cc : ByteArray} {maxL : Nat} {ret : Option FieldType} {mc ms : Nat} {free : Addr → Prop} (hy : plainName y.cls = true) (hw : ws = Cond.code y cc maxL ret :: ws') (hn : (lg_sl av).length ≤ maxL)
    (body : ∀ (p : Program) (e : Env) (s : State) (m : MethodId) (below : List Frame) (meth : Method) (c : Code) (ls : Array Slot), p.tables.exec = Jvm.exec → c.code = cc → meth.sig.returnType = ret → (∀ w ∈ ws, w.before av.toArray s = true) → s.vm.findClass y.cls = some m.cls → meth.locks = false → c.maxLocals = maxL → va_P D vwCl bs.flatten s.heap → va_K D vwCl (tyE cy) s → lv_has ls maxL (lv_args 0 av) → W p l e rm s m av.toArray below meth c s.heap [] 0 0 (MQ below Qc av.toArray s mc ms free) (F0 m 0 ls [])) : Met l y ws rm (wl_pc D cy bs av) Qc mc ms free := by
  refine Met.ofW (cc := cc) (maxL := maxL) (ret := ret) hy hw ?_
  intro p e s m args below meth c s₁ B hml hv
  obtain ⟨rfl, hP, hK⟩ := hv
  have hl := lv_entry av (n := maxL) hn
  rw [lg_entry_eq]
  exact body p e s m below meth c _ B.exec B.bytes B.returns (atoms_spec (ws := ws) B.pre) (findClass_of_methodNamed B.named) B.notSynchronized hml hP hK hl
theorem wl_ofI {l : Launch} {y : MethodName} {ws ws' : List Cond} {rm : Room} {D : va_G} {cy : Nat → ClassId} {X : State → Prop} {bs : List va_W} {sz : Nat} {av : List Value} {Qc : Array Value → State → Outcome → State → Prop} {cc : ByteArray} {maxL : Nat} {ret : Option FieldType} {mc ms : Nat} {free : Addr → Prop} (hy : plainName y.cls = true) (hw : ws = Cond.code y cc maxL ret :: ws') (hn : (lg_sl av).length ≤ maxL)
    (body : ∀ (p : Program) (e : Env) (s : State) (m : MethodId) (below : List Frame) (meth : Method) (c : Code) (ls : Array Slot) (A : Nat → Prop), p.tables.exec = Jvm.exec → c.code = cc → meth.sig.returnType = ret → (∀ w ∈ ws, w.before av.toArray s = true) → s.vm.findClass y.cls = some m.cls → meth.locks = false → c.maxLocals = maxL → meth.name = y.name → s.heap.size = sz → va_A bs.flatten sz = A → va_P D vwCl bs.flatten s.heap → va_K D vwCl (tyE cy) s → va_D A bs.flatten → X s → (∀ q : Nat, s.heap.size ≤ q → A q) → va_S A s.heap s.heap [] → lv_has ls maxL (lv_args 0 av) → W p l e rm s m av.toArray below meth c s.heap [] 0 0 (MQ below Qc av.toArray s mc ms free) (F0 m 0 ls [])) : Met l y ws rm (wl_ic D cy X bs sz av) Qc mc ms free := by
  refine Met.ofW (cc := cc) (maxL := maxL) (ret := ret) hy hw ?_
  intro p e s m args below meth c s₁ B hml hv
  obtain ⟨rfl, hsz, hP, hK, hD, hX⟩ := hv
  have hl := lv_entry av (n := maxL) hn
  rw [lg_entry_eq]
  refine body p e s m below meth c _ _ B.exec B.bytes B.returns (atoms_spec (ws := ws) B.pre) (findClass_of_methodNamed B.named) B.notSynchronized hml (name_of_methodNamed B.named B.method).1 hsz rfl hP hK hD.self hX (fun q h => Or.inr (by rw [← hsz]; exact h)) va_S.rf hl
section WE
variable {p : Program} {l : Launch} {e : Env} {R : Room} {s : State} {m : MethodId} {args : Array Value} {below : List Frame} {meth : Method} {c : Code} {H : Heap} {locs : List Loc} {cells slots : Nat} {Q : State → Prop}
variable {cc : ByteArray} {pc : Nat} {ls : Array Slot} {D : va_G} {A : Nat → Prop} {bs bs0 : List va_W} {sz : Nat}
theorem wl_ri {post : Int32 → Prop} {r : Int32} (hx : p.tables.exec = Jvm.exec) (hb : c.code = cc) (hr : meth.sig.returnType = some .int) (hlocks : meth.locks = false) (hp : post r) (hdg : decode cc pc = .ok (.ireturn, 1)) : W p l e R s m args below meth c s.heap [] cells slots (MQ below (vp_Si post) args s cells slots (fun _ => False)) (F0 m pc ls [.int r]) :=
  W.iret hx hb hr (fun t ht _ => ⟨r, rfl, hp, ht⟩) (fun _ h => nomatch h) hdg hlocks
theorem wl_rz {post : Int32 → Prop} {r : Int32} (P : Prop) [Decidable P] (hx : p.tables.exec = Jvm.exec) (hb : c.code = cc) (hr : meth.sig.returnType = some .boolean) (hlocks : meth.locks = false) (hv : r = if P then 1 else 0) (hp : post r) (hdg : decode cc pc = .ok (.ireturn, 1)) : W p l e R s m args below meth c s.heap [] cells slots (MQ below (vp_Si post) args s cells slots (fun _ => False)) (F0 m pc ls [.int r]) :=
  W.zret hx hb hr (by by_cases h : P <;> simp only [hv, h, if_true, if_false] <;> rfl) (fun t ht _ => ⟨r, rfl, hp, ht⟩) (fun _ h => nomatch h) hdg hlocks
theorem wl_rc {post : Int32 → Prop} {r : Int32} (hx : p.tables.exec = Jvm.exec) (hb : c.code = cc) (hr : meth.sig.returnType = some .char) (hlocks : meth.locks = false) (hv : vp_nar .char r = r) (hp : post r) (hdg : decode cc pc = .ok (.ireturn, 1)) : W p l e R s m args below meth c s.heap [] cells slots (MQ below (vp_Si post) args s cells slots (fun _ => False)) (F0 m pc ls [.int r]) :=
  W.zret hx hb hr (show narrow .char (.int r) = .int r from congrArg Value.int hv) (fun t ht _ => ⟨r, rfl, hp, ht⟩) (fun _ h => nomatch h) hdg hlocks
theorem wl_rl {post : Int64 → Prop} {r : Int64} (hx : p.tables.exec = Jvm.exec) (hb : c.code = cc) (hr : meth.sig.returnType = some .long) (hlocks : meth.locks = false) (hp : post r) (hdg : decode cc pc = .ok (.lreturn, 1)) : W p l e R s m args below meth c s.heap [] cells slots (MQ below (vp_Sl post) args s cells slots (fun _ => False)) (F0 m pc ls [.long r]) :=
  W.lret hx hb hr (fun t ht _ => ⟨r, rfl, hp, ht⟩) (fun _ h => nomatch h) hdg hlocks
theorem wl_rd {post : UInt64 → Prop} {r : UInt64} (hx : p.tables.exec = Jvm.exec) (hb : c.code = cc) (hr : meth.sig.returnType = some .double) (hlocks : meth.locks = false) (hp : post r) (hdg : decode cc pc = .ok (.dreturn, 1)) : W p l e R s m args below meth c s.heap [] cells slots (MQ below (vp_Sd post) args s cells slots (fun _ => False)) (F0 m pc ls [.double r]) :=
  W.dret hx hb hr (fun t ht _ => ⟨r, rfl, hp, ht⟩) (fun _ h => nomatch h) hdg hlocks
theorem wl_rq {post : Option Nat → Prop} {r : Option Nat} {C : String} (hx : p.tables.exec = Jvm.exec) (hb : c.code = cc) (hr : meth.sig.returnType = some (.object C)) (hlocks : meth.locks = false) (hp : post r) (hdg : decode cc pc = .ok (.areturn, 1)) : W p l e R s m args below meth c s.heap [] cells slots (MQ below (va_Sq post) args s cells slots (fun _ => False)) (F0 m pc ls [va_rf r]) :=
  W.aret hx hb hr (Or.inl ⟨C, rfl⟩) (va_rf_or r) (fun t ht _ => ⟨r, rfl, hp, ht⟩) (fun _ h => nomatch h) hdg hlocks
/-- with a world that has changed -/
theorem wl_Ri {post : Int32 → List va_W → Prop} {r : Int32} (hx : p.tables.exec = Jvm.exec) (hb : c.code = cc) (hr : meth.sig.returnType = some .int) (hlocks : meth.locks = false) (hA : va_A bs0.flatten sz = A) (hP : va_P D vwCl bs.flatten H) (hD : va_D A bs.flatten) (hS : va_S A s.heap H locs) (hp : post r bs) (hdg : decode cc pc = .ok (.ireturn, 1)) : W p l e R s m args below meth c H locs cells slots (MQ below (va_Qi post (wl_ib D bs0 sz) (va_A bs0.flatten sz)) args s cells slots (va_A bs0.flatten sz)) (F0 m pc ls [.int r]) := by
  subst hA
  exact W.iret hx hb hr (fun t ht hW => ⟨⟨r, bs, rfl, hp, by rw [ht]; exact hP, hD⟩, hS.F ht⟩) hS.2.2 hdg hlocks
theorem wl_Rz {post : Int32 → List va_W → Prop} {r : Int32} (P : Prop) [Decidable P] (hx : p.tables.exec = Jvm.exec) (hb : c.code = cc) (hr : meth.sig.returnType = some .boolean) (hlocks : meth.locks = false) (hA : va_A bs0.flatten sz = A) (hP : va_P D vwCl bs.flatten H) (hD : va_D A bs.flatten) (hS : va_S A s.heap H locs) (hv : r = if P then 1 else 0) (hp : post r bs) (hdg : decode cc pc = .ok (.ireturn, 1)) : W p l e R s m args below meth c H locs cells slots (MQ below (va_Qi post (wl_ib D bs0 sz) (va_A bs0.flatten sz)) args s cells slots (va_A bs0.flatten sz)) (F0 m pc ls [.int r]) := by
  subst hA
  exact W.zret hx hb hr (by by_cases h : P <;> simp only [hv, h, if_true, if_false] <;> rfl) (fun t ht hW => ⟨⟨r, bs, rfl, hp, by rw [ht]; exact hP, hD⟩, hS.F ht⟩) hS.2.2 hdg hlocks
theorem wl_Rl {post : Int64 → List va_W → Prop} {r : Int64} (hx : p.tables.exec = Jvm.exec) (hb : c.code = cc) (hr : meth.sig.returnType = some .long) (hlocks : meth.locks = false) (hA : va_A bs0.flatten sz = A) (hP : va_P D vwCl bs.flatten H) (hD : va_D A bs.flatten) (hS : va_S A s.heap H locs) (hp : post r bs) (hdg : decode cc pc = .ok (.lreturn, 1)) : W p l e R s m args below meth c H locs cells slots (MQ below (va_Ql post (wl_ib D bs0 sz) (va_A bs0.flatten sz)) args s cells slots (va_A bs0.flatten sz)) (F0 m pc ls [.long r]) := by
  subst hA
  exact W.lret hx hb hr (fun t ht hW => ⟨⟨r, bs, rfl, hp, by rw [ht]; exact hP, hD⟩, hS.F ht⟩) hS.2.2 hdg hlocks
theorem wl_Rd {post : UInt64 → List va_W → Prop} {r : UInt64} (hx : p.tables.exec = Jvm.exec) (hb : c.code = cc) (hr : meth.sig.returnType = some .double) (hlocks : meth.locks = false) (hA : va_A bs0.flatten sz = A) (hP : va_P D vwCl bs.flatten H) (hD : va_D A bs.flatten) (hS : va_S A s.heap H locs) (hp : post r bs) (hdg : decode cc pc = .ok (.dreturn, 1)) : W p l e R s m args below meth c H locs cells slots (MQ below (va_Qd post (wl_ib D bs0 sz) (va_A bs0.flatten sz)) args s cells slots (va_A bs0.flatten sz)) (F0 m pc ls [.double r]) := by
  subst hA
  exact W.dret hx hb hr (fun t ht hW => ⟨⟨r, bs, rfl, hp, by rw [ht]; exact hP, hD⟩, hS.F ht⟩) hS.2.2 hdg hlocks
theorem wl_Rv {post : List va_W → Prop} (hx : p.tables.exec = Jvm.exec) (hb : c.code = cc) (hr : meth.sig.returnType = none) (hlocks : meth.locks = false) (hA : va_A bs0.flatten sz = A) (hP : va_P D vwCl bs.flatten H) (hD : va_D A bs.flatten) (hS : va_S A s.heap H locs) (hp : post bs) (hdg : decode cc pc = .ok (.return_, 1)) : W p l e R s m args below meth c H locs cells slots (MQ below (va_Qv post (wl_ib D bs0 sz) (va_A bs0.flatten sz)) args s cells slots (va_A bs0.flatten sz)) (F0 m pc ls []) := by
  subst hA
  exact W.vret hx hb hr (fun t ht hW => ⟨⟨bs, rfl, hp, by rw [ht]; exact hP, hD⟩, hS.F ht⟩) hS.2.2 hdg hlocks
end WE
end
section
/-! THE STATES: a row of numbers a place; what a method reckons, as functions of them -/
/-- one place of one row -/
def su (v : Nat → Nat → Int32) (k i : Nat) (x : Int32) : Nat → Nat → Int32 := fun k' => if k' = k then upd (v k') i x else v k'
/-- a whole row -/
def sf (v : Nat → Nat → Int32) (k : Nat) (f : Nat → Int32) : Nat → Nat → Int32 := fun k' => if k' = k then f else v k'
/-- a State: 0 modes, 1 losses, 2 known, 3 shining, 4 came, 5 settings, 6 pulses; 7: pulseCount, gaps, taken, lost, dropped, refused -/
def stW (cy : Nat → ClassId) (a : Nat → Nat) (v : Nat → Nat → Int32) : va_W := [(a 0, .inr (2, [.ref (a 1), .ref (a 2), .ref (a 3), .ref (a 4), .ref (a 5), .ref (a 6), .ref (a 7), .int (v 7 0), .int (v 7 1), .int (v 7 2), .int (v 7 3), .int (v 7 4), .int (v 7 5)])), (a 1, .inl (cy 0, 8, .inl (v 0))), (a 2, .inl (cy 0, 8, .inl (v 1))), (a 3, .inl (cy 0, 8, .inl (v 2))), (a 4, .inl (cy 0, 8, .inl (v 3))), (a 5, .inl (cy 0, 8, .inl (v 4))), (a 6, .inl (cy 0, 3, .inl (v 5))), (a 7, .inl (cy 0, 120, .inl (v 6)))]
/-- a Journey: 0 came, 1 words, 2 pulses; 3: taken, first, end -/
def joW (cy : Nat → ClassId) (a : Nat → Nat) (w : Nat → Nat → Int32) : va_W := [(a 0, .inr (1, [.ref (a 1), .ref (a 2), .int (w 3 0), .ref (a 3), .int (w 3 1), .int (w 3 2)])), (a 1, .inl (cy 0, 8, .inl (w 0))), (a 2, .inl (cy 0, 8, .inl (w 1))), (a 3, .inl (cy 0, 120, .inl (w 2)))]
/-- a Text: 0 signs; 1: length -/
def txW (cy : Nat → ClassId) (a : Nat → Nat) (t : Nat → Nat → Int32) : va_W := [(a 0, .inr (3, [.ref (a 1), .int (t 1 0)])), (a 1, .inl (cy 1, 60, .inl (t 0)))]
/-- the reference: 0 z, 1 saved, 2 slots, 3 isKept, 4 text, 5 told; 6: savedMany, length, thrown, trial, toldMany, hasGap, spot -/
def moW (cy : Nat → ClassId) (a : Nat → Nat) (u : Nat → Nat → Int32) : va_W := [(a 0, .inr (5, [.ref (a 1), .ref (a 2), .int (u 6 0), .ref (a 3), .ref (a 4), .ref (a 5), .int (u 6 1), .int (u 6 2), .int (u 6 3), .ref (a 6), .int (u 6 4), .int (u 6 5), .int (u 6 6)])), (a 1, .inl (cy 0, 170, .inl (u 0))), (a 2, .inl (cy 0, 1020, .inl (u 1))), (a 3, .inl (cy 0, 340, .inl (u 2))), (a 4, .inl (cy 2, 2, .inl (u 3))), (a 5, .inl (cy 0, 60, .inl (u 4))), (a 6, .inl (cy 0, 10, .inl (u 5)))]
/-! sums and words -/
def q_in (f : Nat → Int32) : Nat → Int32 → Int32
  | 0, s => s
  | k + 1, s => q_in f k s + f k
def q_sum2 (g : Nat → Nat → Int32) : Nat → Int32
  | 0 => 0
  | j + 1 => q_in (g j) 3 (q_sum2 g j)
def q_sh (x l : Int32) : Int32 := if 1 ≤ x - l then x - l else 1
def q_ho (v : Nat → Nat → Int32) (x : Int32) : Int32 := if v 5 1 = 1 then (if ¬ x < v 5 0 then 8 else 4) else x
def q_br (w k : Int32) : Int32 := (w >>> ((8 - 4 * k) &&& 31)) &&& 15
def q_shn (v : Nat → Nat → Int32) (b w : Int32) : Int32 := if w ≤ 0 then b else if v 5 2 < w then b * v 5 2 / w else b
def q_cw (v : Nat → Nat → Int32) : Int32 := q_sum2 (fun j k => q_br (v 3 j) (nI k)) 8
end
section
/-! State: the small methods -/
set_option maxHeartbeats 4000000 in
set_option maxRecDepth 100000 in
theorem m_X2_shortened (l : Launch) (D : va_G) (cy : Nat → ClassId) (x l2 : Int32)  : Met l yX2_shortened wsX2_shortened ({ frames := 0, cells := 0, slots := 0, locals := 0 } : Room) (wl_pc D cy [] [.int x, .int l2]) (vp_Si (fun r : Int32 => r = q_sh x l2)) 0 0 (fun _ => False) := by
  refine wl_ofP (cc := cX2_shortened) (maxL := 2) (ret := (some .int)) (by decide) rfl (Nat.le_of_ble_eq_true rfl) ?_
  intro p e s m below meth c ls hx hb hr hts hown hlocks hml hP hK hl
  have hl : lv_has ls 2 [(0, .int x), (1, .int l2)] := hl
  refine lv_iload_n hx hb dX2_shortened_0 rfl (lv_at hl 0 rfl) ?_
  refine lv_iload_n hx hb dX2_shortened_1 rfl (lv_at hl 1 rfl) ?_
  refine lv_isub hx hb dX2_shortened_2 ?_
  refine lv_iconst (v := 1) hx hb dX2_shortened_3 (by decide) ?_
  have K3 : ∀ (ls : Array Slot) (v2 : Int32), v2 = (if 1 ≤ (x - l2) then (x - l2) else 1) → lv_has ls 2 [] → W p l e ({ frames := 0, cells := 0, slots := 0, locals := 0 } : Room) s m ([.int x, .int l2] : List Value).toArray below meth c s.heap [] 0 0 (MQ below (vp_Si (fun r : Int32 => r = q_sh x l2)) ([.int x, .int l2] : List Value).toArray s 0 0 (fun _ => False)) (F0 m 14 ls [.int v2]) := by
    intro ls v2 ev2  hl
    exact wl_ri (r := v2) hx hb hr hlocks (by subst ev2; rfl) dX2_shortened_14
  refine lv_icmp_ge (tgt := 11) hx hb dX2_shortened_4 (by decide) (fun c1 => ?_) (fun c1 => ?_)
  · refine lv_iload_n hx hb dX2_shortened_11 rfl (lv_at hl 0 rfl) ?_
    refine lv_iload_n hx hb dX2_shortened_12 rfl (lv_at hl 1 rfl) ?_
    refine lv_isub hx hb dX2_shortened_13 ?_
    exact K3 _ (x - l2) (by rw [if_pos c1]) (lv_sub hl [] rfl)
  · refine lv_iconst (v := 1) hx hb dX2_shortened_7 (by decide) ?_
    refine lv_goto (tgt := 14) hx hb dX2_shortened_8 (by decide) ?_
    exact K3 _ 1 (by rw [if_neg c1]) (lv_sub hl [] rfl)
set_option maxHeartbeats 4000000 in
set_option maxRecDepth 100000 in
theorem m_X2_lengthFor (l : Launch) (D : va_G) (cy : Nat → ClassId) (P : Prop) [Decidable P]  : Met l yX2_lengthFor wsX2_lengthFor ({ frames := 0, cells := 0, slots := 0, locals := 0 } : Room) (wl_pc D cy [] [.int (if P then 1 else 0)]) (vp_Si (fun r : Int32 => r = if P then 8 else 4)) 0 0 (fun _ => False) := by
  refine wl_ofP (cc := cX2_lengthFor) (maxL := 1) (ret := (some .int)) (by decide) rfl (Nat.le_of_ble_eq_true rfl) ?_
  intro p e s m below meth c ls hx hb hr hts hown hlocks hml hP hK hl
  have hl : lv_has ls 1 [(0, .int (if P then 1 else 0))] := hl
  refine lv_iload_n hx hb dX2_lengthFor_0 rfl (lv_at hl 0 rfl) ?_
  have K3 : ∀ (ls : Array Slot) (v2 : Int32), v2 = (if P then 8 else 4) → lv_has ls 1 [] → W p l e ({ frames := 0, cells := 0, slots := 0, locals := 0 } : Room) s m ([.int (if P then 1 else 0)] : List Value).toArray below meth c s.heap [] 0 0 (MQ below (vp_Si (fun r : Int32 => r = if P then 8 else 4)) ([.int (if P then 1 else 0)] : List Value).toArray s 0 0 (fun _ => False)) (F0 m 10 ls [.int v2]) := by
    intro ls v2 ev2  hl
    exact wl_ri (r := v2) hx hb hr hlocks (by subst ev2; rfl) dX2_lengthFor_10
  refine wl_b_eq (tgt := 9) hx hb P rfl dX2_lengthFor_1 (by decide) (fun c1 => ?_) (fun c1 => ?_)
  · refine lv_iconst (v := 4) hx hb dX2_lengthFor_9 (by decide) ?_
    exact K3 _ 4 (by rw [if_neg c1]) (lv_sub hl [] rfl)
  · refine lv_bipush (v := 8) hx hb dX2_lengthFor_4 (by decide) ?_
    refine lv_goto (tgt := 10) hx hb dX2_lengthFor_6 (by decide) ?_
    exact K3 _ 8 (by rw [if_pos c1]) (lv_sub hl [] rfl)
set_option maxHeartbeats 4000000 in
set_option maxRecDepth 100000 in
theorem m_X2_brightnessOf (l : Launch) (D : va_G) (cy : Nat → ClassId) (x k : Int32)  : Met l yX2_brightnessOf wsX2_brightnessOf ({ frames := 0, cells := 0, slots := 0, locals := 0 } : Room) (wl_pc D cy [] [.int x, .int k]) (vp_Si (fun r : Int32 => r = q_br x k)) 0 0 (fun _ => False) := by
  refine wl_ofP (cc := cX2_brightnessOf) (maxL := 2) (ret := (some .int)) (by decide) rfl (Nat.le_of_ble_eq_true rfl) ?_
  intro p e s m below meth c ls hx hb hr hts hown hlocks hml hP hK hl
  have hl : lv_has ls 2 [(0, .int x), (1, .int k)] := hl
  refine lv_iload_n hx hb dX2_brightnessOf_0 rfl (lv_at hl 0 rfl) ?_
  refine lv_bipush (v := 8) hx hb dX2_brightnessOf_1 (by decide) ?_
  refine lv_iconst (v := 4) hx hb dX2_brightnessOf_3 (by decide) ?_
  refine lv_iload_n hx hb dX2_brightnessOf_4 rfl (lv_at hl 1 rfl) ?_
  refine lv_imul hx hb dX2_brightnessOf_5 ?_
  refine lv_isub hx hb dX2_brightnessOf_6 ?_
  refine lv_ishr hx hb dX2_brightnessOf_7 ?_
  refine lv_bipush (v := 15) hx hb dX2_brightnessOf_8 (by decide) ?_
  refine lv_iand hx hb dX2_brightnessOf_10 ?_
  exact wl_ri (r := ((x >>> ((8 - (4 * k)) &&& 31)) &&& 15)) hx hb hr hlocks (by rfl) dX2_brightnessOf_11
set_option maxHeartbeats 4000000 in
set_option maxRecDepth 100000 in
theorem m_X2_takesWords (l : Launch) (D : va_G) (cy : Nat → ClassId) (a : Nat → Nat) (v : Nat → Nat → Int32) (j : Nat) (hj : j < 8) : Met l yX2_takesWords wsX2_takesWords ({ frames := 0, cells := 0, slots := 0, locals := 0 } : Room) (wl_pc D cy [stW cy a v] [.ref (a 0), .int (nI j)]) (vp_Si (fun r : Int32 => r = if (v 0 j = 0 ∨ v 0 j = 1) then 1 else 0)) 0 0 (fun _ => False) := by
  refine wl_ofP (cc := cX2_takesWords) (maxL := 2) (ret := (some .boolean)) (by decide) rfl (Nat.le_of_ble_eq_true rfl) ?_
  intro p e s m below meth c ls hx hb hr hts hown hlocks hml hP hK hl
  have hl : lv_has ls 2 [(0, .ref (a 0)), (1, .int (nI j))] := hl
  have lkf9 := hts (.fieldLink RX2 9 "WireLamps$State" "modes" "[I") (by decide +kernel)
  have in_X2 : ∀ w ∈ u_ws RX2 TX2 13, w ∈ wsX2_takesWords := by decide +kernel
  refine lv_aload_n hx hb dX2_takesWords_0 rfl (lv_at hl 0 rfl) ?_
  refine wl_getf (C := RX2) (T := TX2) (N := 13) (ci := 2) (v := .ref (a 1)) hx hb hts in_X2 hown hK hP 0 0 rfl rfl rfl 0 (by decide) lkf9 rfl rfl dX2_takesWords_1 ?_
  refine lv_iload_n hx hb dX2_takesWords_4 rfl (lv_at hl 1 rfl) ?_
  refine wl_iald hx hb hK hP 0 1 rfl rfl j (by omega) (Nat.le_of_ble_eq_true rfl) dX2_takesWords_5 ?_
  refine lv_if_eq (tgt := 19) hx hb dX2_takesWords_6 (by decide) (fun c1 => ?_) (fun c1 => ?_)
  · refine lv_iconst (v := 1) hx hb dX2_takesWords_19 (by decide) ?_
    refine lv_goto (tgt := 24) hx hb dX2_takesWords_20 (by decide) ?_
    exact wl_rz (r := 1) (True) hx hb hr hlocks (by rfl) (by exact (if_pos (by first | assumption | omega | simp [c1] | simp_all)).symm) dX2_takesWords_24
  · refine lv_aload_n hx hb dX2_takesWords_9 rfl (lv_at hl 0 rfl) ?_
    refine wl_getf (C := RX2) (T := TX2) (N := 13) (ci := 2) (v := .ref (a 1)) hx hb hts in_X2 hown hK hP 0 0 rfl rfl rfl 0 (by decide) lkf9 rfl rfl dX2_takesWords_10 ?_
    refine lv_iload_n hx hb dX2_takesWords_13 rfl (lv_at hl 1 rfl) ?_
    refine wl_iald hx hb hK hP 0 1 rfl rfl j (by omega) (Nat.le_of_ble_eq_true rfl) dX2_takesWords_14 ?_
    refine lv_iconst (v := 1) hx hb dX2_takesWords_15 (by decide) ?_
    refine lv_icmp_ne (tgt := 23) hx hb dX2_takesWords_16 (by decide) (fun c2 => ?_) (fun c2 => ?_)
    · refine lv_iconst (v := 0) hx hb dX2_takesWords_23 (by decide) ?_
      exact wl_rz (r := 0) (False) hx hb hr hlocks (by rfl) (by exact (if_neg (by first | assumption | omega | simp [c1, c2] | simp_all)).symm) dX2_takesWords_24
    · refine lv_iconst (v := 1) hx hb dX2_takesWords_19 (by decide) ?_
      refine lv_goto (tgt := 24) hx hb dX2_takesWords_20 (by decide) ?_
      exact wl_rz (r := 1) (True) hx hb hr hlocks (by rfl) (by exact (if_pos (by first | assumption | omega | simp [c1, c2] | simp_all)).symm) dX2_takesWords_24
set_option maxHeartbeats 4000000 in
set_option maxRecDepth 100000 in
theorem m_X2_isReadAs1 (l : Launch) (D : va_G) (cy : Nat → ClassId) (a : Nat → Nat) (v : Nat → Nat → Int32) (x : Int32)  : Met l yX2_isReadAs1 wsX2_isReadAs1 ({ frames := 0, cells := 0, slots := 0, locals := 0 } : Room) (wl_pc D cy [stW cy a v] [.ref (a 0), .int x]) (vp_Si (fun r : Int32 => r = if (¬ x < v 5 0) then 1 else 0)) 0 0 (fun _ => False) := by
  refine wl_ofP (cc := cX2_isReadAs1) (maxL := 2) (ret := (some .boolean)) (by decide) rfl (Nat.le_of_ble_eq_true rfl) ?_
  intro p e s m below meth c ls hx hb hr hts hown hlocks hml hP hK hl
  have hl : lv_has ls 2 [(0, .ref (a 0)), (1, .int x)] := hl
  have lkf27 := hts (.fieldLink RX2 27 "WireLamps$State" "settings" "[I") (by decide +kernel)
  have in_X2 : ∀ w ∈ u_ws RX2 TX2 13, w ∈ wsX2_isReadAs1 := by decide +kernel
  refine lv_iload_n hx hb dX2_isReadAs1_0 rfl (lv_at hl 1 rfl) ?_
  refine lv_aload_n hx hb dX2_isReadAs1_1 rfl (lv_at hl 0 rfl) ?_
  refine wl_getf (C := RX2) (T := TX2) (N := 13) (ci := 2) (v := .ref (a 6)) hx hb hts in_X2 hown hK hP 0 0 rfl rfl rfl 5 (by decide) lkf27 rfl rfl dX2_isReadAs1_2 ?_
  refine lv_iconst (v := 0) hx hb dX2_isReadAs1_5 (by decide) ?_
  refine wl_iald hx hb hK hP 0 6 rfl rfl 0 (by omega) (Nat.le_of_ble_eq_true rfl) dX2_isReadAs1_6 ?_
  refine lv_icmp_lt (tgt := 14) hx hb dX2_isReadAs1_7 (by decide) (fun c1 => ?_) (fun c1 => ?_)
  · refine lv_iconst (v := 0) hx hb dX2_isReadAs1_14 (by decide) ?_
    exact wl_rz (r := 0) (False) hx hb hr hlocks (by rfl) (by exact (if_neg (by first | assumption | omega | simp [c1] | simp_all)).symm) dX2_isReadAs1_15
  · refine lv_iconst (v := 1) hx hb dX2_isReadAs1_10 (by decide) ?_
    refine lv_goto (tgt := 15) hx hb dX2_isReadAs1_11 (by decide) ?_
    exact wl_rz (r := 1) (True) hx hb hr hlocks (by rfl) (by exact (if_pos (by first | assumption | omega | simp [c1] | simp_all)).symm) dX2_isReadAs1_15
set_option maxHeartbeats 4000000 in
set_option maxRecDepth 100000 in
theorem m_X2_hasRoomFor (l : Launch) (D : va_G) (cy : Nat → ClassId) (a : Nat → Nat) (v : Nat → Nat → Int32) (n k : Nat) (hn : v 7 0 = nI n) (hn2 : n ≤ 120) (hk : k ≤ 120) : Met l yX2_hasRoomFor wsX2_hasRoomFor ({ frames := 0, cells := 0, slots := 0, locals := 0 } : Room) (wl_pc D cy [stW cy a v] [.ref (a 0), .int (nI k)]) (vp_Si (fun r : Int32 => r = if (n + k ≤ 120) then 1 else 0)) 0 0 (fun _ => False) := by
  refine wl_ofP (cc := cX2_hasRoomFor) (maxL := 2) (ret := (some .boolean)) (by decide) rfl (Nat.le_of_ble_eq_true rfl) ?_
  intro p e s m below meth c ls hx hb hr hts hown hlocks hml hP hK hl
  have hl : lv_has ls 2 [(0, .ref (a 0)), (1, .int (nI k))] := hl
  have lkf39 := hts (.fieldLink RX2 39 "WireLamps$State" "pulseCount" "I") (by decide +kernel)
  have in_X2 : ∀ w ∈ u_ws RX2 TX2 13, w ∈ wsX2_hasRoomFor := by decide +kernel
  refine lv_aload_n hx hb dX2_hasRoomFor_0 rfl (lv_at hl 0 rfl) ?_
  refine wl_getf (C := RX2) (T := TX2) (N := 13) (ci := 2) (v := .int (v 7 0)) hx hb hts in_X2 hown hK hP 0 0 rfl rfl rfl 7 (by decide) lkf39 rfl rfl dX2_hasRoomFor_1 ?_
  refine wl_top (y := nI n) hn ?_
  refine lv_iload_n hx hb dX2_hasRoomFor_4 rfl (lv_at hl 1 rfl) ?_
  refine lv_iadd hx hb dX2_hasRoomFor_5 ?_
  refine wl_top (y := nI (n + k)) (nI_add n k) ?_
  refine lv_bipush (v := 120) hx hb dX2_hasRoomFor_6 (by decide) ?_
  refine wl_icmp_gt (tgt := 15) hx hb (n + k) 120 dX2_hasRoomFor_8 (by decide) (by omega) (by omega) (fun c1 => ?_) (fun c1 => ?_)
  · refine lv_iconst (v := 0) hx hb dX2_hasRoomFor_15 (by decide) ?_
    exact wl_rz (r := 0) (False) hx hb hr hlocks (by rfl) (by exact (if_neg (by first | assumption | omega | simp [c1] | simp_all)).symm) dX2_hasRoomFor_16
  · refine lv_iconst (v := 1) hx hb dX2_hasRoomFor_11 (by decide) ?_
    refine lv_goto (tgt := 16) hx hb dX2_hasRoomFor_12 (by decide) ?_
    exact wl_rz (r := 1) (True) hx hb hr hlocks (by rfl) (by exact (if_pos (by first | assumption | omega | simp [c1] | simp_all)).symm) dX2_hasRoomFor_16
set_option maxHeartbeats 4000000 in
set_option maxRecDepth 100000 in
theorem m_X2_handedOn (l : Launch) (D : va_G) (cy : Nat → ClassId) (a : Nat → Nat) (v : Nat → Nat → Int32) (x : Int32)  : Met l yX2_handedOn wsX2_handedOn ({ frames := 1, cells := 0, slots := 0, locals := 21 } : Room) (wl_pc D cy [stW cy a v] [.ref (a 0), .int x]) (vp_Si (fun r : Int32 => r = q_ho v x)) 0 0 (fun _ => False) := by
  refine wl_ofP (cc := cX2_handedOn) (maxL := 2) (ret := (some .int)) (by decide) rfl (Nat.le_of_ble_eq_true rfl) ?_
  intro p e s m below meth c ls hx hb hr hts hown hlocks hml hP hK hl
  have hl : lv_has ls 2 [(0, .ref (a 0)), (1, .int x)] := hl
  have lkf27 := hts (.fieldLink RX2 27 "WireLamps$State" "settings" "[I") (by decide +kernel)
  have in_X2 : ∀ w ∈ u_ws RX2 TX2 13, w ∈ wsX2_handedOn := by decide +kernel
  refine lv_aload_n hx hb dX2_handedOn_0 rfl (lv_at hl 0 rfl) ?_
  refine wl_getf (C := RX2) (T := TX2) (N := 13) (ci := 2) (v := .ref (a 6)) hx hb hts in_X2 hown hK hP 0 0 rfl rfl rfl 5 (by decide) lkf27 rfl rfl dX2_handedOn_1 ?_
  refine lv_iconst (v := 1) hx hb dX2_handedOn_4 (by decide) ?_
  refine wl_iald hx hb hK hP 0 6 rfl rfl 1 (by omega) (Nat.le_of_ble_eq_true rfl) dX2_handedOn_5 ?_
  refine lv_iconst (v := 1) hx hb dX2_handedOn_6 (by decide) ?_
  have K5 : ∀ (ls : Array Slot) (v4 : Int32), v4 = (if (v 5 1) = 1 then (if (¬ x < v 5 0) then 8 else 4) else x) → lv_has ls 2 [] → W p l e ({ frames := 1, cells := 0, slots := 0, locals := 21 } : Room) s m ([.ref (a 0), .int x] : List Value).toArray below meth c s.heap [] 0 0 (MQ below (vp_Si (fun r : Int32 => r = q_ho v x)) ([.ref (a 0), .int x] : List Value).toArray s 0 0 (fun _ => False)) (F0 m 22 ls [.int v4]) := by
    intro ls v4 ev4  hl
    exact wl_ri (r := v4) hx hb hr hlocks (by subst ev4; rfl) dX2_handedOn_22
  refine lv_icmp_ne (tgt := 21) hx hb dX2_handedOn_7 (by decide) (fun c1 => ?_) (fun c1 => ?_)
  · refine lv_iload_n hx hb dX2_handedOn_21 rfl (lv_at hl 1 rfl) ?_
    exact K5 _ x (by rw [if_neg c1]) (lv_sub hl [] rfl)
  · refine lv_aload_n hx hb dX2_handedOn_10 rfl (lv_at hl 0 rfl) ?_
    refine lv_iload_n hx hb dX2_handedOn_11 rfl (lv_at hl 1 rfl) ?_
    refine wl_pV (As := [.int x]) (rest := []) ⟨hx, hb, hml, hown, hts⟩ (m_X2_isReadAs1 l D cy a v x ) (cwV 1 hts gX2_handedOn_X2_isReadAs1 rfl rfl rfl (by decide +kernel) ⟨Nat.le_of_ble_eq_true rfl, Nat.le_of_ble_eq_true rfl⟩) hK hP [0] rfl rfl rfl rfl rfl rfl hl.1 rfl (Nat.le_of_ble_eq_true rfl) dX2_handedOn_12 ⟨Nat.le_of_ble_eq_true rfl, Nat.le_of_ble_eq_true rfl⟩ (fun r2 er2 => ?_)
    have er2 : r2 = if (¬ x < v 5 0) then 1 else 0 := er2
    refine wl_top (y := if (¬ x < v 5 0) then 1 else 0) er2 ?_
    refine wl_pS (As := [.int (if (¬ x < v 5 0) then 1 else 0)]) (rest := []) ⟨hx, hb, hml, hown, hts⟩ (m_X2_lengthFor l D cy (¬ x < v 5 0) ) (va_cwS 1 hts gX2_handedOn_X2_lengthFor rfl rfl rfl (by decide +kernel) ⟨Nat.le_of_ble_eq_true rfl, Nat.le_of_ble_eq_true rfl⟩) hK hP [] rfl rfl hl.1 rfl (Nat.le_of_ble_eq_true rfl) dX2_handedOn_15 ⟨Nat.le_of_ble_eq_true rfl, Nat.le_of_ble_eq_true rfl⟩ (fun r3 er3 => ?_)
    have er3 : r3 = if (¬ x < v 5 0) then 8 else 4 := er3
    subst er3
    refine lv_goto (tgt := 22) hx hb dX2_handedOn_18 (by decide) ?_
    exact K5 _ (if (¬ x < v 5 0) then 8 else 4) (by rw [if_pos c1]) (lv_sub hl [] rfl)
set_option maxHeartbeats 4000000 in
set_option maxRecDepth 100000 in
theorem m_X2_shown (l : Launch) (D : va_G) (cy : Nat → ClassId) (a : Nat → Nat) (v : Nat → Nat → Int32) (b w : Int32)  : Met l yX2_shown wsX2_shown ({ frames := 0, cells := 0, slots := 0, locals := 0 } : Room) (wl_pc D cy [stW cy a v] [.ref (a 0), .int b, .int w]) (vp_Si (fun r : Int32 => r = q_shn v b w)) 0 0 (fun _ => False) := by
  refine wl_ofP (cc := cX2_shown) (maxL := 3) (ret := (some .int)) (by decide) rfl (Nat.le_of_ble_eq_true rfl) ?_
  intro p e s m below meth c ls hx hb hr hts hown hlocks hml hP hK hl
  have hl : lv_has ls 3 [(0, .ref (a 0)), (1, .int b), (2, .int w)] := hl
  have lkf27 := hts (.fieldLink RX2 27 "WireLamps$State" "settings" "[I") (by decide +kernel)
  have in_X2 : ∀ w ∈ u_ws RX2 TX2 13, w ∈ wsX2_shown := by decide +kernel
  refine lv_iload_n hx hb dX2_shown_0 rfl (lv_at hl 2 rfl) ?_
  refine lv_if_le (tgt := 14) hx hb dX2_shown_1 (by decide) (fun c1 => ?_) (fun c1 => ?_)
  · refine lv_iload_n hx hb dX2_shown_14 rfl (lv_at hl 1 rfl) ?_
    exact wl_ri (r := b) hx hb hr hlocks (by unfold q_shn; rw [if_pos c1]) dX2_shown_15
  · refine lv_iload_n hx hb dX2_shown_4 rfl (lv_at hl 2 rfl) ?_
    refine lv_aload_n hx hb dX2_shown_5 rfl (lv_at hl 0 rfl) ?_
    refine wl_getf (C := RX2) (T := TX2) (N := 13) (ci := 2) (v := .ref (a 6)) hx hb hts in_X2 hown hK hP 0 0 rfl rfl rfl 5 (by decide) lkf27 rfl rfl dX2_shown_6 ?_
    refine lv_iconst (v := 2) hx hb dX2_shown_9 (by decide) ?_
    refine wl_iald hx hb hK hP 0 6 rfl rfl 2 (by omega) (Nat.le_of_ble_eq_true rfl) dX2_shown_10 ?_
    refine lv_icmp_gt (tgt := 16) hx hb dX2_shown_11 (by decide) (fun c2 => ?_) (fun c2 => ?_)
    · refine lv_iload_n hx hb dX2_shown_16 rfl (lv_at hl 1 rfl) ?_
      refine lv_aload_n hx hb dX2_shown_17 rfl (lv_at hl 0 rfl) ?_
      refine wl_getf (C := RX2) (T := TX2) (N := 13) (ci := 2) (v := .ref (a 6)) hx hb hts in_X2 hown hK hP 0 0 rfl rfl rfl 5 (by decide) lkf27 rfl rfl dX2_shown_18 ?_
      refine lv_iconst (v := 2) hx hb dX2_shown_21 (by decide) ?_
      refine wl_iald hx hb hK hP 0 6 rfl rfl 2 (by omega) (Nat.le_of_ble_eq_true rfl) dX2_shown_22 ?_
      refine lv_imul hx hb dX2_shown_23 ?_
      refine lv_iload_n hx hb dX2_shown_24 rfl (lv_at hl 2 rfl) ?_
      refine lv_idiv hx hb dX2_shown_25 (fun h => c1 (by rw [h]; decide)) ?_
      exact wl_ri (r := ((b * (v 5 2)) / w)) hx hb hr hlocks (by unfold q_shn; rw [if_neg c1, if_pos c2]) dX2_shown_26
    · refine lv_iload_n hx hb dX2_shown_14 rfl (lv_at hl 1 rfl) ?_
      exact wl_ri (r := b) hx hb hr hlocks (by unfold q_shn; rw [if_neg c1, if_neg c2]) dX2_shown_15
end
