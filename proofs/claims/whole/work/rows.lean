section
-- ===== PART A: goes FIRST, ahead of the names: the tables' words, and 'selects' of the private methods out of them =====
/-- a private method of a class that the tables say can be made, by its rows of tables_1 -/
def lw_okq (q : MethodName × Nat) : Prop := (q.1.cls ≠ "java/lang/invoke/MethodHandle" ∧ q.1.cls ≠ "java/lang/invoke/VarHandle") ∧ Cond.instantiable q.1.cls q.2 ∈ tables_1 ∧ Cond.privateMethod q.1 ∈ tables_1 ∧ Cond.instanceMethod q.1 ∈ tables_1
theorem lw_p0 : lw_okq (⟨"EachEye", "colouredCells", "()I"⟩, 16) := ⟨⟨by decide +kernel, by decide +kernel⟩, List.mem_of_getElem? (i := 14) (by decide +kernel), List.mem_of_getElem? (i := 254) (by decide +kernel), List.mem_of_getElem? (i := 255) (by decide +kernel)⟩
theorem lw_p1 : lw_okq (⟨"EachEye", "isInk", "(I)Z"⟩, 16) := ⟨⟨by decide +kernel, by decide +kernel⟩, List.mem_of_getElem? (i := 14) (by decide +kernel), List.mem_of_getElem? (i := 269) (by decide +kernel), List.mem_of_getElem? (i := 270) (by decide +kernel)⟩
theorem lw_p2 : lw_okq (⟨"EachEye", "known", "(I)LEachEye$Person;"⟩, 16) := ⟨⟨by decide +kernel, by decide +kernel⟩, List.mem_of_getElem? (i := 14) (by decide +kernel), List.mem_of_getElem? (i := 289) (by decide +kernel), List.mem_of_getElem? (i := 290) (by decide +kernel)⟩
theorem lw_p3 : lw_okq (⟨"EachEye", "toldPeople", "()I"⟩, 16) := ⟨⟨by decide +kernel, by decide +kernel⟩, List.mem_of_getElem? (i := 14) (by decide +kernel), List.mem_of_getElem? (i := 364) (by decide +kernel), List.mem_of_getElem? (i := 365) (by decide +kernel)⟩
theorem lw_p4 : lw_okq (⟨"EachEye", "fewestInks", "()I"⟩, 16) := ⟨⟨by decide +kernel, by decide +kernel⟩, List.mem_of_getElem? (i := 14) (by decide +kernel), List.mem_of_getElem? (i := 384) (by decide +kernel), List.mem_of_getElem? (i := 385) (by decide +kernel)⟩
theorem lw_p5 : lw_okq (⟨"EachEye", "suffices", "(I)Z"⟩, 16) := ⟨⟨by decide +kernel, by decide +kernel⟩, List.mem_of_getElem? (i := 14) (by decide +kernel), List.mem_of_getElem? (i := 394) (by decide +kernel), List.mem_of_getElem? (i := 395) (by decide +kernel)⟩
theorem lw_p6 : lw_okq (⟨"EachEye", "sufficesAt", "(II)Z"⟩, 16) := ⟨⟨by decide +kernel, by decide +kernel⟩, List.mem_of_getElem? (i := 14) (by decide +kernel), List.mem_of_getElem? (i := 398) (by decide +kernel), List.mem_of_getElem? (i := 399) (by decide +kernel)⟩
theorem lw_p7 : lw_okq (⟨"EachEye", "unionOf", "(I)I"⟩, 16) := ⟨⟨by decide +kernel, by decide +kernel⟩, List.mem_of_getElem? (i := 14) (by decide +kernel), List.mem_of_getElem? (i := 402) (by decide +kernel), List.mem_of_getElem? (i := 403) (by decide +kernel)⟩
theorem lw_p8 : lw_okq (⟨"EachEye", "isAsTold", "(II)Z"⟩, 16) := ⟨⟨by decide +kernel, by decide +kernel⟩, List.mem_of_getElem? (i := 14) (by decide +kernel), List.mem_of_getElem? (i := 406) (by decide +kernel), List.mem_of_getElem? (i := 407) (by decide +kernel)⟩
theorem lw_p9 : lw_okq (⟨"EachEye", "candidate", "(I)LEachEye$Person;"⟩, 16) := ⟨⟨by decide +kernel, by decide +kernel⟩, List.mem_of_getElem? (i := 14) (by decide +kernel), List.mem_of_getElem? (i := 426) (by decide +kernel), List.mem_of_getElem? (i := 427) (by decide +kernel)⟩
theorem lw_p10 : lw_okq (⟨"EachEye", "trial", "(III)LEachEye$Person;"⟩, 16) := ⟨⟨by decide +kernel, by decide +kernel⟩, List.mem_of_getElem? (i := 14) (by decide +kernel), List.mem_of_getElem? (i := 430) (by decide +kernel), List.mem_of_getElem? (i := 431) (by decide +kernel)⟩
theorem lw_p11 : lw_okq (⟨"EachEye", "countSayings", "()I"⟩, 16) := ⟨⟨by decide +kernel, by decide +kernel⟩, List.mem_of_getElem? (i := 14) (by decide +kernel), List.mem_of_getElem? (i := 443) (by decide +kernel), List.mem_of_getElem? (i := 444) (by decide +kernel)⟩
theorem lw_p12 : lw_okq (⟨"EachEye", "worstLeft", "(I)I"⟩, 16) := ⟨⟨by decide +kernel, by decide +kernel⟩, List.mem_of_getElem? (i := 14) (by decide +kernel), List.mem_of_getElem? (i := 447) (by decide +kernel), List.mem_of_getElem? (i := 448) (by decide +kernel)⟩
theorem lw_p13 : lw_okq (⟨"EachEye", "withPerson", "(JI)J"⟩, 16) := ⟨⟨by decide +kernel, by decide +kernel⟩, List.mem_of_getElem? (i := 14) (by decide +kernel), List.mem_of_getElem? (i := 535) (by decide +kernel), List.mem_of_getElem? (i := 536) (by decide +kernel)⟩
theorem lw_p14 : lw_okq (⟨"EachEyeModel", "faultOf", "()I"⟩, 25) := ⟨⟨by decide +kernel, by decide +kernel⟩, List.mem_of_getElem? (i := 543) (by decide +kernel), List.mem_of_getElem? (i := 641) (by decide +kernel), List.mem_of_getElem? (i := 642) (by decide +kernel)⟩
theorem lw_p15 : lw_okq (⟨"EachEyeModel", "isSix", "()Z"⟩, 25) := ⟨⟨by decide +kernel, by decide +kernel⟩, List.mem_of_getElem? (i := 543) (by decide +kernel), List.mem_of_getElem? (i := 651) (by decide +kernel), List.mem_of_getElem? (i := 652) (by decide +kernel)⟩
def lw_privs_1 : List (MethodName × Nat) := [(⟨"EachEye", "colouredCells", "()I"⟩, 16), (⟨"EachEye", "isInk", "(I)Z"⟩, 16), (⟨"EachEye", "known", "(I)LEachEye$Person;"⟩, 16), (⟨"EachEye", "toldPeople", "()I"⟩, 16), (⟨"EachEye", "fewestInks", "()I"⟩, 16), (⟨"EachEye", "suffices", "(I)Z"⟩, 16), (⟨"EachEye", "sufficesAt", "(II)Z"⟩, 16), (⟨"EachEye", "unionOf", "(I)I"⟩, 16), (⟨"EachEye", "isAsTold", "(II)Z"⟩, 16), (⟨"EachEye", "candidate", "(I)LEachEye$Person;"⟩, 16), (⟨"EachEye", "trial", "(III)LEachEye$Person;"⟩, 16), (⟨"EachEye", "countSayings", "()I"⟩, 16), (⟨"EachEye", "worstLeft", "(I)I"⟩, 16), (⟨"EachEye", "withPerson", "(JI)J"⟩, 16), (⟨"EachEyeModel", "faultOf", "()I"⟩, 25), (⟨"EachEyeModel", "isSix", "()Z"⟩, 25)]
theorem lw_r1 : ∀ q ∈ lw_privs_1, lw_okq q := List.forall_mem_cons.mpr ⟨lw_p0, List.forall_mem_cons.mpr ⟨lw_p1, List.forall_mem_cons.mpr ⟨lw_p2, List.forall_mem_cons.mpr ⟨lw_p3, List.forall_mem_cons.mpr ⟨lw_p4, List.forall_mem_cons.mpr ⟨lw_p5, List.forall_mem_cons.mpr ⟨lw_p6, List.forall_mem_cons.mpr ⟨lw_p7, List.forall_mem_cons.mpr ⟨lw_p8, List.forall_mem_cons.mpr ⟨lw_p9, List.forall_mem_cons.mpr ⟨lw_p10, List.forall_mem_cons.mpr ⟨lw_p11, List.forall_mem_cons.mpr ⟨lw_p12, List.forall_mem_cons.mpr ⟨lw_p13, List.forall_mem_cons.mpr ⟨lw_p14, List.forall_mem_cons.mpr ⟨lw_p15, fun _ h => absurd h List.not_mem_nil⟩⟩⟩⟩⟩⟩⟩⟩⟩⟩⟩⟩⟩⟩⟩⟩
theorem lw_p16 : lw_okq (⟨"EachEyeModel", "inkedCells", "()I"⟩, 25) := ⟨⟨by decide +kernel, by decide +kernel⟩, List.mem_of_getElem? (i := 543) (by decide +kernel), List.mem_of_getElem? (i := 655) (by decide +kernel), List.mem_of_getElem? (i := 656) (by decide +kernel)⟩
theorem lw_p17 : lw_okq (⟨"EachEyeModel", "isInk", "(I)Z"⟩, 25) := ⟨⟨by decide +kernel, by decide +kernel⟩, List.mem_of_getElem? (i := 543) (by decide +kernel), List.mem_of_getElem? (i := 668) (by decide +kernel), List.mem_of_getElem? (i := 669) (by decide +kernel)⟩
theorem lw_p18 : lw_okq (⟨"EachEyeModel", "isPerson", "(I)Z"⟩, 25) := ⟨⟨by decide +kernel, by decide +kernel⟩, List.mem_of_getElem? (i := 543) (by decide +kernel), List.mem_of_getElem? (i := 686) (by decide +kernel), List.mem_of_getElem? (i := 687) (by decide +kernel)⟩
theorem lw_p19 : lw_okq (⟨"EachEyeModel", "tell", "(II)I"⟩, 25) := ⟨⟨by decide +kernel, by decide +kernel⟩, List.mem_of_getElem? (i := 543) (by decide +kernel), List.mem_of_getElem? (i := 690) (by decide +kernel), List.mem_of_getElem? (i := 691) (by decide +kernel)⟩
theorem lw_p20 : lw_okq (⟨"EachEyeModel", "seesOf", "(II)I"⟩, 25) := ⟨⟨by decide +kernel, by decide +kernel⟩, List.mem_of_getElem? (i := 543) (by decide +kernel), List.mem_of_getElem? (i := 697) (by decide +kernel), List.mem_of_getElem? (i := 698) (by decide +kernel)⟩
theorem lw_p21 : lw_okq (⟨"EachEyeModel", "asTheyAre", "(I)I"⟩, 25) := ⟨⟨by decide +kernel, by decide +kernel⟩, List.mem_of_getElem? (i := 543) (by decide +kernel), List.mem_of_getElem? (i := 706) (by decide +kernel), List.mem_of_getElem? (i := 707) (by decide +kernel)⟩
theorem lw_p22 : lw_okq (⟨"EachEyeModel", "wordMany", "()I"⟩, 25) := ⟨⟨by decide +kernel, by decide +kernel⟩, List.mem_of_getElem? (i := 543) (by decide +kernel), List.mem_of_getElem? (i := 734) (by decide +kernel), List.mem_of_getElem? (i := 735) (by decide +kernel)⟩
theorem lw_p23 : lw_okq (⟨"EachEyeModel", "differOf", "(II)I"⟩, 25) := ⟨⟨by decide +kernel, by decide +kernel⟩, List.mem_of_getElem? (i := 543) (by decide +kernel), List.mem_of_getElem? (i := 746) (by decide +kernel), List.mem_of_getElem? (i := 747) (by decide +kernel)⟩
theorem lw_p24 : lw_okq (⟨"EachEyeModel", "alikeOf", "(II)I"⟩, 25) := ⟨⟨by decide +kernel, by decide +kernel⟩, List.mem_of_getElem? (i := 543) (by decide +kernel), List.mem_of_getElem? (i := 754) (by decide +kernel), List.mem_of_getElem? (i := 755) (by decide +kernel)⟩
theorem lw_p25 : lw_okq (⟨"EachEyeModel", "fewOf", "(I)I"⟩, 25) := ⟨⟨by decide +kernel, by decide +kernel⟩, List.mem_of_getElem? (i := 543) (by decide +kernel), List.mem_of_getElem? (i := 762) (by decide +kernel), List.mem_of_getElem? (i := 763) (by decide +kernel)⟩
theorem lw_p26 : lw_okq (⟨"EachEyeModel", "fewSet", "()I"⟩, 25) := ⟨⟨by decide +kernel, by decide +kernel⟩, List.mem_of_getElem? (i := 543) (by decide +kernel), List.mem_of_getElem? (i := 766) (by decide +kernel), List.mem_of_getElem? (i := 767) (by decide +kernel)⟩
theorem lw_p27 : lw_okq (⟨"EachEyeModel", "mayBeRead", "(II)Z"⟩, 25) := ⟨⟨by decide +kernel, by decide +kernel⟩, List.mem_of_getElem? (i := 543) (by decide +kernel), List.mem_of_getElem? (i := 773) (by decide +kernel), List.mem_of_getElem? (i := 774) (by decide +kernel)⟩
theorem lw_p28 : lw_okq (⟨"EachEyeModel", "isReadAt", "(II)Z"⟩, 25) := ⟨⟨by decide +kernel, by decide +kernel⟩, List.mem_of_getElem? (i := 543) (by decide +kernel), List.mem_of_getElem? (i := 777) (by decide +kernel), List.mem_of_getElem? (i := 778) (by decide +kernel)⟩
theorem lw_p29 : lw_okq (⟨"EachEyeModel", "isSo", "(I)Z"⟩, 25) := ⟨⟨by decide +kernel, by decide +kernel⟩, List.mem_of_getElem? (i := 543) (by decide +kernel), List.mem_of_getElem? (i := 793) (by decide +kernel), List.mem_of_getElem? (i := 794) (by decide +kernel)⟩
theorem lw_p30 : lw_okq (⟨"EachEyeModel", "draw", "(I)I"⟩, 25) := ⟨⟨by decide +kernel, by decide +kernel⟩, List.mem_of_getElem? (i := 543) (by decide +kernel), List.mem_of_getElem? (i := 809) (by decide +kernel), List.mem_of_getElem? (i := 810) (by decide +kernel)⟩
theorem lw_p31 : lw_okq (⟨"EachEyeModel", "readsAlike", "(III)Z"⟩, 25) := ⟨⟨by decide +kernel, by decide +kernel⟩, List.mem_of_getElem? (i := 543) (by decide +kernel), List.mem_of_getElem? (i := 817) (by decide +kernel), List.mem_of_getElem? (i := 818) (by decide +kernel)⟩
def lw_privs_2 : List (MethodName × Nat) := [(⟨"EachEyeModel", "inkedCells", "()I"⟩, 25), (⟨"EachEyeModel", "isInk", "(I)Z"⟩, 25), (⟨"EachEyeModel", "isPerson", "(I)Z"⟩, 25), (⟨"EachEyeModel", "tell", "(II)I"⟩, 25), (⟨"EachEyeModel", "seesOf", "(II)I"⟩, 25), (⟨"EachEyeModel", "asTheyAre", "(I)I"⟩, 25), (⟨"EachEyeModel", "wordMany", "()I"⟩, 25), (⟨"EachEyeModel", "differOf", "(II)I"⟩, 25), (⟨"EachEyeModel", "alikeOf", "(II)I"⟩, 25), (⟨"EachEyeModel", "fewOf", "(I)I"⟩, 25), (⟨"EachEyeModel", "fewSet", "()I"⟩, 25), (⟨"EachEyeModel", "mayBeRead", "(II)Z"⟩, 25), (⟨"EachEyeModel", "isReadAt", "(II)Z"⟩, 25), (⟨"EachEyeModel", "isSo", "(I)Z"⟩, 25), (⟨"EachEyeModel", "draw", "(I)I"⟩, 25), (⟨"EachEyeModel", "readsAlike", "(III)Z"⟩, 25)]
theorem lw_r2 : ∀ q ∈ lw_privs_2, lw_okq q := List.forall_mem_cons.mpr ⟨lw_p16, List.forall_mem_cons.mpr ⟨lw_p17, List.forall_mem_cons.mpr ⟨lw_p18, List.forall_mem_cons.mpr ⟨lw_p19, List.forall_mem_cons.mpr ⟨lw_p20, List.forall_mem_cons.mpr ⟨lw_p21, List.forall_mem_cons.mpr ⟨lw_p22, List.forall_mem_cons.mpr ⟨lw_p23, List.forall_mem_cons.mpr ⟨lw_p24, List.forall_mem_cons.mpr ⟨lw_p25, List.forall_mem_cons.mpr ⟨lw_p26, List.forall_mem_cons.mpr ⟨lw_p27, List.forall_mem_cons.mpr ⟨lw_p28, List.forall_mem_cons.mpr ⟨lw_p29, List.forall_mem_cons.mpr ⟨lw_p30, List.forall_mem_cons.mpr ⟨lw_p31, fun _ h => absurd h List.not_mem_nil⟩⟩⟩⟩⟩⟩⟩⟩⟩⟩⟩⟩⟩⟩⟩⟩
theorem lw_p32 : lw_okq (⟨"EachEyeModel", "countOf", "(I)I"⟩, 25) := ⟨⟨by decide +kernel, by decide +kernel⟩, List.mem_of_getElem? (i := 543) (by decide +kernel), List.mem_of_getElem? (i := 839) (by decide +kernel), List.mem_of_getElem? (i := 840) (by decide +kernel)⟩
theorem lw_p33 : lw_okq (⟨"EachEyeModel", "say", "(J)V"⟩, 25) := ⟨⟨by decide +kernel, by decide +kernel⟩, List.mem_of_getElem? (i := 543) (by decide +kernel), List.mem_of_getElem? (i := 848) (by decide +kernel), List.mem_of_getElem? (i := 849) (by decide +kernel)⟩
theorem lw_p34 : lw_okq (⟨"EachEyeModel", "sayPerson", "(I)V"⟩, 25) := ⟨⟨by decide +kernel, by decide +kernel⟩, List.mem_of_getElem? (i := 543) (by decide +kernel), List.mem_of_getElem? (i := 853) (by decide +kernel), List.mem_of_getElem? (i := 854) (by decide +kernel)⟩
def lw_privs_3 : List (MethodName × Nat) := [(⟨"EachEyeModel", "countOf", "(I)I"⟩, 25), (⟨"EachEyeModel", "say", "(J)V"⟩, 25), (⟨"EachEyeModel", "sayPerson", "(I)V"⟩, 25)]
theorem lw_r3 : ∀ q ∈ lw_privs_3, lw_okq q := List.forall_mem_cons.mpr ⟨lw_p32, List.forall_mem_cons.mpr ⟨lw_p33, List.forall_mem_cons.mpr ⟨lw_p34, fun _ h => absurd h List.not_mem_nil⟩⟩⟩
def lw_privs : List (MethodName × Nat) := lw_privs_1 ++ (lw_privs_2 ++ (lw_privs_3))
def lw_tbl : List Cond := k2_sels lw_privs ++ tables_1
theorem lw_privs_ok : ∀ q ∈ lw_privs, lw_okq q := by
  show ∀ q ∈ lw_privs_1 ++ (lw_privs_2 ++ (lw_privs_3)), lw_okq q
  exact List.forall_mem_append.mpr ⟨lw_r1, List.forall_mem_append.mpr ⟨lw_r2, lw_r3⟩⟩
-- ===== end of PART A; then your names; then what follows =====
/-! THE CLAIM OUT OF ONE WALK OF THE LAW'S BODY. Your part is whole_start (and what it stands on); all else here is the same for every law, but numbers. -/
def R_law : String := "EachEyeLaw"
def lw_P (b : Addr) (xs : List Int32) (args : Array Value) (s : State) : Prop := args = #[.ref b] ∧ s.IntsAt b xs ∧ xs.length ≤ 2560 ∧ (Jvm.Cond.and given_1 narrow_1).before args s = true
def lw_Q (_ : Array Value) (s : State) (o : Outcome) (t : State) : Prop := o = .returned (some (.int 1)) ∧ Framed s o t [] 600000 7302250
def lw_Z (below : List Frame) (a : Array Value) (s : State) : State → Prop := fun t => ∃ o, t.status = .running ∧ Ended t below o ∧ lw_Q a s o t
/-- the law's own end, with 1 on the stack, nothing written that was there before, its room as the claim has it -/
theorem lw_ret {p : Program} {l : Launch} {e : Env} {s : State} {m : MethodId} {below : List Frame} {meth : Method} {c : Code} {b : Nat} (hx : p.tables.exec = Jvm.exec) (hb : c.code = code) (hr : meth.sig.returnType = ret) (hlocks : meth.locks = false) {pc : Nat} {H : Heap} {ls : Array Slot} (hdg : decode code pc = .ok (.ireturn, 1)) : W p l e room_1 s m #[Value.ref b] below meth c H [] 600000 7302250 (lw_Z below #[Value.ref b] s) (F0 m pc ls [.int 1]) := by
  intro T hT X
  obtain ⟨fs, hret, hrun, hended, hW, hframe⟩ := X.leave (v := some (.int 1)) (hlocks := hlocks) (fun h => by rw [hr] at h; cases h)
  have hmeth' : T.vm.method? m = some meth := X.method'
  refine ⟨T.setFrames fs, ?_, .returned (some (.int 1)), hrun, hended, rfl, ⟨_, rfl⟩, hW, hframe⟩
  jvm_step X.here [X.here.top, hx, hb, hdg, hmeth', hr, ret, narrow_b1]
  (try refine ⟨rfl, ?_⟩); (try refine ⟨rfl, ?_⟩)
  first | (intro acts; rw [hret _ acts rfl rfl rfl]) | rw [hret _ _ rfl rfl rfl]
  exact Steps.refl _
/-- what holds at the law's entry: the machine, the code, the tables' words (any of lw_tbl by 'hts w (by decide +kernel)'), the script of L ints xs at the cell b, what the Statement gives of the start (any of its parts by flat_of_before) -/
def lw_At (p : Program) (s : State) (m : MethodId) (meth : Method) (c : Code) (b L : Nat) (xs : Nat → Int32) : Prop :=
  p.tables.exec = Jvm.exec ∧ c.code = code ∧ meth.sig.returnType = ret ∧ c.maxLocals = 4 ∧ s.vm.findClass R_law = some m.cls ∧ (∀ w ∈ lw_tbl, w.before #[Value.ref b] s = true) ∧ va_X b L xs s s.heap ∧ b < s.heap.size ∧ meth.locks = false ∧ (Jvm.Cond.and given_1 narrow_1).before #[Value.ref b] s = true
end
section
/-! ===== BEGIN words of one list among another's, by their places ===== -/
theorem goodIn_r {big : List Cond} (ws : List Cond) (ps : List Nat) (hp : ws = ps.filterMap (fun i => big[i]?)) (h : ws.all goodWord = true) : GoodIn big ws := by
  intro w hw
  have h1 := List.all_eq_true.mp h w hw
  rw [hp] at hw
  obtain ⟨i, -, hi⟩ := List.mem_filterMap.mp hw
  have hm : w ∈ big := by first | exact List.mem_of_getElem? hi | exact List.getElem?_mem hi
  exact ⟨hm, good_of_word h1⟩
theorem goodIn_app {big a b : List Cond} (ha : GoodIn big a) (hb : GoodIn big b) : GoodIn big (a ++ b) := fun w h => (List.mem_append.mp h).elim (ha w) (hb w)
theorem goodIn_ca {big a b : List Cond} {c : Cond} (ha : GoodIn big (c :: a)) (hb : GoodIn big b) : GoodIn big (c :: (a ++ b)) := fun w h => (List.mem_cons.mp h).elim (fun e => ha w (List.mem_cons.mpr (Or.inl e))) (fun h => (List.mem_append.mp h).elim (fun h => ha w (List.mem_cons.mpr (Or.inr h))) (hb w))
theorem goodIn_sub {big ws : List Cond} (hm : ∀ w ∈ ws, w ∈ big) (h : ws.all goodWord = true) : GoodIn big ws := fun w hw => ⟨hm w hw, good_of_word (List.all_eq_true.mp h w hw)⟩
/-! ===== END ===== -/

/-! ===== BEGIN printed: names, fields, word lists, decode rows ===== -/
def RX0 : String := "EachEye$Arguer"
def TX0 : u_T := fun k => match k with
  | 0 => ("EachEye$Person", "left", "I", false)
  | 1 => ("EachEye$Person", "right", "I", false)
  | 2 => ("EachEye$Person", "told", "I", false)
  | 3 => ("EachEye$Person", "keptLeft", "I", false)
  | 4 => ("EachEye$Person", "keptRight", "I", false)
  | _ => ("EachEye$Person", "keptTold", "I", false)
def tyX0 : Nat → FieldType := fun k => match k with
  | 0 => .int
  | 1 => .int
  | 2 => .int
  | 3 => .int
  | 4 => .int
  | _ => .int
abbrev wsX00 : List Cond := u_ws RX0 TX0 6
theorem nmX0 : ∀ a, a < 6 → ∀ b, b < 6 → a ≠ b → (TX0 a).2.1 ≠ (TX0 b).2.1 := by decide +kernel
theorem tyX0_ok : ∀ k, k < 6 → parseFieldDescriptor (TX0 k).2.2.1 = some (tyX0 k) := by decide +kernel
abbrev cX0_init : ByteArray := prog_2_method_1_code
def yX0_init : MethodName := ⟨RX0, "<init>", "()V"⟩
abbrev cX0_kind : ByteArray := prog_2_method_2_code
def yX0_kind : MethodName := ⟨RX0, "kind", "()I"⟩
abbrev cX0_glimpse : ByteArray := prog_2_method_3_code
def yX0_glimpse : MethodName := ⟨RX0, "glimpse", "(I)I"⟩
def RX1 : String := "EachEye$Cards"
def TX1 : u_T := fun k => match k with
  | 0 => ("EachEye$Cards", "shown", "[I", true)
  | 1 => ("EachEye$Cards", "said", "[I", true)
  | 2 => ("EachEye$Cards", "keptShown", "[I", true)
  | 3 => ("EachEye$Cards", "keptSaid", "[I", true)
  | 4 => ("EachEye$Cards", "size", "I", false)
  | _ => ("EachEye$Cards", "keptSize", "I", false)
def tyX1 : Nat → FieldType := fun k => match k with
  | 0 => .array .int
  | 1 => .array .int
  | 2 => .array .int
  | 3 => .array .int
  | 4 => .int
  | _ => .int
abbrev wsX10 : List Cond := u_ws RX1 TX1 6
theorem nmX1 : ∀ a, a < 6 → ∀ b, b < 6 → a ≠ b → (TX1 a).2.1 ≠ (TX1 b).2.1 := by decide +kernel
theorem tyX1_ok : ∀ k, k < 6 → parseFieldDescriptor (TX1 k).2.2.1 = some (tyX1 k) := by decide +kernel
abbrev cX1_init : ByteArray := prog_3_method_1_code
def yX1_init : MethodName := ⟨RX1, "<init>", "()V"⟩
abbrev cX1_put : ByteArray := prog_3_method_2_code
def yX1_put : MethodName := ⟨RX1, "put", "(II)V"⟩
abbrev cX1_clear : ByteArray := prog_3_method_3_code
def yX1_clear : MethodName := ⟨RX1, "clear", "()V"⟩
abbrev cX1_fit : ByteArray := prog_3_method_4_code
def yX1_fit : MethodName := ⟨RX1, "fit", "(LEachEye$Person;)Z"⟩
abbrev cX1_keep : ByteArray := prog_3_method_5_code
def yX1_keep : MethodName := ⟨RX1, "keep", "()V"⟩
abbrev cX1_goBack : ByteArray := prog_3_method_6_code
def yX1_goBack : MethodName := ⟨RX1, "goBack", "()V"⟩
def RX2 : String := "EachEye$Old"
def TX2 : u_T := fun k => match k with
  | 0 => ("EachEye$Person", "left", "I", false)
  | 1 => ("EachEye$Person", "right", "I", false)
  | 2 => ("EachEye$Person", "told", "I", false)
  | 3 => ("EachEye$Person", "keptLeft", "I", false)
  | 4 => ("EachEye$Person", "keptRight", "I", false)
  | _ => ("EachEye$Person", "keptTold", "I", false)
def tyX2 : Nat → FieldType := fun k => match k with
  | 0 => .int
  | 1 => .int
  | 2 => .int
  | 3 => .int
  | 4 => .int
  | _ => .int
abbrev wsX20 : List Cond := u_ws RX2 TX2 6
theorem nmX2 : ∀ a, a < 6 → ∀ b, b < 6 → a ≠ b → (TX2 a).2.1 ≠ (TX2 b).2.1 := by decide +kernel
theorem tyX2_ok : ∀ k, k < 6 → parseFieldDescriptor (TX2 k).2.2.1 = some (tyX2 k) := by decide +kernel
abbrev cX2_init : ByteArray := prog_4_method_1_code
def yX2_init : MethodName := ⟨RX2, "<init>", "()V"⟩
abbrev cX2_kind : ByteArray := prog_4_method_2_code
def yX2_kind : MethodName := ⟨RX2, "kind", "()I"⟩
abbrev cX2_glimpse : ByteArray := prog_4_method_3_code
def yX2_glimpse : MethodName := ⟨RX2, "glimpse", "(I)I"⟩
def RX3 : String := "EachEye$Page"
def TX3 : u_T := fun k => match k with
  | 0 => ("EachEye$Page", "codes", "[I", true)
  | _ => ("EachEye$Page", "size", "I", false)
def tyX3 : Nat → FieldType := fun k => match k with
  | 0 => .array .int
  | _ => .int
abbrev wsX30 : List Cond := u_ws RX3 TX3 2
theorem nmX3 : ∀ a, a < 2 → ∀ b, b < 2 → a ≠ b → (TX3 a).2.1 ≠ (TX3 b).2.1 := by decide +kernel
theorem tyX3_ok : ∀ k, k < 2 → parseFieldDescriptor (TX3 k).2.2.1 = some (tyX3 k) := by decide +kernel
abbrev cX3_init : ByteArray := prog_5_method_1_code
def yX3_init : MethodName := ⟨RX3, "<init>", "()V"⟩
abbrev cX3_put : ByteArray := prog_5_method_2_code
def yX3_put : MethodName := ⟨RX3, "put", "(I)V"⟩
abbrev cX3_empty : ByteArray := prog_5_method_3_code
def yX3_empty : MethodName := ⟨RX3, "empty", "()V"⟩
abbrev cX3_soundLetters : ByteArray := prog_5_method_4_code
def yX3_soundLetters : MethodName := ⟨RX3, "soundLetters", "()I"⟩
abbrev cX3_asText : ByteArray := prog_5_method_5_code
def yX3_asText : MethodName := ⟨RX3, "asText", "()I"⟩
def RX4 : String := "EachEye$Person"
def TX4 : u_T := fun k => match k with
  | 0 => ("EachEye$Person", "left", "I", false)
  | 1 => ("EachEye$Person", "right", "I", false)
  | 2 => ("EachEye$Person", "told", "I", false)
  | 3 => ("EachEye$Person", "keptLeft", "I", false)
  | 4 => ("EachEye$Person", "keptRight", "I", false)
  | _ => ("EachEye$Person", "keptTold", "I", false)
def tyX4 : Nat → FieldType := fun k => match k with
  | 0 => .int
  | 1 => .int
  | 2 => .int
  | 3 => .int
  | 4 => .int
  | _ => .int
abbrev wsX40 : List Cond := u_ws RX4 TX4 6
theorem nmX4 : ∀ a, a < 6 → ∀ b, b < 6 → a ≠ b → (TX4 a).2.1 ≠ (TX4 b).2.1 := by decide +kernel
theorem tyX4_ok : ∀ k, k < 6 → parseFieldDescriptor (TX4 k).2.2.1 = some (tyX4 k) := by decide +kernel
abbrev cX4_init : ByteArray := prog_6_method_1_code
def yX4_init : MethodName := ⟨RX4, "<init>", "()V"⟩
abbrev cX4_kind : ByteArray := prog_6_method_2_code
def yX4_kind : MethodName := ⟨RX4, "kind", "()I"⟩
abbrev cX4_glimpse : ByteArray := prog_6_method_3_code
def yX4_glimpse : MethodName := ⟨RX4, "glimpse", "(I)I"⟩
abbrev cX4_reading : ByteArray := prog_6_method_4_code
def yX4_reading : MethodName := ⟨RX4, "reading", "(I)I"⟩
abbrev cX4_truths : ByteArray := prog_6_method_5_code
def yX4_truths : MethodName := ⟨RX4, "truths", "()I"⟩
abbrev cX4_lose : ByteArray := prog_6_method_6_code
def yX4_lose : MethodName := ⟨RX4, "lose", "(II)V"⟩
abbrev cX4_keep : ByteArray := prog_6_method_7_code
def yX4_keep : MethodName := ⟨RX4, "keep", "()V"⟩
abbrev cX4_goBack : ByteArray := prog_6_method_8_code
def yX4_goBack : MethodName := ⟨RX4, "goBack", "()V"⟩
def RX5 : String := "EachEye$Spy"
def TX5 : u_T := fun k => match k with
  | 0 => ("EachEye$Person", "left", "I", false)
  | 1 => ("EachEye$Person", "right", "I", false)
  | 2 => ("EachEye$Person", "told", "I", false)
  | 3 => ("EachEye$Person", "keptLeft", "I", false)
  | 4 => ("EachEye$Person", "keptRight", "I", false)
  | _ => ("EachEye$Person", "keptTold", "I", false)
def tyX5 : Nat → FieldType := fun k => match k with
  | 0 => .int
  | 1 => .int
  | 2 => .int
  | 3 => .int
  | 4 => .int
  | _ => .int
abbrev wsX50 : List Cond := u_ws RX5 TX5 6
theorem nmX5 : ∀ a, a < 6 → ∀ b, b < 6 → a ≠ b → (TX5 a).2.1 ≠ (TX5 b).2.1 := by decide +kernel
theorem tyX5_ok : ∀ k, k < 6 → parseFieldDescriptor (TX5 k).2.2.1 = some (tyX5 k) := by decide +kernel
abbrev cX5_init : ByteArray := prog_7_method_1_code
def yX5_init : MethodName := ⟨RX5, "<init>", "()V"⟩
abbrev cX5_kind : ByteArray := prog_7_method_2_code
def yX5_kind : MethodName := ⟨RX5, "kind", "()I"⟩
abbrev cX5_glimpse : ByteArray := prog_7_method_3_code
def yX5_glimpse : MethodName := ⟨RX5, "glimpse", "(I)I"⟩
def RX6 : String := "EachEye$Winker"
def TX6 : u_T := fun k => match k with
  | 0 => ("EachEye$Person", "left", "I", false)
  | 1 => ("EachEye$Person", "right", "I", false)
  | 2 => ("EachEye$Person", "told", "I", false)
  | 3 => ("EachEye$Person", "keptLeft", "I", false)
  | 4 => ("EachEye$Person", "keptRight", "I", false)
  | _ => ("EachEye$Person", "keptTold", "I", false)
def tyX6 : Nat → FieldType := fun k => match k with
  | 0 => .int
  | 1 => .int
  | 2 => .int
  | 3 => .int
  | 4 => .int
  | _ => .int
abbrev wsX60 : List Cond := u_ws RX6 TX6 6
theorem nmX6 : ∀ a, a < 6 → ∀ b, b < 6 → a ≠ b → (TX6 a).2.1 ≠ (TX6 b).2.1 := by decide +kernel
theorem tyX6_ok : ∀ k, k < 6 → parseFieldDescriptor (TX6 k).2.2.1 = some (tyX6 k) := by decide +kernel
abbrev cX6_init : ByteArray := prog_8_method_1_code
def yX6_init : MethodName := ⟨RX6, "<init>", "()V"⟩
abbrev cX6_kind : ByteArray := prog_8_method_2_code
def yX6_kind : MethodName := ⟨RX6, "kind", "()I"⟩
abbrev cX6_glimpse : ByteArray := prog_8_method_3_code
def yX6_glimpse : MethodName := ⟨RX6, "glimpse", "(I)I"⟩
def RX7 : String := "EachEye"
def TX7 : u_T := fun k => match k with
  | 0 => ("EachEye", "page", "LEachEye$Page;", true)
  | 1 => ("EachEye", "people", "[LEachEye$Person;", true)
  | 2 => ("EachEye", "inks", "[I", true)
  | 3 => ("EachEye", "cards", "LEachEye$Cards;", true)
  | 4 => ("EachEye", "trials", "[LEachEye$Person;", true)
  | 5 => ("EachEye", "sayings", "[I", true)
  | 6 => ("EachEye", "theSign", "I", false)
  | 7 => ("EachEye", "peopleCount", "I", false)
  | 8 => ("EachEye", "inkCount", "I", false)
  | 9 => ("EachEye", "layersDone", "I", false)
  | 10 => ("EachEye", "signsRead", "I", false)
  | 11 => ("EachEye", "questionsDone", "I", false)
  | 12 => ("EachEye", "keptSign", "I", false)
  | 13 => ("EachEye", "keptPeople", "I", false)
  | 14 => ("EachEye", "keptInks", "I", false)
  | _ => ("EachEye", "keptLayers", "I", false)
def tyX7 : Nat → FieldType := fun k => match k with
  | 0 => .object "EachEye$Page"
  | 1 => .array (.object "EachEye$Person")
  | 2 => .array .int
  | 3 => .object "EachEye$Cards"
  | 4 => .array (.object "EachEye$Person")
  | 5 => .array .int
  | 6 => .int
  | 7 => .int
  | 8 => .int
  | 9 => .int
  | 10 => .int
  | 11 => .int
  | 12 => .int
  | 13 => .int
  | 14 => .int
  | _ => .int
abbrev wsX70 : List Cond := u_ws RX7 TX7 16
theorem nmX7 : ∀ a, a < 16 → ∀ b, b < 16 → a ≠ b → (TX7 a).2.1 ≠ (TX7 b).2.1 := by decide +kernel
theorem tyX7_ok : ∀ k, k < 16 → parseFieldDescriptor (TX7 k).2.2.1 = some (tyX7 k) := by decide +kernel
abbrev cX7_init : ByteArray := prog_1_method_1_code
def yX7_init : MethodName := ⟨RX7, "<init>", "()V"⟩
abbrev cX7_letter : ByteArray := prog_1_method_2_code
def yX7_letter : MethodName := ⟨RX7, "letter", "(I)I"⟩
abbrev cX7_blank : ByteArray := prog_1_method_3_code
def yX7_blank : MethodName := ⟨RX7, "blank", "()I"⟩
abbrev cX7_fault : ByteArray := prog_1_method_4_code
def yX7_fault : MethodName := ⟨RX7, "fault", "()I"⟩
abbrev cX7_sign : ByteArray := prog_1_method_5_code
def yX7_sign : MethodName := ⟨RX7, "sign", "()I"⟩
abbrev cX7_hue : ByteArray := prog_1_method_6_code
def yX7_hue : MethodName := ⟨RX7, "hue", "(I)I"⟩
abbrev cX7_layer : ByteArray := prog_1_method_7_code
def yX7_layer : MethodName := ⟨RX7, "layer", "(II)I"⟩
abbrev cX7_person : ByteArray := prog_1_method_8_code
def yX7_person : MethodName := ⟨RX7, "person", "(III)I"⟩
abbrev cX7_about : ByteArray := prog_1_method_9_code
def yX7_about : MethodName := ⟨RX7, "about", "(II)I"⟩
abbrev cX7_as : ByteArray := prog_1_method_10_code
def yX7_as : MethodName := ⟨RX7, "as", "(II)I"⟩
abbrev cX7_sees : ByteArray := prog_1_method_11_code
def yX7_sees : MethodName := ⟨RX7, "sees", "(II)I"⟩
abbrev cX7_eye : ByteArray := prog_1_method_12_code
def yX7_eye : MethodName := ⟨RX7, "eye", "(III)I"⟩
abbrev cX7_ink : ByteArray := prog_1_method_13_code
def yX7_ink : MethodName := ⟨RX7, "ink", "(I)I"⟩
abbrev cX7_inkOf : ByteArray := prog_1_method_14_code
def yX7_inkOf : MethodName := ⟨RX7, "inkOf", "(I)I"⟩
abbrev cX7_word : ByteArray := prog_1_method_15_code
def yX7_word : MethodName := ⟨RX7, "word", "(I)I"⟩
abbrev cX7_unword : ByteArray := prog_1_method_16_code
def yX7_unword : MethodName := ⟨RX7, "unword", "(I)I"⟩
abbrev cX7_differ : ByteArray := prog_1_method_17_code
def yX7_differ : MethodName := ⟨RX7, "differ", "(II)I"⟩
abbrev cX7_alike : ByteArray := prog_1_method_18_code
def yX7_alike : MethodName := ⟨RX7, "alike", "(II)I"⟩
abbrev cX7_few : ByteArray := prog_1_method_19_code
def yX7_few : MethodName := ⟨RX7, "few", "(I)I"⟩
abbrev cX7_card : ByteArray := prog_1_method_20_code
def yX7_card : MethodName := ⟨RX7, "card", "(II)I"⟩
abbrev cX7_forget : ByteArray := prog_1_method_21_code
def yX7_forget : MethodName := ⟨RX7, "forget", "()I"⟩
abbrev cX7_who : ByteArray := prog_1_method_22_code
def yX7_who : MethodName := ⟨RX7, "who", "(I)I"⟩
abbrev cX7_next : ByteArray := prog_1_method_23_code
def yX7_next : MethodName := ⟨RX7, "next", "()I"⟩
abbrev cX7_ageing : ByteArray := prog_1_method_24_code
def yX7_ageing : MethodName := ⟨RX7, "ageing", "(IIII)I"⟩
abbrev cX7_image : ByteArray := prog_1_method_25_code
def yX7_image : MethodName := ⟨RX7, "image", "()I"⟩
abbrev cX7_restore : ByteArray := prog_1_method_26_code
def yX7_restore : MethodName := ⟨RX7, "restore", "()I"⟩
abbrev cX7_count : ByteArray := prog_1_method_27_code
def yX7_count : MethodName := ⟨RX7, "count", "(I)I"⟩
abbrev cX7_digest : ByteArray := prog_1_method_28_code
def yX7_digest : MethodName := ⟨RX7, "digest", "()J"⟩
abbrev cX7_withPerson : ByteArray := prog_1_method_29_code
def yX7_withPerson : MethodName := ⟨RX7, "withPerson", "(JI)J"⟩
abbrev cX7_isHue : ByteArray := prog_1_method_30_code
def yX7_isHue : MethodName := ⟨RX7, "isHue", "(I)Z"⟩
abbrev cX7_hueAt : ByteArray := prog_1_method_31_code
def yX7_hueAt : MethodName := ⟨RX7, "hueAt", "(II)I"⟩
abbrev cX7_withHue : ByteArray := prog_1_method_32_code
def yX7_withHue : MethodName := ⟨RX7, "withHue", "(III)I"⟩
abbrev cX7_holds : ByteArray := prog_1_method_33_code
def yX7_holds : MethodName := ⟨RX7, "holds", "(II)Z"⟩
abbrev cX7_colouredCells : ByteArray := prog_1_method_34_code
def yX7_colouredCells : MethodName := ⟨RX7, "colouredCells", "()I"⟩
abbrev cX7_isKind : ByteArray := prog_1_method_35_code
def yX7_isKind : MethodName := ⟨RX7, "isKind", "(I)Z"⟩
abbrev cX7_newPerson : ByteArray := prog_1_method_36_code
def yX7_newPerson : MethodName := ⟨RX7, "newPerson", "(I)LEachEye$Person;"⟩
abbrev cX7_isOf : ByteArray := prog_1_method_37_code
def yX7_isOf : MethodName := ⟨RX7, "isOf", "(LEachEye$Person;I)Z"⟩
abbrev cX7_known : ByteArray := prog_1_method_38_code
def yX7_known : MethodName := ⟨RX7, "known", "(I)LEachEye$Person;"⟩
abbrev cX7_isInk : ByteArray := prog_1_method_39_code
def yX7_isInk : MethodName := ⟨RX7, "isInk", "(I)Z"⟩
abbrev cX7_toldPeople : ByteArray := prog_1_method_40_code
def yX7_toldPeople : MethodName := ⟨RX7, "toldPeople", "()I"⟩
abbrev cX7_fewestInks : ByteArray := prog_1_method_41_code
def yX7_fewestInks : MethodName := ⟨RX7, "fewestInks", "()I"⟩
abbrev cX7_suffices : ByteArray := prog_1_method_42_code
def yX7_suffices : MethodName := ⟨RX7, "suffices", "(I)Z"⟩
abbrev cX7_sufficesAt : ByteArray := prog_1_method_43_code
def yX7_sufficesAt : MethodName := ⟨RX7, "sufficesAt", "(II)Z"⟩
abbrev cX7_isAsTold : ByteArray := prog_1_method_44_code
def yX7_isAsTold : MethodName := ⟨RX7, "isAsTold", "(II)Z"⟩
abbrev cX7_unionOf : ByteArray := prog_1_method_45_code
def yX7_unionOf : MethodName := ⟨RX7, "unionOf", "(I)I"⟩
abbrev cX7_trial : ByteArray := prog_1_method_46_code
def yX7_trial : MethodName := ⟨RX7, "trial", "(III)LEachEye$Person;"⟩
abbrev cX7_candidate : ByteArray := prog_1_method_47_code
def yX7_candidate : MethodName := ⟨RX7, "candidate", "(I)LEachEye$Person;"⟩
abbrev cX7_countSayings : ByteArray := prog_1_method_48_code
def yX7_countSayings : MethodName := ⟨RX7, "countSayings", "()I"⟩
abbrev cX7_worstLeft : ByteArray := prog_1_method_49_code
def yX7_worstLeft : MethodName := ⟨RX7, "worstLeft", "(I)I"⟩
abbrev cX7_nextSeed : ByteArray := prog_1_method_50_code
def yX7_nextSeed : MethodName := ⟨RX7, "nextSeed", "(I)I"⟩
abbrev cX7_drawn : ByteArray := prog_1_method_51_code
def yX7_drawn : MethodName := ⟨RX7, "drawn", "(II)I"⟩
def RX8 : String := "EachEyeModel"
def TX8 : u_T := fun k => match k with
  | 0 => ("EachEyeModel", "page", "[I", true)
  | 1 => ("EachEyeModel", "pageMany", "I", false)
  | 2 => ("EachEyeModel", "isThere", "Z", false)
  | 3 => ("EachEyeModel", "layers", "I", false)
  | 4 => ("EachEyeModel", "signsRead", "I", false)
  | 5 => ("EachEyeModel", "hues", "[I", true)
  | 6 => ("EachEyeModel", "people", "I", false)
  | 7 => ("EachEyeModel", "inks", "I", false)
  | 8 => ("EachEyeModel", "rows", "[I", true)
  | 9 => ("EachEyeModel", "inkHues", "[I", true)
  | 10 => ("EachEyeModel", "cards", "I", false)
  | 11 => ("EachEyeModel", "asked", "I", false)
  | 12 => ("EachEyeModel", "cardRows", "[I", true)
  | 13 => ("EachEyeModel", "says", "[I", true)
  | 14 => ("EachEyeModel", "seedNow", "I", false)
  | 15 => ("EachEyeModel", "keptSign", "I", false)
  | 16 => ("EachEyeModel", "keptPeople", "I", false)
  | 17 => ("EachEyeModel", "keptInks", "I", false)
  | 18 => ("EachEyeModel", "keptCards", "I", false)
  | 19 => ("EachEyeModel", "keptLayers", "I", false)
  | 20 => ("EachEyeModel", "keptHues", "[I", true)
  | 21 => ("EachEyeModel", "keptRows", "[I", true)
  | 22 => ("EachEyeModel", "keptInkHues", "[I", true)
  | 23 => ("EachEyeModel", "keptCardRows", "[I", true)
  | _ => ("EachEyeModel", "hash", "J", false)
def tyX8 : Nat → FieldType := fun k => match k with
  | 0 => .array .int
  | 1 => .int
  | 2 => .boolean
  | 3 => .int
  | 4 => .int
  | 5 => .array .int
  | 6 => .int
  | 7 => .int
  | 8 => .array .int
  | 9 => .array .int
  | 10 => .int
  | 11 => .int
  | 12 => .array .int
  | 13 => .array .int
  | 14 => .int
  | 15 => .int
  | 16 => .int
  | 17 => .int
  | 18 => .int
  | 19 => .int
  | 20 => .array .int
  | 21 => .array .int
  | 22 => .array .int
  | 23 => .array .int
  | _ => .long
abbrev wsX80 : List Cond := u_ws RX8 TX8 25
theorem nmX8 : ∀ a, a < 25 → ∀ b, b < 25 → a ≠ b → (TX8 a).2.1 ≠ (TX8 b).2.1 := by decide +kernel
theorem tyX8_ok : ∀ k, k < 25 → parseFieldDescriptor (TX8 k).2.2.1 = some (tyX8 k) := by decide +kernel
abbrev cX8_init : ByteArray := prog_10_method_1_code
def yX8_init : MethodName := ⟨RX8, "<init>", "()V"⟩
abbrev cX8_in : ByteArray := prog_10_method_2_code
def yX8_in : MethodName := ⟨RX8, "in", "(JJJ)Z"⟩
abbrev cX8_isHue : ByteArray := prog_10_method_3_code
def yX8_isHue : MethodName := ⟨RX8, "isHue", "(I)Z"⟩
abbrev cX8_letter : ByteArray := prog_10_method_4_code
def yX8_letter : MethodName := ⟨RX8, "letter", "(I)I"⟩
abbrev cX8_blank : ByteArray := prog_10_method_5_code
def yX8_blank : MethodName := ⟨RX8, "blank", "()I"⟩
abbrev cX8_faultOf : ByteArray := prog_10_method_6_code
def yX8_faultOf : MethodName := ⟨RX8, "faultOf", "()I"⟩
abbrev cX8_fault : ByteArray := prog_10_method_7_code
def yX8_fault : MethodName := ⟨RX8, "fault", "()I"⟩
abbrev cX8_isSix : ByteArray := prog_10_method_8_code
def yX8_isSix : MethodName := ⟨RX8, "isSix", "()Z"⟩
abbrev cX8_inkedCells : ByteArray := prog_10_method_9_code
def yX8_inkedCells : MethodName := ⟨RX8, "inkedCells", "()I"⟩
abbrev cX8_sign : ByteArray := prog_10_method_10_code
def yX8_sign : MethodName := ⟨RX8, "sign", "()I"⟩
abbrev cX8_hue : ByteArray := prog_10_method_11_code
def yX8_hue : MethodName := ⟨RX8, "hue", "(I)I"⟩
abbrev cX8_isPerson : ByteArray := prog_10_method_12_code
def yX8_isPerson : MethodName := ⟨RX8, "isPerson", "(I)Z"⟩
abbrev cX8_isInk : ByteArray := prog_10_method_13_code
def yX8_isInk : MethodName := ⟨RX8, "isInk", "(I)Z"⟩
abbrev cX8_layer : ByteArray := prog_10_method_14_code
def yX8_layer : MethodName := ⟨RX8, "layer", "(II)I"⟩
abbrev cX8_seenBy : ByteArray := prog_10_method_15_code
def yX8_seenBy : MethodName := ⟨RX8, "seenBy", "(IIII)I"⟩
abbrev cX8_seesOf : ByteArray := prog_10_method_16_code
def yX8_seesOf : MethodName := ⟨RX8, "seesOf", "(II)I"⟩
abbrev cX8_person : ByteArray := prog_10_method_17_code
def yX8_person : MethodName := ⟨RX8, "person", "(III)I"⟩
abbrev cX8_asTheyAre : ByteArray := prog_10_method_18_code
def yX8_asTheyAre : MethodName := ⟨RX8, "asTheyAre", "(I)I"⟩
abbrev cX8_tell : ByteArray := prog_10_method_19_code
def yX8_tell : MethodName := ⟨RX8, "tell", "(II)I"⟩
abbrev cX8_about : ByteArray := prog_10_method_20_code
def yX8_about : MethodName := ⟨RX8, "about", "(II)I"⟩
abbrev cX8_as : ByteArray := prog_10_method_21_code
def yX8_as : MethodName := ⟨RX8, "as", "(II)I"⟩
abbrev cX8_sees : ByteArray := prog_10_method_22_code
def yX8_sees : MethodName := ⟨RX8, "sees", "(II)I"⟩
abbrev cX8_eye : ByteArray := prog_10_method_23_code
def yX8_eye : MethodName := ⟨RX8, "eye", "(III)I"⟩
abbrev cX8_ink : ByteArray := prog_10_method_24_code
def yX8_ink : MethodName := ⟨RX8, "ink", "(I)I"⟩
abbrev cX8_inkOf : ByteArray := prog_10_method_25_code
def yX8_inkOf : MethodName := ⟨RX8, "inkOf", "(I)I"⟩
abbrev cX8_wordMany : ByteArray := prog_10_method_26_code
def yX8_wordMany : MethodName := ⟨RX8, "wordMany", "()I"⟩
abbrev cX8_word : ByteArray := prog_10_method_27_code
def yX8_word : MethodName := ⟨RX8, "word", "(I)I"⟩
abbrev cX8_unword : ByteArray := prog_10_method_28_code
def yX8_unword : MethodName := ⟨RX8, "unword", "(I)I"⟩
abbrev cX8_differOf : ByteArray := prog_10_method_29_code
def yX8_differOf : MethodName := ⟨RX8, "differOf", "(II)I"⟩
abbrev cX8_differ : ByteArray := prog_10_method_30_code
def yX8_differ : MethodName := ⟨RX8, "differ", "(II)I"⟩
abbrev cX8_alikeOf : ByteArray := prog_10_method_31_code
def yX8_alikeOf : MethodName := ⟨RX8, "alikeOf", "(II)I"⟩
abbrev cX8_alike : ByteArray := prog_10_method_32_code
def yX8_alike : MethodName := ⟨RX8, "alike", "(II)I"⟩
abbrev cX8_isReadAt : ByteArray := prog_10_method_33_code
def yX8_isReadAt : MethodName := ⟨RX8, "isReadAt", "(II)Z"⟩
abbrev cX8_mayBeRead : ByteArray := prog_10_method_34_code
def yX8_mayBeRead : MethodName := ⟨RX8, "mayBeRead", "(II)Z"⟩
abbrev cX8_ones : ByteArray := prog_10_method_35_code
def yX8_ones : MethodName := ⟨RX8, "ones", "(I)I"⟩
abbrev cX8_fewSet : ByteArray := prog_10_method_36_code
def yX8_fewSet : MethodName := ⟨RX8, "fewSet", "()I"⟩
abbrev cX8_fewOf : ByteArray := prog_10_method_37_code
def yX8_fewOf : MethodName := ⟨RX8, "fewOf", "(I)I"⟩
abbrev cX8_few : ByteArray := prog_10_method_38_code
def yX8_few : MethodName := ⟨RX8, "few", "(I)I"⟩
abbrev cX8_card : ByteArray := prog_10_method_39_code
def yX8_card : MethodName := ⟨RX8, "card", "(II)I"⟩
abbrev cX8_forget : ByteArray := prog_10_method_40_code
def yX8_forget : MethodName := ⟨RX8, "forget", "()I"⟩
abbrev cX8_seenByCode : ByteArray := prog_10_method_41_code
def yX8_seenByCode : MethodName := ⟨RX8, "seenByCode", "(II)I"⟩
abbrev cX8_isSo : ByteArray := prog_10_method_42_code
def yX8_isSo : MethodName := ⟨RX8, "isSo", "(I)Z"⟩
abbrev cX8_who : ByteArray := prog_10_method_43_code
def yX8_who : MethodName := ⟨RX8, "who", "(I)I"⟩
abbrev cX8_next : ByteArray := prog_10_method_44_code
def yX8_next : MethodName := ⟨RX8, "next", "()I"⟩
abbrev cX8_draw : ByteArray := prog_10_method_45_code
def yX8_draw : MethodName := ⟨RX8, "draw", "(I)I"⟩
abbrev cX8_parts : ByteArray := prog_10_method_46_code
def yX8_parts : MethodName := ⟨RX8, "parts", "(I)I"⟩
abbrev cX8_readsAlike : ByteArray := prog_10_method_47_code
def yX8_readsAlike : MethodName := ⟨RX8, "readsAlike", "(III)Z"⟩
abbrev cX8_ageing : ByteArray := prog_10_method_48_code
def yX8_ageing : MethodName := ⟨RX8, "ageing", "(IIII)I"⟩
abbrev cX8_copy : ByteArray := prog_10_method_49_code
def yX8_copy : MethodName := ⟨RX8, "copy", "([I[I)V"⟩
abbrev cX8_image : ByteArray := prog_10_method_50_code
def yX8_image : MethodName := ⟨RX8, "image", "()I"⟩
abbrev cX8_restore : ByteArray := prog_10_method_51_code
def yX8_restore : MethodName := ⟨RX8, "restore", "()I"⟩
abbrev cX8_countOf : ByteArray := prog_10_method_52_code
def yX8_countOf : MethodName := ⟨RX8, "countOf", "(I)I"⟩
abbrev cX8_count : ByteArray := prog_10_method_53_code
def yX8_count : MethodName := ⟨RX8, "count", "(I)I"⟩
abbrev cX8_say : ByteArray := prog_10_method_54_code
def yX8_say : MethodName := ⟨RX8, "say", "(J)V"⟩
abbrev cX8_sayPerson : ByteArray := prog_10_method_55_code
def yX8_sayPerson : MethodName := ⟨RX8, "sayPerson", "(I)V"⟩
abbrev cX8_digest : ByteArray := prog_10_method_56_code
def yX8_digest : MethodName := ⟨RX8, "digest", "()J"⟩
def RJ6 : String := "java/lang/Integer"
def TJ6 : u_T := fun k => match k with
  | _ => ("", "", "", false)
def tyJ6 : Nat → FieldType := fun k => match k with
  | _ => .int
abbrev wsJ60 : List Cond := u_ws RJ6 TJ6 0
theorem nmJ6 : ∀ a, a < 0 → ∀ b, b < 0 → a ≠ b → (TJ6 a).2.1 ≠ (TJ6 b).2.1 := by decide +kernel
theorem tyJ6_ok : ∀ k, k < 0 → parseFieldDescriptor (TJ6 k).2.2.1 = some (tyJ6 k) := by decide +kernel
abbrev cJ6_bitCount_0f7a4 : ByteArray := prog_11_method_49_code
def yJ6_bitCount_0f7a4 : MethodName := ⟨RJ6, "bitCount", "(I)I"⟩
def RJ9 : String := "java/lang/Math"
def TJ9 : u_T := fun k => match k with
  | _ => ("", "", "", false)
def tyJ9 : Nat → FieldType := fun k => match k with
  | _ => .int
abbrev wsJ90 : List Cond := u_ws RJ9 TJ9 0
theorem nmJ9 : ∀ a, a < 0 → ∀ b, b < 0 → a ≠ b → (TJ9 a).2.1 ≠ (TJ9 b).2.1 := by decide +kernel
theorem tyJ9_ok : ∀ k, k < 0 → parseFieldDescriptor (TJ9 k).2.2.1 = some (tyJ9 k) := by decide +kernel
abbrev cJ9_max_7cf53 : ByteArray := prog_12_method_65_code
def yJ9_max_7cf53 : MethodName := ⟨RJ9, "max", "(II)I"⟩
def RJ10 : String := "java/lang/System"
def TJ10 : u_T := fun k => match k with
  | _ => ("", "", "", false)
def tyJ10 : Nat → FieldType := fun k => match k with
  | _ => .int
abbrev wsJ100 : List Cond := u_ws RJ10 TJ10 0
theorem nmJ10 : ∀ a, a < 0 → ∀ b, b < 0 → a ≠ b → (TJ10 a).2.1 ≠ (TJ10 b).2.1 := by decide +kernel
theorem tyJ10_ok : ∀ k, k < 0 → parseFieldDescriptor (TJ10 k).2.2.1 = some (tyJ10 k) := by decide +kernel
def RL : String := "EachEyeLaw"
abbrev cL_law : ByteArray := code
def yL_law : MethodName := ⟨RL, "law", "([I)Z"⟩
def wsX4_init : List Cond := .code yX4_init cX4_init 1 none :: ([.methodLink RX4 3 objectInit, .instanceMethod objectInit, .code objectInit ⟨#[0xb1]⟩ 1 none, .fieldLink RX4 9 "EachEye$Person" "told" "I", .fieldLink RX4 15 "EachEye$Person" "keptTold" "I"] ++ wsX00 ++ wsX20 ++ wsX40 ++ wsX50 ++ wsX60)
def wsX0_init : List Cond := .code yX0_init cX0_init 1 none :: ([.instanceMethod yX4_init, .initialized RX4, .code yX4_init cX4_init 1 none, .methodLink RX4 3 objectInit, .instanceMethod objectInit, .code objectInit ⟨#[0xb1]⟩ 1 none, .fieldLink RX4 9 "EachEye$Person" "told" "I", .fieldLink RX4 15 "EachEye$Person" "keptTold" "I"] ++ wsX00 ++ wsX20 ++ wsX40 ++ wsX50 ++ wsX60)
def wsX0_kind : List Cond := .code yX0_kind cX0_kind 1 (some .int) :: ([])
def wsX0_glimpse : List Cond := .code yX0_glimpse cX0_glimpse 2 (some .int) :: ([.fieldLink RX0 9 "EachEye$Arguer" "left" "I", .sameField "EachEye$Arguer" "EachEye$Person" "left" "I", .fieldLink RX0 15 "EachEye$Arguer" "right" "I", .sameField "EachEye$Arguer" "EachEye$Person" "right" "I"] ++ wsX00 ++ wsX20 ++ wsX40 ++ wsX50 ++ wsX60)
def wsX1_init : List Cond := .code yX1_init cX1_init 1 none :: ([.methodLink RX1 3 objectInit, .instanceMethod objectInit, .code objectInit ⟨#[0xb1]⟩ 1 none, .arrayClass .int, .fieldLink RX1 9 "EachEye$Cards" "shown" "[I", .fieldLink RX1 15 "EachEye$Cards" "said" "[I", .fieldLink RX1 18 "EachEye$Cards" "keptShown" "[I", .fieldLink RX1 21 "EachEye$Cards" "keptSaid" "[I"] ++ wsX10)
def wsX1_put : List Cond := .code yX1_put cX1_put 3 none :: ([.fieldLink RX1 24 "EachEye$Cards" "size" "I", .fieldLink RX1 9 "EachEye$Cards" "shown" "[I", .fieldLink RX1 15 "EachEye$Cards" "said" "[I"] ++ wsX10)
def wsX1_clear : List Cond := .code yX1_clear cX1_clear 1 none :: ([.fieldLink RX1 24 "EachEye$Cards" "size" "I"] ++ wsX10)
def wsX4_glimpse : List Cond := .code yX4_glimpse cX4_glimpse 2 (some .int) :: ([.fieldLink RX4 18 "EachEye$Person" "left" "I", .fieldLink RX4 21 "EachEye$Person" "right" "I"] ++ wsX00 ++ wsX20 ++ wsX40 ++ wsX50 ++ wsX60)
def wsX2_glimpse : List Cond := .code yX2_glimpse cX2_glimpse 2 (some .int) :: ([.fieldLink RX2 9 "EachEye$Old" "left" "I", .sameField "EachEye$Old" "EachEye$Person" "left" "I", .fieldLink RX2 15 "EachEye$Old" "right" "I", .sameField "EachEye$Old" "EachEye$Person" "right" "I"] ++ wsX00 ++ wsX20 ++ wsX40 ++ wsX50 ++ wsX60)
def wsX5_glimpse : List Cond := .code yX5_glimpse cX5_glimpse 2 (some .int) :: ([.fieldLink RX5 9 "EachEye$Spy" "right" "I", .sameField "EachEye$Spy" "EachEye$Person" "right" "I"] ++ wsX00 ++ wsX20 ++ wsX40 ++ wsX50 ++ wsX60)
def wsX6_glimpse : List Cond := .code yX6_glimpse cX6_glimpse 3 (some .int) :: ([.fieldLink RX6 9 "EachEye$Winker" "left" "I", .sameField "EachEye$Winker" "EachEye$Person" "left" "I", .fieldLink RX6 15 "EachEye$Winker" "right" "I", .sameField "EachEye$Winker" "EachEye$Person" "right" "I"] ++ wsX00 ++ wsX20 ++ wsX40 ++ wsX50 ++ wsX60)
def wsX1_fit_r1 : List Cond := [Cond.fieldLink RX1 24 "EachEye$Cards" "size" "I", Cond.fieldLink RX1 9 "EachEye$Cards" "shown" "[I", Cond.fieldLink RX1 15 "EachEye$Cards" "said" "[I", Cond.methodLink RX1 28 ⟨"EachEye$Person", "glimpse", "(I)I"⟩, Cond.sameMethod "EachEye$Person" "EachEye$Person" "glimpse" "(I)I", Cond.instanceMethod ⟨"EachEye$Person", "glimpse", "(I)I"⟩, Cond.selects RX0 ⟨"EachEye$Person", "glimpse", "(I)I"⟩ yX0_glimpse, Cond.instanceMethod yX0_glimpse, Cond.initialized RX0, Cond.code yX0_glimpse cX0_glimpse 2 (some .int), Cond.fieldLink RX0 9 "EachEye$Arguer" "left" "I", Cond.sameField "EachEye$Arguer" "EachEye$Person" "left" "I", Cond.fieldLink RX0 15 "EachEye$Arguer" "right" "I", Cond.sameField "EachEye$Arguer" "EachEye$Person" "right" "I", Cond.code yX4_glimpse cX4_glimpse 2 (some .int), Cond.selects RX2 ⟨"EachEye$Person", "glimpse", "(I)I"⟩ yX2_glimpse, Cond.instanceMethod yX2_glimpse, Cond.initialized RX2, Cond.code yX2_glimpse cX2_glimpse 2 (some .int), Cond.fieldLink RX2 9 "EachEye$Old" "left" "I", Cond.sameField "EachEye$Old" "EachEye$Person" "left" "I", Cond.fieldLink RX2 15 "EachEye$Old" "right" "I", Cond.sameField "EachEye$Old" "EachEye$Person" "right" "I", Cond.methodLink RX1 28 yX4_glimpse]
def wsX1_fit_r2 : List Cond := [Cond.instanceMethod yX4_glimpse, Cond.selects RX4 yX4_glimpse yX4_glimpse, Cond.initialized RX4, Cond.fieldLink RX4 18 "EachEye$Person" "left" "I", Cond.fieldLink RX4 21 "EachEye$Person" "right" "I", Cond.selects RX5 ⟨"EachEye$Person", "glimpse", "(I)I"⟩ yX5_glimpse, Cond.instanceMethod yX5_glimpse, Cond.initialized RX5, Cond.code yX5_glimpse cX5_glimpse 2 (some .int), Cond.fieldLink RX5 9 "EachEye$Spy" "right" "I", Cond.sameField "EachEye$Spy" "EachEye$Person" "right" "I", Cond.selects RX6 ⟨"EachEye$Person", "glimpse", "(I)I"⟩ yX6_glimpse, Cond.instanceMethod yX6_glimpse, Cond.initialized RX6, Cond.code yX6_glimpse cX6_glimpse 3 (some .int), Cond.fieldLink RX6 9 "EachEye$Winker" "left" "I", Cond.sameField "EachEye$Winker" "EachEye$Person" "left" "I", Cond.fieldLink RX6 15 "EachEye$Winker" "right" "I", Cond.sameField "EachEye$Winker" "EachEye$Person" "right" "I"]
def wsX1_fit : List Cond := .code yX1_fit cX1_fit 3 (some .boolean) :: ((wsX1_fit_r1 ++ wsX1_fit_r2) ++ wsX10 ++ wsX00 ++ wsX20 ++ wsX40 ++ wsX50 ++ wsX60)
def wsX1_keep : List Cond := .code yX1_keep cX1_keep 1 none :: ([.fieldLink RX1 9 "EachEye$Cards" "shown" "[I", .fieldLink RX1 18 "EachEye$Cards" "keptShown" "[I", .methodLink RX1 34 arraycopyName, .native arraycopyName, .static arraycopyName, .initialized "java/lang/System", .fieldLink RX1 15 "EachEye$Cards" "said" "[I", .fieldLink RX1 21 "EachEye$Cards" "keptSaid" "[I", .fieldLink RX1 24 "EachEye$Cards" "size" "I", .fieldLink RX1 40 "EachEye$Cards" "keptSize" "I"] ++ wsX10)
def wsX1_goBack : List Cond := .code yX1_goBack cX1_goBack 1 none :: ([.fieldLink RX1 18 "EachEye$Cards" "keptShown" "[I", .fieldLink RX1 9 "EachEye$Cards" "shown" "[I", .methodLink RX1 34 arraycopyName, .native arraycopyName, .static arraycopyName, .initialized "java/lang/System", .fieldLink RX1 21 "EachEye$Cards" "keptSaid" "[I", .fieldLink RX1 15 "EachEye$Cards" "said" "[I", .fieldLink RX1 40 "EachEye$Cards" "keptSize" "I", .fieldLink RX1 24 "EachEye$Cards" "size" "I"] ++ wsX10)
def wsX2_init : List Cond := .code yX2_init cX2_init 1 none :: ([.instanceMethod yX4_init, .initialized RX4, .code yX4_init cX4_init 1 none, .methodLink RX4 3 objectInit, .instanceMethod objectInit, .code objectInit ⟨#[0xb1]⟩ 1 none, .fieldLink RX4 9 "EachEye$Person" "told" "I", .fieldLink RX4 15 "EachEye$Person" "keptTold" "I"] ++ wsX00 ++ wsX20 ++ wsX40 ++ wsX50 ++ wsX60)
def wsX2_kind : List Cond := .code yX2_kind cX2_kind 1 (some .int) :: ([])
def wsX3_init : List Cond := .code yX3_init cX3_init 1 none :: ([.methodLink RX3 3 objectInit, .instanceMethod objectInit, .code objectInit ⟨#[0xb1]⟩ 1 none, .arrayClass .int, .fieldLink RX3 9 "EachEye$Page" "codes" "[I"] ++ wsX30)
def wsX3_put : List Cond := .code yX3_put cX3_put 2 none :: ([.fieldLink RX3 15 "EachEye$Page" "size" "I", .fieldLink RX3 9 "EachEye$Page" "codes" "[I"] ++ wsX30)
def wsX3_empty : List Cond := .code yX3_empty cX3_empty 1 none :: ([.fieldLink RX3 15 "EachEye$Page" "size" "I"] ++ wsX30)
def wsX7_isHue : List Cond := .code yX7_isHue cX7_isHue 1 (some .boolean) :: ([])
def wsX3_soundLetters : List Cond := .code yX3_soundLetters cX3_soundLetters 2 (some .int) :: ([.fieldLink RX3 15 "EachEye$Page" "size" "I", .fieldLink RX3 9 "EachEye$Page" "codes" "[I", .static yX7_isHue, .initialized RX7, .code yX7_isHue cX7_isHue 1 (some .boolean)] ++ wsX30)
def wsX7_withHue : List Cond := .code yX7_withHue cX7_withHue 4 (some .int) :: ([])
def wsX3_asText : List Cond := .code yX3_asText cX3_asText 3 (some .int) :: ([.fieldLink RX3 15 "EachEye$Page" "size" "I", .fieldLink RX3 9 "EachEye$Page" "codes" "[I", .methodLink RX3 23 yX3_soundLetters, .instanceMethod yX3_soundLetters, .selects RX3 yX3_soundLetters yX3_soundLetters, .initialized RX3, .code yX3_soundLetters cX3_soundLetters 2 (some .int), .static yX7_isHue, .initialized RX7, .code yX7_isHue cX7_isHue 1 (some .boolean), .static yX7_withHue, .code yX7_withHue cX7_withHue 4 (some .int)] ++ wsX30)
def wsX4_kind : List Cond := .code yX4_kind cX4_kind 1 (some .int) :: ([])
def wsX7_hueAt : List Cond := .code yX7_hueAt cX7_hueAt 2 (some .int) :: ([])
def wsX4_reading_r1 : List Cond := [Cond.static yX7_hueAt, Cond.initialized RX7, Cond.code yX7_hueAt cX7_hueAt 2 (some .int), Cond.methodLink RX4 28 ⟨"EachEye$Person", "glimpse", "(I)I"⟩, Cond.sameMethod "EachEye$Person" "EachEye$Person" "glimpse" "(I)I", Cond.instanceMethod ⟨"EachEye$Person", "glimpse", "(I)I"⟩, Cond.selects RX0 ⟨"EachEye$Person", "glimpse", "(I)I"⟩ yX0_glimpse, Cond.instanceMethod yX0_glimpse, Cond.initialized RX0, Cond.code yX0_glimpse cX0_glimpse 2 (some .int), Cond.fieldLink RX0 9 "EachEye$Arguer" "left" "I", Cond.sameField "EachEye$Arguer" "EachEye$Person" "left" "I", Cond.fieldLink RX0 15 "EachEye$Arguer" "right" "I", Cond.sameField "EachEye$Arguer" "EachEye$Person" "right" "I", Cond.code yX4_glimpse cX4_glimpse 2 (some .int), Cond.selects RX2 ⟨"EachEye$Person", "glimpse", "(I)I"⟩ yX2_glimpse, Cond.instanceMethod yX2_glimpse, Cond.initialized RX2, Cond.code yX2_glimpse cX2_glimpse 2 (some .int), Cond.fieldLink RX2 9 "EachEye$Old" "left" "I", Cond.sameField "EachEye$Old" "EachEye$Person" "left" "I", Cond.fieldLink RX2 15 "EachEye$Old" "right" "I", Cond.sameField "EachEye$Old" "EachEye$Person" "right" "I", Cond.methodLink RX4 28 yX4_glimpse]
def wsX4_reading_r2 : List Cond := [Cond.instanceMethod yX4_glimpse, Cond.selects RX4 yX4_glimpse yX4_glimpse, Cond.initialized RX4, Cond.fieldLink RX4 18 "EachEye$Person" "left" "I", Cond.fieldLink RX4 21 "EachEye$Person" "right" "I", Cond.selects RX5 ⟨"EachEye$Person", "glimpse", "(I)I"⟩ yX5_glimpse, Cond.instanceMethod yX5_glimpse, Cond.initialized RX5, Cond.code yX5_glimpse cX5_glimpse 2 (some .int), Cond.fieldLink RX5 9 "EachEye$Spy" "right" "I", Cond.sameField "EachEye$Spy" "EachEye$Person" "right" "I", Cond.selects RX6 ⟨"EachEye$Person", "glimpse", "(I)I"⟩ yX6_glimpse, Cond.instanceMethod yX6_glimpse, Cond.initialized RX6, Cond.code yX6_glimpse cX6_glimpse 3 (some .int), Cond.fieldLink RX6 9 "EachEye$Winker" "left" "I", Cond.sameField "EachEye$Winker" "EachEye$Person" "left" "I", Cond.fieldLink RX6 15 "EachEye$Winker" "right" "I", Cond.sameField "EachEye$Winker" "EachEye$Person" "right" "I", Cond.static yX7_withHue, Cond.code yX7_withHue cX7_withHue 4 (some .int)]
def wsX4_reading : List Cond := .code yX4_reading cX4_reading 4 (some .int) :: ((wsX4_reading_r1 ++ wsX4_reading_r2) ++ wsX00 ++ wsX20 ++ wsX40 ++ wsX50 ++ wsX60)
def wsX4_truths_r1 : List Cond := [Cond.methodLink RX4 28 ⟨"EachEye$Person", "glimpse", "(I)I"⟩, Cond.sameMethod "EachEye$Person" "EachEye$Person" "glimpse" "(I)I", Cond.instanceMethod ⟨"EachEye$Person", "glimpse", "(I)I"⟩, Cond.selects RX0 ⟨"EachEye$Person", "glimpse", "(I)I"⟩ yX0_glimpse, Cond.instanceMethod yX0_glimpse, Cond.initialized RX0, Cond.code yX0_glimpse cX0_glimpse 2 (some .int), Cond.fieldLink RX0 9 "EachEye$Arguer" "left" "I", Cond.sameField "EachEye$Arguer" "EachEye$Person" "left" "I", Cond.fieldLink RX0 15 "EachEye$Arguer" "right" "I", Cond.sameField "EachEye$Arguer" "EachEye$Person" "right" "I", Cond.code yX4_glimpse cX4_glimpse 2 (some .int), Cond.selects RX2 ⟨"EachEye$Person", "glimpse", "(I)I"⟩ yX2_glimpse, Cond.instanceMethod yX2_glimpse, Cond.initialized RX2, Cond.code yX2_glimpse cX2_glimpse 2 (some .int), Cond.fieldLink RX2 9 "EachEye$Old" "left" "I", Cond.sameField "EachEye$Old" "EachEye$Person" "left" "I", Cond.fieldLink RX2 15 "EachEye$Old" "right" "I", Cond.sameField "EachEye$Old" "EachEye$Person" "right" "I", Cond.methodLink RX4 28 yX4_glimpse, Cond.instanceMethod yX4_glimpse, Cond.selects RX4 yX4_glimpse yX4_glimpse, Cond.initialized RX4]
def wsX4_truths_r2 : List Cond := [Cond.fieldLink RX4 18 "EachEye$Person" "left" "I", Cond.fieldLink RX4 21 "EachEye$Person" "right" "I", Cond.selects RX5 ⟨"EachEye$Person", "glimpse", "(I)I"⟩ yX5_glimpse, Cond.instanceMethod yX5_glimpse, Cond.initialized RX5, Cond.code yX5_glimpse cX5_glimpse 2 (some .int), Cond.fieldLink RX5 9 "EachEye$Spy" "right" "I", Cond.sameField "EachEye$Spy" "EachEye$Person" "right" "I", Cond.selects RX6 ⟨"EachEye$Person", "glimpse", "(I)I"⟩ yX6_glimpse, Cond.instanceMethod yX6_glimpse, Cond.initialized RX6, Cond.code yX6_glimpse cX6_glimpse 3 (some .int), Cond.fieldLink RX6 9 "EachEye$Winker" "left" "I", Cond.sameField "EachEye$Winker" "EachEye$Person" "left" "I", Cond.fieldLink RX6 15 "EachEye$Winker" "right" "I", Cond.sameField "EachEye$Winker" "EachEye$Person" "right" "I"]
def wsX4_truths : List Cond := .code yX4_truths cX4_truths 3 (some .int) :: ((wsX4_truths_r1 ++ wsX4_truths_r2) ++ wsX00 ++ wsX20 ++ wsX40 ++ wsX50 ++ wsX60)
def wsX4_lose : List Cond := .code yX4_lose cX4_lose 3 none :: ([.fieldLink RX4 18 "EachEye$Person" "left" "I", .fieldLink RX4 21 "EachEye$Person" "right" "I"] ++ wsX00 ++ wsX20 ++ wsX40 ++ wsX50 ++ wsX60)
def wsX4_keep : List Cond := .code yX4_keep cX4_keep 1 none :: ([.fieldLink RX4 18 "EachEye$Person" "left" "I", .fieldLink RX4 36 "EachEye$Person" "keptLeft" "I", .fieldLink RX4 21 "EachEye$Person" "right" "I", .fieldLink RX4 39 "EachEye$Person" "keptRight" "I", .fieldLink RX4 9 "EachEye$Person" "told" "I", .fieldLink RX4 15 "EachEye$Person" "keptTold" "I"] ++ wsX00 ++ wsX20 ++ wsX40 ++ wsX50 ++ wsX60)
def wsX4_goBack : List Cond := .code yX4_goBack cX4_goBack 1 none :: ([.fieldLink RX4 36 "EachEye$Person" "keptLeft" "I", .fieldLink RX4 18 "EachEye$Person" "left" "I", .fieldLink RX4 39 "EachEye$Person" "keptRight" "I", .fieldLink RX4 21 "EachEye$Person" "right" "I", .fieldLink RX4 15 "EachEye$Person" "keptTold" "I", .fieldLink RX4 9 "EachEye$Person" "told" "I"] ++ wsX00 ++ wsX20 ++ wsX40 ++ wsX50 ++ wsX60)
def wsX6_init : List Cond := .code yX6_init cX6_init 1 none :: ([.instanceMethod yX4_init, .initialized RX4, .code yX4_init cX4_init 1 none, .methodLink RX4 3 objectInit, .instanceMethod objectInit, .code objectInit ⟨#[0xb1]⟩ 1 none, .fieldLink RX4 9 "EachEye$Person" "told" "I", .fieldLink RX4 15 "EachEye$Person" "keptTold" "I"] ++ wsX00 ++ wsX20 ++ wsX40 ++ wsX50 ++ wsX60)
def wsX5_init : List Cond := .code yX5_init cX5_init 1 none :: ([.instanceMethod yX6_init, .initialized RX6, .code yX6_init cX6_init 1 none, .instanceMethod yX4_init, .initialized RX4, .code yX4_init cX4_init 1 none, .methodLink RX4 3 objectInit, .instanceMethod objectInit, .code objectInit ⟨#[0xb1]⟩ 1 none, .fieldLink RX4 9 "EachEye$Person" "told" "I", .fieldLink RX4 15 "EachEye$Person" "keptTold" "I"] ++ wsX00 ++ wsX20 ++ wsX40 ++ wsX50 ++ wsX60)
def wsX5_kind : List Cond := .code yX5_kind cX5_kind 1 (some .int) :: ([])
def wsX6_kind : List Cond := .code yX6_kind cX6_kind 1 (some .int) :: ([])
def wsX7_newPerson_r1 : List Cond := [Cond.classLink RX7 223 RX0, Cond.instantiable RX0 6, Cond.initialized RX0, Cond.classLink RX7 226 RX2, Cond.instantiable RX2 6, Cond.initialized RX2, Cond.classLink RX7 229 RX6, Cond.instantiable RX6 6, Cond.initialized RX6, Cond.classLink RX7 232 RX5, Cond.instantiable RX5 6, Cond.initialized RX5, Cond.classLink RX7 16 RX4, Cond.instantiable RX4 6, Cond.initialized RX4, Cond.instanceMethod yX0_init, Cond.code yX0_init cX0_init 1 none, Cond.instanceMethod yX4_init, Cond.code yX4_init cX4_init 1 none, Cond.methodLink RX4 3 objectInit, Cond.instanceMethod objectInit, Cond.code objectInit ⟨#[0xb1]⟩ 1 none, Cond.fieldLink RX4 9 "EachEye$Person" "told" "I", Cond.fieldLink RX4 15 "EachEye$Person" "keptTold" "I"]
def wsX7_newPerson_r2 : List Cond := [Cond.instanceMethod yX2_init, Cond.code yX2_init cX2_init 1 none, Cond.instanceMethod yX6_init, Cond.code yX6_init cX6_init 1 none, Cond.instanceMethod yX5_init, Cond.code yX5_init cX5_init 1 none]
def wsX7_newPerson : List Cond := .code yX7_newPerson cX7_newPerson 1 (some (.object "EachEye$Person")) :: ((wsX7_newPerson_r1 ++ wsX7_newPerson_r2) ++ wsX00 ++ wsX20 ++ wsX60 ++ wsX50 ++ wsX40)
def wsX7_init_r1 : List Cond := [Cond.methodLink RX7 3 objectInit, Cond.instanceMethod objectInit, Cond.code objectInit ⟨#[0xb1]⟩ 1 none, Cond.classLink RX7 9 RX3, Cond.instantiable RX3 2, Cond.initialized RX3, Cond.fieldLink RX7 12 "EachEye" "page" "LEachEye$Page;", Cond.classLink RX7 16 RX4, Cond.fieldLink RX7 18 "EachEye" "people" "[LEachEye$Person;", Cond.arrayClass .int, Cond.fieldLink RX7 22 "EachEye" "inks" "[I", Cond.classLink RX7 26 RX1, Cond.instantiable RX1 6, Cond.initialized RX1, Cond.fieldLink RX7 29 "EachEye" "cards" "LEachEye$Cards;", Cond.fieldLink RX7 33 "EachEye" "trials" "[LEachEye$Person;", Cond.fieldLink RX7 36 "EachEye" "sayings" "[I", Cond.fieldLink RX7 39 "EachEye" "theSign" "I", Cond.fieldLink RX7 43 "EachEye" "keptSign" "I", Cond.instanceMethod yX3_init, Cond.code yX3_init cX3_init 1 none, Cond.methodLink RX3 3 objectInit, Cond.fieldLink RX3 9 "EachEye$Page" "codes" "[I", Cond.instanceMethod yX1_init]
def wsX7_init_r2 : List Cond := [Cond.code yX1_init cX1_init 1 none, Cond.methodLink RX1 3 objectInit, Cond.fieldLink RX1 9 "EachEye$Cards" "shown" "[I", Cond.fieldLink RX1 15 "EachEye$Cards" "said" "[I", Cond.fieldLink RX1 18 "EachEye$Cards" "keptShown" "[I", Cond.fieldLink RX1 21 "EachEye$Cards" "keptSaid" "[I", Cond.methodLink RX7 46 yX7_newPerson, Cond.static yX7_newPerson, Cond.initialized RX7, Cond.code yX7_newPerson cX7_newPerson 1 (some (.object "EachEye$Person")), Cond.classLink RX7 223 RX0, Cond.instantiable RX0 6, Cond.initialized RX0, Cond.classLink RX7 226 RX2, Cond.instantiable RX2 6, Cond.initialized RX2, Cond.classLink RX7 229 RX6, Cond.instantiable RX6 6, Cond.initialized RX6, Cond.classLink RX7 232 RX5, Cond.instantiable RX5 6, Cond.initialized RX5, Cond.instantiable RX4 6, Cond.initialized RX4]
def wsX7_init_r3 : List Cond := [Cond.instanceMethod yX0_init, Cond.code yX0_init cX0_init 1 none, Cond.instanceMethod yX4_init, Cond.code yX4_init cX4_init 1 none, Cond.methodLink RX4 3 objectInit, Cond.fieldLink RX4 9 "EachEye$Person" "told" "I", Cond.fieldLink RX4 15 "EachEye$Person" "keptTold" "I", Cond.instanceMethod yX2_init, Cond.code yX2_init cX2_init 1 none, Cond.instanceMethod yX6_init, Cond.code yX6_init cX6_init 1 none, Cond.instanceMethod yX5_init, Cond.code yX5_init cX5_init 1 none]
def wsX7_init : List Cond := .code yX7_init cX7_init 2 none :: ((wsX7_init_r1 ++ (wsX7_init_r2 ++ wsX7_init_r3)) ++ wsX30 ++ wsX70 ++ wsX10 ++ wsX00 ++ wsX20 ++ wsX60 ++ wsX50 ++ wsX40)
def wsX7_letter : List Cond := .code yX7_letter cX7_letter 2 (some .int) :: ([.fieldLink RX7 12 "EachEye" "page" "LEachEye$Page;", .methodLink RX7 53 yX3_put, .instanceMethod yX3_put, .selects RX3 yX3_put yX3_put, .initialized RX3, .code yX3_put cX3_put 2 none, .fieldLink RX3 15 "EachEye$Page" "size" "I", .fieldLink RX3 9 "EachEye$Page" "codes" "[I"] ++ wsX70 ++ wsX30)
def wsX7_blank : List Cond := .code yX7_blank cX7_blank 2 (some .int) :: ([.fieldLink RX7 12 "EachEye" "page" "LEachEye$Page;", .methodLink RX7 57 yX3_empty, .instanceMethod yX3_empty, .selects RX3 yX3_empty yX3_empty, .initialized RX3, .code yX3_empty cX3_empty 1 none, .fieldLink RX3 15 "EachEye$Page" "size" "I"] ++ wsX70 ++ wsX30)
def wsX7_fault : List Cond := .code yX7_fault cX7_fault 1 (some .int) :: ([.fieldLink RX7 12 "EachEye" "page" "LEachEye$Page;", .methodLink RX7 60 yX3_soundLetters, .instanceMethod yX3_soundLetters, .selects RX3 yX3_soundLetters yX3_soundLetters, .initialized RX3, .code yX3_soundLetters cX3_soundLetters 2 (some .int), .fieldLink RX3 15 "EachEye$Page" "size" "I", .fieldLink RX3 9 "EachEye$Page" "codes" "[I", .static yX7_isHue, .initialized RX7, .code yX7_isHue cX7_isHue 1 (some .boolean)] ++ wsX70 ++ wsX30)
def wsX7_colouredCells : List Cond := .code yX7_colouredCells cX7_colouredCells 3 (some .int) :: ([.fieldLink RX7 39 "EachEye" "theSign" "I", .methodLink RX7 85 yX7_hueAt, .static yX7_hueAt, .initialized RX7, .code yX7_hueAt cX7_hueAt 2 (some .int)] ++ wsX70)
def wsX7_sign_r1 : List Cond := [Cond.fieldLink RX7 12 "EachEye" "page" "LEachEye$Page;", Cond.fieldLink RX7 39 "EachEye" "theSign" "I", Cond.fieldLink RX7 67 "EachEye" "peopleCount" "I", Cond.fieldLink RX7 70 "EachEye" "inkCount" "I", Cond.fieldLink RX7 73 "EachEye" "layersDone" "I", Cond.fieldLink RX7 29 "EachEye" "cards" "LEachEye$Cards;", Cond.fieldLink RX7 43 "EachEye" "keptSign" "I", Cond.fieldLink RX7 79 "EachEye" "signsRead" "I", Cond.methodLink RX7 64 yX3_asText, Cond.instanceMethod yX3_asText, Cond.selects RX3 yX3_asText yX3_asText, Cond.initialized RX3, Cond.code yX3_asText cX3_asText 3 (some .int), Cond.fieldLink RX3 15 "EachEye$Page" "size" "I", Cond.fieldLink RX3 9 "EachEye$Page" "codes" "[I", Cond.methodLink RX3 23 yX3_soundLetters, Cond.instanceMethod yX3_soundLetters, Cond.selects RX3 yX3_soundLetters yX3_soundLetters, Cond.code yX3_soundLetters cX3_soundLetters 2 (some .int), Cond.static yX7_isHue, Cond.initialized RX7, Cond.code yX7_isHue cX7_isHue 1 (some .boolean), Cond.static yX7_withHue, Cond.code yX7_withHue cX7_withHue 4 (some .int)]
def wsX7_sign_r2 : List Cond := [Cond.methodLink RX7 76 yX1_clear, Cond.instanceMethod yX1_clear, Cond.selects RX1 yX1_clear yX1_clear, Cond.initialized RX1, Cond.code yX1_clear cX1_clear 1 none, Cond.fieldLink RX1 24 "EachEye$Cards" "size" "I", Cond.methodLink RX7 57 yX3_empty, Cond.instanceMethod yX3_empty, Cond.selects RX3 yX3_empty yX3_empty, Cond.code yX3_empty cX3_empty 1 none, Cond.methodLink RX7 82 yX7_colouredCells, Cond.instanceMethod yX7_colouredCells, Cond.selects RX7 yX7_colouredCells yX7_colouredCells, Cond.code yX7_colouredCells cX7_colouredCells 3 (some .int), Cond.methodLink RX7 85 yX7_hueAt, Cond.static yX7_hueAt, Cond.code yX7_hueAt cX7_hueAt 2 (some .int)]
def wsX7_sign : List Cond := .code yX7_sign cX7_sign 2 (some .int) :: ((wsX7_sign_r1 ++ wsX7_sign_r2) ++ wsX70 ++ wsX30 ++ wsX10)
def wsX7_hue : List Cond := .code yX7_hue cX7_hue 2 (some .int) :: ([.fieldLink RX7 39 "EachEye" "theSign" "I", .methodLink RX7 85 yX7_hueAt, .static yX7_hueAt, .initialized RX7, .code yX7_hueAt cX7_hueAt 2 (some .int)] ++ wsX70)
def wsX7_isInk : List Cond := .code yX7_isInk cX7_isInk 2 (some .boolean) :: ([.fieldLink RX7 70 "EachEye" "inkCount" "I"] ++ wsX70)
def wsX7_holds : List Cond := .code yX7_holds cX7_holds 2 (some .boolean) :: ([])
def wsX7_layer : List Cond := .code yX7_layer cX7_layer 7 (some .int) :: ([.fieldLink RX7 39 "EachEye" "theSign" "I", .fieldLink RX7 22 "EachEye" "inks" "[I", .fieldLink RX7 73 "EachEye" "layersDone" "I", .methodLink RX7 89 yX7_isInk, .instanceMethod yX7_isInk, .selects RX7 yX7_isInk yX7_isInk, .initialized RX7, .code yX7_isInk cX7_isInk 2 (some .boolean), .fieldLink RX7 70 "EachEye" "inkCount" "I", .methodLink RX7 85 yX7_hueAt, .static yX7_hueAt, .code yX7_hueAt cX7_hueAt 2 (some .int), .methodLink RX7 93 yX7_holds, .static yX7_holds, .code yX7_holds cX7_holds 2 (some .boolean), .methodLink RX7 97 yX7_withHue, .static yX7_withHue, .code yX7_withHue cX7_withHue 4 (some .int)] ++ wsX70)
def wsX7_isKind : List Cond := .code yX7_isKind cX7_isKind 1 (some .boolean) :: ([])
def wsX7_person_r1 : List Cond := [Cond.fieldLink RX7 39 "EachEye" "theSign" "I", Cond.fieldLink RX7 67 "EachEye" "peopleCount" "I", Cond.fieldLink RX7 107 "EachEye$Person" "left" "I", Cond.fieldLink RX7 110 "EachEye$Person" "right" "I", Cond.fieldLink RX7 18 "EachEye" "people" "[LEachEye$Person;", Cond.methodLink RX7 101 yX7_isKind, Cond.static yX7_isKind, Cond.initialized RX7, Cond.code yX7_isKind cX7_isKind 1 (some .boolean), Cond.methodLink RX7 104 yX7_isHue, Cond.static yX7_isHue, Cond.code yX7_isHue cX7_isHue 1 (some .boolean), Cond.methodLink RX7 46 yX7_newPerson, Cond.static yX7_newPerson, Cond.code yX7_newPerson cX7_newPerson 1 (some (.object "EachEye$Person")), Cond.classLink RX7 223 RX0, Cond.instantiable RX0 6, Cond.initialized RX0, Cond.classLink RX7 226 RX2, Cond.instantiable RX2 6, Cond.initialized RX2, Cond.classLink RX7 229 RX6, Cond.instantiable RX6 6, Cond.initialized RX6]
def wsX7_person_r2 : List Cond := [Cond.classLink RX7 232 RX5, Cond.instantiable RX5 6, Cond.initialized RX5, Cond.classLink RX7 16 RX4, Cond.instantiable RX4 6, Cond.initialized RX4, Cond.instanceMethod yX0_init, Cond.code yX0_init cX0_init 1 none, Cond.instanceMethod yX4_init, Cond.code yX4_init cX4_init 1 none, Cond.methodLink RX4 3 objectInit, Cond.instanceMethod objectInit, Cond.code objectInit ⟨#[0xb1]⟩ 1 none, Cond.fieldLink RX4 9 "EachEye$Person" "told" "I", Cond.fieldLink RX4 15 "EachEye$Person" "keptTold" "I", Cond.instanceMethod yX2_init, Cond.code yX2_init cX2_init 1 none, Cond.instanceMethod yX6_init, Cond.code yX6_init cX6_init 1 none, Cond.instanceMethod yX5_init, Cond.code yX5_init cX5_init 1 none]
def wsX7_person : List Cond := .code yX7_person cX7_person 5 (some .int) :: ((wsX7_person_r1 ++ wsX7_person_r2) ++ wsX70 ++ wsX00 ++ wsX20 ++ wsX40 ++ wsX50 ++ wsX60)
def wsX7_known : List Cond := .code yX7_known cX7_known 2 (some (.object "EachEye$Person")) :: ([.fieldLink RX7 67 "EachEye" "peopleCount" "I", .fieldLink RX7 18 "EachEye" "people" "[LEachEye$Person;"] ++ wsX70)
def wsX7_about_r1 : List Cond := [Cond.fieldLink RX7 39 "EachEye" "theSign" "I", Cond.fieldLink RX7 120 "EachEye$Person" "told" "I", Cond.fieldLink RX7 107 "EachEye$Person" "left" "I", Cond.fieldLink RX7 110 "EachEye$Person" "right" "I", Cond.methodLink RX7 113 yX7_known, Cond.instanceMethod yX7_known, Cond.selects RX7 yX7_known yX7_known, Cond.initialized RX7, Cond.code yX7_known cX7_known 2 (some (.object "EachEye$Person")), Cond.fieldLink RX7 67 "EachEye" "peopleCount" "I", Cond.fieldLink RX7 18 "EachEye" "people" "[LEachEye$Person;", Cond.methodLink RX7 85 yX7_hueAt, Cond.static yX7_hueAt, Cond.code yX7_hueAt cX7_hueAt 2 (some .int), Cond.methodLink RX7 116 ⟨"EachEye$Person", "glimpse", "(I)I"⟩, Cond.sameMethod "EachEye$Person" "EachEye$Person" "glimpse" "(I)I", Cond.instanceMethod ⟨"EachEye$Person", "glimpse", "(I)I"⟩, Cond.selects RX0 ⟨"EachEye$Person", "glimpse", "(I)I"⟩ yX0_glimpse, Cond.instanceMethod yX0_glimpse, Cond.initialized RX0, Cond.code yX0_glimpse cX0_glimpse 2 (some .int), Cond.fieldLink RX0 9 "EachEye$Arguer" "left" "I", Cond.sameField "EachEye$Arguer" "EachEye$Person" "left" "I", Cond.fieldLink RX0 15 "EachEye$Arguer" "right" "I"]
def wsX7_about_r2 : List Cond := [Cond.sameField "EachEye$Arguer" "EachEye$Person" "right" "I", Cond.code yX4_glimpse cX4_glimpse 2 (some .int), Cond.selects RX2 ⟨"EachEye$Person", "glimpse", "(I)I"⟩ yX2_glimpse, Cond.instanceMethod yX2_glimpse, Cond.initialized RX2, Cond.code yX2_glimpse cX2_glimpse 2 (some .int), Cond.fieldLink RX2 9 "EachEye$Old" "left" "I", Cond.sameField "EachEye$Old" "EachEye$Person" "left" "I", Cond.fieldLink RX2 15 "EachEye$Old" "right" "I", Cond.sameField "EachEye$Old" "EachEye$Person" "right" "I", Cond.methodLink RX7 116 yX4_glimpse, Cond.instanceMethod yX4_glimpse, Cond.selects RX4 yX4_glimpse yX4_glimpse, Cond.initialized RX4, Cond.fieldLink RX4 18 "EachEye$Person" "left" "I", Cond.fieldLink RX4 21 "EachEye$Person" "right" "I", Cond.selects RX5 ⟨"EachEye$Person", "glimpse", "(I)I"⟩ yX5_glimpse, Cond.instanceMethod yX5_glimpse, Cond.initialized RX5, Cond.code yX5_glimpse cX5_glimpse 2 (some .int), Cond.fieldLink RX5 9 "EachEye$Spy" "right" "I", Cond.sameField "EachEye$Spy" "EachEye$Person" "right" "I", Cond.selects RX6 ⟨"EachEye$Person", "glimpse", "(I)I"⟩ yX6_glimpse, Cond.instanceMethod yX6_glimpse]
def wsX7_about_r3 : List Cond := [Cond.initialized RX6, Cond.code yX6_glimpse cX6_glimpse 3 (some .int), Cond.fieldLink RX6 9 "EachEye$Winker" "left" "I", Cond.sameField "EachEye$Winker" "EachEye$Person" "left" "I", Cond.fieldLink RX6 15 "EachEye$Winker" "right" "I", Cond.sameField "EachEye$Winker" "EachEye$Person" "right" "I", Cond.methodLink RX7 123 ⟨"EachEye$Person", "kind", "()I"⟩, Cond.sameMethod "EachEye$Person" "EachEye$Person" "kind" "()I", Cond.instanceMethod ⟨"EachEye$Person", "kind", "()I"⟩, Cond.selects RX0 ⟨"EachEye$Person", "kind", "()I"⟩ yX0_kind, Cond.instanceMethod yX0_kind, Cond.code yX0_kind cX0_kind 1 (some .int), Cond.code yX4_kind cX4_kind 1 (some .int), Cond.selects RX2 ⟨"EachEye$Person", "kind", "()I"⟩ yX2_kind, Cond.instanceMethod yX2_kind, Cond.code yX2_kind cX2_kind 1 (some .int), Cond.methodLink RX7 123 yX4_kind, Cond.instanceMethod yX4_kind, Cond.selects RX4 yX4_kind yX4_kind, Cond.selects RX5 ⟨"EachEye$Person", "kind", "()I"⟩ yX5_kind, Cond.instanceMethod yX5_kind, Cond.code yX5_kind cX5_kind 1 (some .int), Cond.selects RX6 ⟨"EachEye$Person", "kind", "()I"⟩ yX6_kind, Cond.instanceMethod yX6_kind]
def wsX7_about_r4 : List Cond := [Cond.code yX6_kind cX6_kind 1 (some .int), Cond.methodLink RX7 126 ⟨"EachEye$Person", "truths", "()I"⟩, Cond.sameMethod "EachEye$Person" "EachEye$Person" "truths" "()I", Cond.selects RX0 ⟨"EachEye$Person", "truths", "()I"⟩ yX4_truths, Cond.instanceMethod yX4_truths, Cond.code yX4_truths cX4_truths 3 (some .int), Cond.methodLink RX4 28 ⟨"EachEye$Person", "glimpse", "(I)I"⟩, Cond.methodLink RX4 28 yX4_glimpse, Cond.selects RX2 ⟨"EachEye$Person", "truths", "()I"⟩ yX4_truths, Cond.methodLink RX7 126 yX4_truths, Cond.selects RX4 yX4_truths yX4_truths, Cond.selects RX5 ⟨"EachEye$Person", "truths", "()I"⟩ yX4_truths, Cond.selects RX6 ⟨"EachEye$Person", "truths", "()I"⟩ yX4_truths]
def wsX7_about : List Cond := .code yX7_about cX7_about 4 (some .int) :: ((wsX7_about_r1 ++ (wsX7_about_r2 ++ (wsX7_about_r3 ++ wsX7_about_r4))) ++ wsX70 ++ wsX00 ++ wsX20 ++ wsX40 ++ wsX50 ++ wsX60)
def wsX7_isOf : List Cond := .code yX7_isOf cX7_isOf 2 (some .boolean) :: ([.classLink RX7 223 "EachEye$Arguer", .classLink RX7 226 "EachEye$Old", .classLink RX7 229 "EachEye$Winker", .classLink RX7 232 "EachEye$Spy"])
def wsX7_as : List Cond := .code yX7_as cX7_as 4 (some .int) :: ([.methodLink RX7 113 yX7_known, .instanceMethod yX7_known, .selects RX7 yX7_known yX7_known, .initialized RX7, .code yX7_known cX7_known 2 (some (.object "EachEye$Person")), .fieldLink RX7 67 "EachEye" "peopleCount" "I", .fieldLink RX7 18 "EachEye" "people" "[LEachEye$Person;", .methodLink RX7 101 yX7_isKind, .static yX7_isKind, .code yX7_isKind cX7_isKind 1 (some .boolean), .methodLink RX7 129 yX7_isOf, .static yX7_isOf, .code yX7_isOf cX7_isOf 2 (some .boolean), .classLink RX7 223 "EachEye$Arguer", .classLink RX7 226 "EachEye$Old", .classLink RX7 229 "EachEye$Winker", .classLink RX7 232 "EachEye$Spy"] ++ wsX70)
def wsX7_sees_r1 : List Cond := [Cond.methodLink RX7 113 yX7_known, Cond.instanceMethod yX7_known, Cond.selects RX7 yX7_known yX7_known, Cond.initialized RX7, Cond.code yX7_known cX7_known 2 (some (.object "EachEye$Person")), Cond.fieldLink RX7 67 "EachEye" "peopleCount" "I", Cond.fieldLink RX7 18 "EachEye" "people" "[LEachEye$Person;", Cond.methodLink RX7 104 yX7_isHue, Cond.static yX7_isHue, Cond.code yX7_isHue cX7_isHue 1 (some .boolean), Cond.methodLink RX7 116 ⟨"EachEye$Person", "glimpse", "(I)I"⟩, Cond.sameMethod "EachEye$Person" "EachEye$Person" "glimpse" "(I)I", Cond.instanceMethod ⟨"EachEye$Person", "glimpse", "(I)I"⟩, Cond.selects RX0 ⟨"EachEye$Person", "glimpse", "(I)I"⟩ yX0_glimpse, Cond.instanceMethod yX0_glimpse, Cond.initialized RX0, Cond.code yX0_glimpse cX0_glimpse 2 (some .int), Cond.fieldLink RX0 9 "EachEye$Arguer" "left" "I", Cond.sameField "EachEye$Arguer" "EachEye$Person" "left" "I", Cond.fieldLink RX0 15 "EachEye$Arguer" "right" "I", Cond.sameField "EachEye$Arguer" "EachEye$Person" "right" "I", Cond.code yX4_glimpse cX4_glimpse 2 (some .int), Cond.selects RX2 ⟨"EachEye$Person", "glimpse", "(I)I"⟩ yX2_glimpse, Cond.instanceMethod yX2_glimpse]
def wsX7_sees_r2 : List Cond := [Cond.initialized RX2, Cond.code yX2_glimpse cX2_glimpse 2 (some .int), Cond.fieldLink RX2 9 "EachEye$Old" "left" "I", Cond.sameField "EachEye$Old" "EachEye$Person" "left" "I", Cond.fieldLink RX2 15 "EachEye$Old" "right" "I", Cond.sameField "EachEye$Old" "EachEye$Person" "right" "I", Cond.methodLink RX7 116 yX4_glimpse, Cond.instanceMethod yX4_glimpse, Cond.selects RX4 yX4_glimpse yX4_glimpse, Cond.initialized RX4, Cond.fieldLink RX4 18 "EachEye$Person" "left" "I", Cond.fieldLink RX4 21 "EachEye$Person" "right" "I", Cond.selects RX5 ⟨"EachEye$Person", "glimpse", "(I)I"⟩ yX5_glimpse, Cond.instanceMethod yX5_glimpse, Cond.initialized RX5, Cond.code yX5_glimpse cX5_glimpse 2 (some .int), Cond.fieldLink RX5 9 "EachEye$Spy" "right" "I", Cond.sameField "EachEye$Spy" "EachEye$Person" "right" "I", Cond.selects RX6 ⟨"EachEye$Person", "glimpse", "(I)I"⟩ yX6_glimpse, Cond.instanceMethod yX6_glimpse, Cond.initialized RX6, Cond.code yX6_glimpse cX6_glimpse 3 (some .int), Cond.fieldLink RX6 9 "EachEye$Winker" "left" "I", Cond.sameField "EachEye$Winker" "EachEye$Person" "left" "I"]
def wsX7_sees_r3 : List Cond := [Cond.fieldLink RX6 15 "EachEye$Winker" "right" "I", Cond.sameField "EachEye$Winker" "EachEye$Person" "right" "I"]
def wsX7_sees : List Cond := .code yX7_sees cX7_sees 4 (some .int) :: ((wsX7_sees_r1 ++ (wsX7_sees_r2 ++ wsX7_sees_r3)) ++ wsX70 ++ wsX00 ++ wsX20 ++ wsX40 ++ wsX50 ++ wsX60)
def wsX7_eye : List Cond := .code yX7_eye cX7_eye 6 (some .int) :: ([.fieldLink RX7 107 "EachEye$Person" "left" "I", .fieldLink RX7 110 "EachEye$Person" "right" "I", .methodLink RX7 113 yX7_known, .instanceMethod yX7_known, .selects RX7 yX7_known yX7_known, .initialized RX7, .code yX7_known cX7_known 2 (some (.object "EachEye$Person")), .fieldLink RX7 67 "EachEye" "peopleCount" "I", .fieldLink RX7 18 "EachEye" "people" "[LEachEye$Person;", .methodLink RX7 104 yX7_isHue, .static yX7_isHue, .code yX7_isHue cX7_isHue 1 (some .boolean)] ++ wsX00 ++ wsX20 ++ wsX40 ++ wsX50 ++ wsX60 ++ wsX70)
def wsX7_ink : List Cond := .code yX7_ink cX7_ink 2 (some .int) :: ([.fieldLink RX7 39 "EachEye" "theSign" "I", .fieldLink RX7 70 "EachEye" "inkCount" "I", .fieldLink RX7 22 "EachEye" "inks" "[I", .methodLink RX7 104 yX7_isHue, .static yX7_isHue, .initialized RX7, .code yX7_isHue cX7_isHue 1 (some .boolean)] ++ wsX70)
def wsX7_inkOf : List Cond := .code yX7_inkOf cX7_inkOf 2 (some .int) :: ([.fieldLink RX7 22 "EachEye" "inks" "[I", .methodLink RX7 89 yX7_isInk, .instanceMethod yX7_isInk, .selects RX7 yX7_isInk yX7_isInk, .initialized RX7, .code yX7_isInk cX7_isInk 2 (some .boolean), .fieldLink RX7 70 "EachEye" "inkCount" "I"] ++ wsX70)
def wsX7_toldPeople : List Cond := .code yX7_toldPeople cX7_toldPeople 4 (some .int) :: ([.fieldLink RX7 67 "EachEye" "peopleCount" "I", .fieldLink RX7 120 "EachEye$Person" "told" "I", .methodLink RX7 113 yX7_known, .instanceMethod yX7_known, .selects RX7 yX7_known yX7_known, .initialized RX7, .code yX7_known cX7_known 2 (some (.object "EachEye$Person")), .fieldLink RX7 18 "EachEye" "people" "[LEachEye$Person;"] ++ wsX70 ++ wsX00 ++ wsX20 ++ wsX40 ++ wsX50 ++ wsX60)
def wsX7_word_r1 : List Cond := [Cond.fieldLink RX7 12 "EachEye" "page" "LEachEye$Page;", Cond.fieldLink RX7 120 "EachEye$Person" "told" "I", Cond.methodLink RX7 113 yX7_known, Cond.instanceMethod yX7_known, Cond.selects RX7 yX7_known yX7_known, Cond.initialized RX7, Cond.code yX7_known cX7_known 2 (some (.object "EachEye$Person")), Cond.fieldLink RX7 67 "EachEye" "peopleCount" "I", Cond.fieldLink RX7 18 "EachEye" "people" "[LEachEye$Person;", Cond.methodLink RX7 64 yX3_asText, Cond.instanceMethod yX3_asText, Cond.selects RX3 yX3_asText yX3_asText, Cond.initialized RX3, Cond.code yX3_asText cX3_asText 3 (some .int), Cond.fieldLink RX3 15 "EachEye$Page" "size" "I", Cond.fieldLink RX3 9 "EachEye$Page" "codes" "[I", Cond.methodLink RX3 23 yX3_soundLetters, Cond.instanceMethod yX3_soundLetters, Cond.selects RX3 yX3_soundLetters yX3_soundLetters, Cond.code yX3_soundLetters cX3_soundLetters 2 (some .int), Cond.static yX7_isHue, Cond.code yX7_isHue cX7_isHue 1 (some .boolean), Cond.static yX7_withHue, Cond.code yX7_withHue cX7_withHue 4 (some .int)]
def wsX7_word_r2 : List Cond := [Cond.methodLink RX7 57 yX3_empty, Cond.instanceMethod yX3_empty, Cond.selects RX3 yX3_empty yX3_empty, Cond.code yX3_empty cX3_empty 1 none, Cond.methodLink RX7 133 yX7_toldPeople, Cond.instanceMethod yX7_toldPeople, Cond.selects RX7 yX7_toldPeople yX7_toldPeople, Cond.code yX7_toldPeople cX7_toldPeople 4 (some .int)]
def wsX7_word : List Cond := .code yX7_word cX7_word 4 (some .int) :: ((wsX7_word_r1 ++ wsX7_word_r2) ++ wsX70 ++ wsX00 ++ wsX20 ++ wsX40 ++ wsX50 ++ wsX60 ++ wsX30)
def wsX7_unword : List Cond := .code yX7_unword cX7_unword 4 (some .int) :: ([.fieldLink RX7 120 "EachEye$Person" "told" "I", .methodLink RX7 113 yX7_known, .instanceMethod yX7_known, .selects RX7 yX7_known yX7_known, .initialized RX7, .code yX7_known cX7_known 2 (some (.object "EachEye$Person")), .fieldLink RX7 67 "EachEye" "peopleCount" "I", .fieldLink RX7 18 "EachEye" "people" "[LEachEye$Person;"] ++ wsX00 ++ wsX20 ++ wsX40 ++ wsX50 ++ wsX60 ++ wsX70)
def wsX7_differ_r1 : List Cond := [Cond.fieldLink RX7 39 "EachEye" "theSign" "I", Cond.methodLink RX7 113 yX7_known, Cond.instanceMethod yX7_known, Cond.selects RX7 yX7_known yX7_known, Cond.initialized RX7, Cond.code yX7_known cX7_known 2 (some (.object "EachEye$Person")), Cond.fieldLink RX7 67 "EachEye" "peopleCount" "I", Cond.fieldLink RX7 18 "EachEye" "people" "[LEachEye$Person;", Cond.methodLink RX7 85 yX7_hueAt, Cond.static yX7_hueAt, Cond.code yX7_hueAt cX7_hueAt 2 (some .int), Cond.methodLink RX7 116 ⟨"EachEye$Person", "glimpse", "(I)I"⟩, Cond.sameMethod "EachEye$Person" "EachEye$Person" "glimpse" "(I)I", Cond.instanceMethod ⟨"EachEye$Person", "glimpse", "(I)I"⟩, Cond.selects RX0 ⟨"EachEye$Person", "glimpse", "(I)I"⟩ yX0_glimpse, Cond.instanceMethod yX0_glimpse, Cond.initialized RX0, Cond.code yX0_glimpse cX0_glimpse 2 (some .int), Cond.fieldLink RX0 9 "EachEye$Arguer" "left" "I", Cond.sameField "EachEye$Arguer" "EachEye$Person" "left" "I", Cond.fieldLink RX0 15 "EachEye$Arguer" "right" "I", Cond.sameField "EachEye$Arguer" "EachEye$Person" "right" "I", Cond.code yX4_glimpse cX4_glimpse 2 (some .int), Cond.selects RX2 ⟨"EachEye$Person", "glimpse", "(I)I"⟩ yX2_glimpse]
def wsX7_differ_r2 : List Cond := [Cond.instanceMethod yX2_glimpse, Cond.initialized RX2, Cond.code yX2_glimpse cX2_glimpse 2 (some .int), Cond.fieldLink RX2 9 "EachEye$Old" "left" "I", Cond.sameField "EachEye$Old" "EachEye$Person" "left" "I", Cond.fieldLink RX2 15 "EachEye$Old" "right" "I", Cond.sameField "EachEye$Old" "EachEye$Person" "right" "I", Cond.methodLink RX7 116 yX4_glimpse, Cond.instanceMethod yX4_glimpse, Cond.selects RX4 yX4_glimpse yX4_glimpse, Cond.initialized RX4, Cond.fieldLink RX4 18 "EachEye$Person" "left" "I", Cond.fieldLink RX4 21 "EachEye$Person" "right" "I", Cond.selects RX5 ⟨"EachEye$Person", "glimpse", "(I)I"⟩ yX5_glimpse, Cond.instanceMethod yX5_glimpse, Cond.initialized RX5, Cond.code yX5_glimpse cX5_glimpse 2 (some .int), Cond.fieldLink RX5 9 "EachEye$Spy" "right" "I", Cond.sameField "EachEye$Spy" "EachEye$Person" "right" "I", Cond.selects RX6 ⟨"EachEye$Person", "glimpse", "(I)I"⟩ yX6_glimpse, Cond.instanceMethod yX6_glimpse, Cond.initialized RX6, Cond.code yX6_glimpse cX6_glimpse 3 (some .int), Cond.fieldLink RX6 9 "EachEye$Winker" "left" "I"]
def wsX7_differ_r3 : List Cond := [Cond.sameField "EachEye$Winker" "EachEye$Person" "left" "I", Cond.fieldLink RX6 15 "EachEye$Winker" "right" "I", Cond.sameField "EachEye$Winker" "EachEye$Person" "right" "I"]
def wsX7_differ : List Cond := .code yX7_differ cX7_differ 7 (some .int) :: ((wsX7_differ_r1 ++ (wsX7_differ_r2 ++ wsX7_differ_r3)) ++ wsX70 ++ wsX00 ++ wsX20 ++ wsX40 ++ wsX50 ++ wsX60)
def wsX7_alike_r1 : List Cond := [Cond.methodLink RX7 113 yX7_known, Cond.instanceMethod yX7_known, Cond.selects RX7 yX7_known yX7_known, Cond.initialized RX7, Cond.code yX7_known cX7_known 2 (some (.object "EachEye$Person")), Cond.fieldLink RX7 67 "EachEye" "peopleCount" "I", Cond.fieldLink RX7 18 "EachEye" "people" "[LEachEye$Person;", Cond.methodLink RX7 116 ⟨"EachEye$Person", "glimpse", "(I)I"⟩, Cond.sameMethod "EachEye$Person" "EachEye$Person" "glimpse" "(I)I", Cond.instanceMethod ⟨"EachEye$Person", "glimpse", "(I)I"⟩, Cond.selects RX0 ⟨"EachEye$Person", "glimpse", "(I)I"⟩ yX0_glimpse, Cond.instanceMethod yX0_glimpse, Cond.initialized RX0, Cond.code yX0_glimpse cX0_glimpse 2 (some .int), Cond.fieldLink RX0 9 "EachEye$Arguer" "left" "I", Cond.sameField "EachEye$Arguer" "EachEye$Person" "left" "I", Cond.fieldLink RX0 15 "EachEye$Arguer" "right" "I", Cond.sameField "EachEye$Arguer" "EachEye$Person" "right" "I", Cond.code yX4_glimpse cX4_glimpse 2 (some .int), Cond.selects RX2 ⟨"EachEye$Person", "glimpse", "(I)I"⟩ yX2_glimpse, Cond.instanceMethod yX2_glimpse, Cond.initialized RX2, Cond.code yX2_glimpse cX2_glimpse 2 (some .int), Cond.fieldLink RX2 9 "EachEye$Old" "left" "I"]
def wsX7_alike_r2 : List Cond := [Cond.sameField "EachEye$Old" "EachEye$Person" "left" "I", Cond.fieldLink RX2 15 "EachEye$Old" "right" "I", Cond.sameField "EachEye$Old" "EachEye$Person" "right" "I", Cond.methodLink RX7 116 yX4_glimpse, Cond.instanceMethod yX4_glimpse, Cond.selects RX4 yX4_glimpse yX4_glimpse, Cond.initialized RX4, Cond.fieldLink RX4 18 "EachEye$Person" "left" "I", Cond.fieldLink RX4 21 "EachEye$Person" "right" "I", Cond.selects RX5 ⟨"EachEye$Person", "glimpse", "(I)I"⟩ yX5_glimpse, Cond.instanceMethod yX5_glimpse, Cond.initialized RX5, Cond.code yX5_glimpse cX5_glimpse 2 (some .int), Cond.fieldLink RX5 9 "EachEye$Spy" "right" "I", Cond.sameField "EachEye$Spy" "EachEye$Person" "right" "I", Cond.selects RX6 ⟨"EachEye$Person", "glimpse", "(I)I"⟩ yX6_glimpse, Cond.instanceMethod yX6_glimpse, Cond.initialized RX6, Cond.code yX6_glimpse cX6_glimpse 3 (some .int), Cond.fieldLink RX6 9 "EachEye$Winker" "left" "I", Cond.sameField "EachEye$Winker" "EachEye$Person" "left" "I", Cond.fieldLink RX6 15 "EachEye$Winker" "right" "I", Cond.sameField "EachEye$Winker" "EachEye$Person" "right" "I"]
def wsX7_alike : List Cond := .code yX7_alike cX7_alike 7 (some .int) :: ((wsX7_alike_r1 ++ wsX7_alike_r2) ++ wsX70 ++ wsX00 ++ wsX20 ++ wsX40 ++ wsX50 ++ wsX60)
def wsJ6_bitCount_0f7a4 : List Cond := .code yJ6_bitCount_0f7a4 cJ6_bitCount_0f7a4 1 (some .int) :: ([.constant RJ6 265 (1431655765), .constant RJ6 266 (858993459), .constant RJ6 267 (252645135)])
def wsX7_unionOf : List Cond := .code yX7_unionOf cX7_unionOf 4 (some .int) :: ([.fieldLink RX7 70 "EachEye" "inkCount" "I", .fieldLink RX7 22 "EachEye" "inks" "[I", .methodLink RX7 93 yX7_holds, .static yX7_holds, .initialized RX7, .code yX7_holds cX7_holds 2 (some .boolean)] ++ wsX70)
def wsX7_isAsTold_r1 : List Cond := [Cond.fieldLink RX7 67 "EachEye" "peopleCount" "I", Cond.fieldLink RX7 120 "EachEye$Person" "told" "I", Cond.methodLink RX7 113 yX7_known, Cond.instanceMethod yX7_known, Cond.selects RX7 yX7_known yX7_known, Cond.initialized RX7, Cond.code yX7_known cX7_known 2 (some (.object "EachEye$Person")), Cond.fieldLink RX7 18 "EachEye" "people" "[LEachEye$Person;", Cond.methodLink RX7 116 ⟨"EachEye$Person", "glimpse", "(I)I"⟩, Cond.sameMethod "EachEye$Person" "EachEye$Person" "glimpse" "(I)I", Cond.instanceMethod ⟨"EachEye$Person", "glimpse", "(I)I"⟩, Cond.selects RX0 ⟨"EachEye$Person", "glimpse", "(I)I"⟩ yX0_glimpse, Cond.instanceMethod yX0_glimpse, Cond.initialized RX0, Cond.code yX0_glimpse cX0_glimpse 2 (some .int), Cond.fieldLink RX0 9 "EachEye$Arguer" "left" "I", Cond.sameField "EachEye$Arguer" "EachEye$Person" "left" "I", Cond.fieldLink RX0 15 "EachEye$Arguer" "right" "I", Cond.sameField "EachEye$Arguer" "EachEye$Person" "right" "I", Cond.code yX4_glimpse cX4_glimpse 2 (some .int), Cond.selects RX2 ⟨"EachEye$Person", "glimpse", "(I)I"⟩ yX2_glimpse, Cond.instanceMethod yX2_glimpse, Cond.initialized RX2, Cond.code yX2_glimpse cX2_glimpse 2 (some .int)]
def wsX7_isAsTold_r2 : List Cond := [Cond.fieldLink RX2 9 "EachEye$Old" "left" "I", Cond.sameField "EachEye$Old" "EachEye$Person" "left" "I", Cond.fieldLink RX2 15 "EachEye$Old" "right" "I", Cond.sameField "EachEye$Old" "EachEye$Person" "right" "I", Cond.methodLink RX7 116 yX4_glimpse, Cond.instanceMethod yX4_glimpse, Cond.selects RX4 yX4_glimpse yX4_glimpse, Cond.initialized RX4, Cond.fieldLink RX4 18 "EachEye$Person" "left" "I", Cond.fieldLink RX4 21 "EachEye$Person" "right" "I", Cond.selects RX5 ⟨"EachEye$Person", "glimpse", "(I)I"⟩ yX5_glimpse, Cond.instanceMethod yX5_glimpse, Cond.initialized RX5, Cond.code yX5_glimpse cX5_glimpse 2 (some .int), Cond.fieldLink RX5 9 "EachEye$Spy" "right" "I", Cond.sameField "EachEye$Spy" "EachEye$Person" "right" "I", Cond.selects RX6 ⟨"EachEye$Person", "glimpse", "(I)I"⟩ yX6_glimpse, Cond.instanceMethod yX6_glimpse, Cond.initialized RX6, Cond.code yX6_glimpse cX6_glimpse 3 (some .int), Cond.fieldLink RX6 9 "EachEye$Winker" "left" "I", Cond.sameField "EachEye$Winker" "EachEye$Person" "left" "I", Cond.fieldLink RX6 15 "EachEye$Winker" "right" "I", Cond.sameField "EachEye$Winker" "EachEye$Person" "right" "I"]
def wsX7_isAsTold_r3 : List Cond := [Cond.methodLink RX7 85 yX7_hueAt, Cond.static yX7_hueAt, Cond.code yX7_hueAt cX7_hueAt 2 (some .int)]
def wsX7_isAsTold : List Cond := .code yX7_isAsTold cX7_isAsTold 5 (some .boolean) :: ((wsX7_isAsTold_r1 ++ (wsX7_isAsTold_r2 ++ wsX7_isAsTold_r3)) ++ wsX70 ++ wsX00 ++ wsX20 ++ wsX40 ++ wsX50 ++ wsX60)
def wsX7_sufficesAt_r1 : List Cond := [Cond.fieldLink RX7 39 "EachEye" "theSign" "I", Cond.methodLink RX7 85 yX7_hueAt, Cond.static yX7_hueAt, Cond.initialized RX7, Cond.code yX7_hueAt cX7_hueAt 2 (some .int), Cond.methodLink RX7 242 yX7_unionOf, Cond.instanceMethod yX7_unionOf, Cond.selects RX7 yX7_unionOf yX7_unionOf, Cond.code yX7_unionOf cX7_unionOf 4 (some .int), Cond.fieldLink RX7 70 "EachEye" "inkCount" "I", Cond.fieldLink RX7 22 "EachEye" "inks" "[I", Cond.methodLink RX7 93 yX7_holds, Cond.static yX7_holds, Cond.code yX7_holds cX7_holds 2 (some .boolean), Cond.methodLink RX7 245 yX7_isAsTold, Cond.instanceMethod yX7_isAsTold, Cond.selects RX7 yX7_isAsTold yX7_isAsTold, Cond.code yX7_isAsTold cX7_isAsTold 5 (some .boolean), Cond.fieldLink RX7 67 "EachEye" "peopleCount" "I", Cond.fieldLink RX7 120 "EachEye$Person" "told" "I", Cond.methodLink RX7 113 yX7_known, Cond.instanceMethod yX7_known, Cond.selects RX7 yX7_known yX7_known, Cond.code yX7_known cX7_known 2 (some (.object "EachEye$Person"))]
def wsX7_sufficesAt_r2 : List Cond := [Cond.fieldLink RX7 18 "EachEye" "people" "[LEachEye$Person;", Cond.methodLink RX7 116 ⟨"EachEye$Person", "glimpse", "(I)I"⟩, Cond.sameMethod "EachEye$Person" "EachEye$Person" "glimpse" "(I)I", Cond.instanceMethod ⟨"EachEye$Person", "glimpse", "(I)I"⟩, Cond.selects RX0 ⟨"EachEye$Person", "glimpse", "(I)I"⟩ yX0_glimpse, Cond.instanceMethod yX0_glimpse, Cond.initialized RX0, Cond.code yX0_glimpse cX0_glimpse 2 (some .int), Cond.fieldLink RX0 9 "EachEye$Arguer" "left" "I", Cond.sameField "EachEye$Arguer" "EachEye$Person" "left" "I", Cond.fieldLink RX0 15 "EachEye$Arguer" "right" "I", Cond.sameField "EachEye$Arguer" "EachEye$Person" "right" "I", Cond.code yX4_glimpse cX4_glimpse 2 (some .int), Cond.selects RX2 ⟨"EachEye$Person", "glimpse", "(I)I"⟩ yX2_glimpse, Cond.instanceMethod yX2_glimpse, Cond.initialized RX2, Cond.code yX2_glimpse cX2_glimpse 2 (some .int), Cond.fieldLink RX2 9 "EachEye$Old" "left" "I", Cond.sameField "EachEye$Old" "EachEye$Person" "left" "I", Cond.fieldLink RX2 15 "EachEye$Old" "right" "I", Cond.sameField "EachEye$Old" "EachEye$Person" "right" "I", Cond.methodLink RX7 116 yX4_glimpse, Cond.instanceMethod yX4_glimpse, Cond.selects RX4 yX4_glimpse yX4_glimpse]
def wsX7_sufficesAt_r3 : List Cond := [Cond.initialized RX4, Cond.fieldLink RX4 18 "EachEye$Person" "left" "I", Cond.fieldLink RX4 21 "EachEye$Person" "right" "I", Cond.selects RX5 ⟨"EachEye$Person", "glimpse", "(I)I"⟩ yX5_glimpse, Cond.instanceMethod yX5_glimpse, Cond.initialized RX5, Cond.code yX5_glimpse cX5_glimpse 2 (some .int), Cond.fieldLink RX5 9 "EachEye$Spy" "right" "I", Cond.sameField "EachEye$Spy" "EachEye$Person" "right" "I", Cond.selects RX6 ⟨"EachEye$Person", "glimpse", "(I)I"⟩ yX6_glimpse, Cond.instanceMethod yX6_glimpse, Cond.initialized RX6, Cond.code yX6_glimpse cX6_glimpse 3 (some .int), Cond.fieldLink RX6 9 "EachEye$Winker" "left" "I", Cond.sameField "EachEye$Winker" "EachEye$Person" "left" "I", Cond.fieldLink RX6 15 "EachEye$Winker" "right" "I", Cond.sameField "EachEye$Winker" "EachEye$Person" "right" "I"]
def wsX7_sufficesAt : List Cond := .code yX7_sufficesAt cX7_sufficesAt 4 (some .boolean) :: ((wsX7_sufficesAt_r1 ++ (wsX7_sufficesAt_r2 ++ wsX7_sufficesAt_r3)) ++ wsX70 ++ wsX00 ++ wsX20 ++ wsX40 ++ wsX50 ++ wsX60)
def wsX7_suffices_r1 : List Cond := [Cond.methodLink RX7 239 yX7_sufficesAt, Cond.instanceMethod yX7_sufficesAt, Cond.selects RX7 yX7_sufficesAt yX7_sufficesAt, Cond.initialized RX7, Cond.code yX7_sufficesAt cX7_sufficesAt 4 (some .boolean), Cond.fieldLink RX7 39 "EachEye" "theSign" "I", Cond.methodLink RX7 85 yX7_hueAt, Cond.static yX7_hueAt, Cond.code yX7_hueAt cX7_hueAt 2 (some .int), Cond.methodLink RX7 242 yX7_unionOf, Cond.instanceMethod yX7_unionOf, Cond.selects RX7 yX7_unionOf yX7_unionOf, Cond.code yX7_unionOf cX7_unionOf 4 (some .int), Cond.fieldLink RX7 70 "EachEye" "inkCount" "I", Cond.fieldLink RX7 22 "EachEye" "inks" "[I", Cond.methodLink RX7 93 yX7_holds, Cond.static yX7_holds, Cond.code yX7_holds cX7_holds 2 (some .boolean), Cond.methodLink RX7 245 yX7_isAsTold, Cond.instanceMethod yX7_isAsTold, Cond.selects RX7 yX7_isAsTold yX7_isAsTold, Cond.code yX7_isAsTold cX7_isAsTold 5 (some .boolean), Cond.fieldLink RX7 67 "EachEye" "peopleCount" "I", Cond.fieldLink RX7 120 "EachEye$Person" "told" "I"]
def wsX7_suffices_r2 : List Cond := [Cond.methodLink RX7 113 yX7_known, Cond.instanceMethod yX7_known, Cond.selects RX7 yX7_known yX7_known, Cond.code yX7_known cX7_known 2 (some (.object "EachEye$Person")), Cond.fieldLink RX7 18 "EachEye" "people" "[LEachEye$Person;", Cond.methodLink RX7 116 ⟨"EachEye$Person", "glimpse", "(I)I"⟩, Cond.sameMethod "EachEye$Person" "EachEye$Person" "glimpse" "(I)I", Cond.instanceMethod ⟨"EachEye$Person", "glimpse", "(I)I"⟩, Cond.selects RX0 ⟨"EachEye$Person", "glimpse", "(I)I"⟩ yX0_glimpse, Cond.instanceMethod yX0_glimpse, Cond.initialized RX0, Cond.code yX0_glimpse cX0_glimpse 2 (some .int), Cond.fieldLink RX0 9 "EachEye$Arguer" "left" "I", Cond.sameField "EachEye$Arguer" "EachEye$Person" "left" "I", Cond.fieldLink RX0 15 "EachEye$Arguer" "right" "I", Cond.sameField "EachEye$Arguer" "EachEye$Person" "right" "I", Cond.code yX4_glimpse cX4_glimpse 2 (some .int), Cond.selects RX2 ⟨"EachEye$Person", "glimpse", "(I)I"⟩ yX2_glimpse, Cond.instanceMethod yX2_glimpse, Cond.initialized RX2, Cond.code yX2_glimpse cX2_glimpse 2 (some .int), Cond.fieldLink RX2 9 "EachEye$Old" "left" "I", Cond.sameField "EachEye$Old" "EachEye$Person" "left" "I", Cond.fieldLink RX2 15 "EachEye$Old" "right" "I"]
def wsX7_suffices_r3 : List Cond := [Cond.sameField "EachEye$Old" "EachEye$Person" "right" "I", Cond.methodLink RX7 116 yX4_glimpse, Cond.instanceMethod yX4_glimpse, Cond.selects RX4 yX4_glimpse yX4_glimpse, Cond.initialized RX4, Cond.fieldLink RX4 18 "EachEye$Person" "left" "I", Cond.fieldLink RX4 21 "EachEye$Person" "right" "I", Cond.selects RX5 ⟨"EachEye$Person", "glimpse", "(I)I"⟩ yX5_glimpse, Cond.instanceMethod yX5_glimpse, Cond.initialized RX5, Cond.code yX5_glimpse cX5_glimpse 2 (some .int), Cond.fieldLink RX5 9 "EachEye$Spy" "right" "I", Cond.sameField "EachEye$Spy" "EachEye$Person" "right" "I", Cond.selects RX6 ⟨"EachEye$Person", "glimpse", "(I)I"⟩ yX6_glimpse, Cond.instanceMethod yX6_glimpse, Cond.initialized RX6, Cond.code yX6_glimpse cX6_glimpse 3 (some .int), Cond.fieldLink RX6 9 "EachEye$Winker" "left" "I", Cond.sameField "EachEye$Winker" "EachEye$Person" "left" "I", Cond.fieldLink RX6 15 "EachEye$Winker" "right" "I", Cond.sameField "EachEye$Winker" "EachEye$Person" "right" "I"]
def wsX7_suffices : List Cond := .code yX7_suffices cX7_suffices 3 (some .boolean) :: ((wsX7_suffices_r1 ++ (wsX7_suffices_r2 ++ wsX7_suffices_r3)) ++ wsX70 ++ wsX00 ++ wsX20 ++ wsX40 ++ wsX50 ++ wsX60)
def wsX7_fewestInks_r1 : List Cond := [Cond.fieldLink RX7 70 "EachEye" "inkCount" "I", Cond.methodLink RX7 139 yJ6_bitCount_0f7a4, Cond.static yJ6_bitCount_0f7a4, Cond.initialized RJ6, Cond.code yJ6_bitCount_0f7a4 cJ6_bitCount_0f7a4 1 (some .int), Cond.constant RJ6 265 (1431655765), Cond.constant RJ6 266 (858993459), Cond.constant RJ6 267 (252645135), Cond.methodLink RX7 236 yX7_suffices, Cond.instanceMethod yX7_suffices, Cond.selects RX7 yX7_suffices yX7_suffices, Cond.initialized RX7, Cond.code yX7_suffices cX7_suffices 3 (some .boolean), Cond.methodLink RX7 239 yX7_sufficesAt, Cond.instanceMethod yX7_sufficesAt, Cond.selects RX7 yX7_sufficesAt yX7_sufficesAt, Cond.code yX7_sufficesAt cX7_sufficesAt 4 (some .boolean), Cond.fieldLink RX7 39 "EachEye" "theSign" "I", Cond.methodLink RX7 85 yX7_hueAt, Cond.static yX7_hueAt, Cond.code yX7_hueAt cX7_hueAt 2 (some .int), Cond.methodLink RX7 242 yX7_unionOf, Cond.instanceMethod yX7_unionOf, Cond.selects RX7 yX7_unionOf yX7_unionOf]
def wsX7_fewestInks_r2 : List Cond := [Cond.code yX7_unionOf cX7_unionOf 4 (some .int), Cond.fieldLink RX7 22 "EachEye" "inks" "[I", Cond.methodLink RX7 93 yX7_holds, Cond.static yX7_holds, Cond.code yX7_holds cX7_holds 2 (some .boolean), Cond.methodLink RX7 245 yX7_isAsTold, Cond.instanceMethod yX7_isAsTold, Cond.selects RX7 yX7_isAsTold yX7_isAsTold, Cond.code yX7_isAsTold cX7_isAsTold 5 (some .boolean), Cond.fieldLink RX7 67 "EachEye" "peopleCount" "I", Cond.fieldLink RX7 120 "EachEye$Person" "told" "I", Cond.methodLink RX7 113 yX7_known, Cond.instanceMethod yX7_known, Cond.selects RX7 yX7_known yX7_known, Cond.code yX7_known cX7_known 2 (some (.object "EachEye$Person")), Cond.fieldLink RX7 18 "EachEye" "people" "[LEachEye$Person;", Cond.methodLink RX7 116 ⟨"EachEye$Person", "glimpse", "(I)I"⟩, Cond.sameMethod "EachEye$Person" "EachEye$Person" "glimpse" "(I)I", Cond.instanceMethod ⟨"EachEye$Person", "glimpse", "(I)I"⟩, Cond.selects RX0 ⟨"EachEye$Person", "glimpse", "(I)I"⟩ yX0_glimpse, Cond.instanceMethod yX0_glimpse, Cond.initialized RX0, Cond.code yX0_glimpse cX0_glimpse 2 (some .int), Cond.fieldLink RX0 9 "EachEye$Arguer" "left" "I"]
def wsX7_fewestInks_r3 : List Cond := [Cond.sameField "EachEye$Arguer" "EachEye$Person" "left" "I", Cond.fieldLink RX0 15 "EachEye$Arguer" "right" "I", Cond.sameField "EachEye$Arguer" "EachEye$Person" "right" "I", Cond.code yX4_glimpse cX4_glimpse 2 (some .int), Cond.selects RX2 ⟨"EachEye$Person", "glimpse", "(I)I"⟩ yX2_glimpse, Cond.instanceMethod yX2_glimpse, Cond.initialized RX2, Cond.code yX2_glimpse cX2_glimpse 2 (some .int), Cond.fieldLink RX2 9 "EachEye$Old" "left" "I", Cond.sameField "EachEye$Old" "EachEye$Person" "left" "I", Cond.fieldLink RX2 15 "EachEye$Old" "right" "I", Cond.sameField "EachEye$Old" "EachEye$Person" "right" "I", Cond.methodLink RX7 116 yX4_glimpse, Cond.instanceMethod yX4_glimpse, Cond.selects RX4 yX4_glimpse yX4_glimpse, Cond.initialized RX4, Cond.fieldLink RX4 18 "EachEye$Person" "left" "I", Cond.fieldLink RX4 21 "EachEye$Person" "right" "I", Cond.selects RX5 ⟨"EachEye$Person", "glimpse", "(I)I"⟩ yX5_glimpse, Cond.instanceMethod yX5_glimpse, Cond.initialized RX5, Cond.code yX5_glimpse cX5_glimpse 2 (some .int), Cond.fieldLink RX5 9 "EachEye$Spy" "right" "I", Cond.sameField "EachEye$Spy" "EachEye$Person" "right" "I"]
def wsX7_fewestInks_r4 : List Cond := [Cond.selects RX6 ⟨"EachEye$Person", "glimpse", "(I)I"⟩ yX6_glimpse, Cond.instanceMethod yX6_glimpse, Cond.initialized RX6, Cond.code yX6_glimpse cX6_glimpse 3 (some .int), Cond.fieldLink RX6 9 "EachEye$Winker" "left" "I", Cond.sameField "EachEye$Winker" "EachEye$Person" "left" "I", Cond.fieldLink RX6 15 "EachEye$Winker" "right" "I", Cond.sameField "EachEye$Winker" "EachEye$Person" "right" "I"]
def wsX7_fewestInks : List Cond := .code yX7_fewestInks cX7_fewestInks 3 (some .int) :: ((wsX7_fewestInks_r1 ++ (wsX7_fewestInks_r2 ++ (wsX7_fewestInks_r3 ++ wsX7_fewestInks_r4))) ++ wsX70 ++ wsX00 ++ wsX20 ++ wsX40 ++ wsX50 ++ wsX60)
def wsX7_few_r1 : List Cond := [Cond.fieldLink RX7 39 "EachEye" "theSign" "I", Cond.methodLink RX7 136 yX7_fewestInks, Cond.instanceMethod yX7_fewestInks, Cond.selects RX7 yX7_fewestInks yX7_fewestInks, Cond.initialized RX7, Cond.code yX7_fewestInks cX7_fewestInks 3 (some .int), Cond.fieldLink RX7 70 "EachEye" "inkCount" "I", Cond.methodLink RX7 139 yJ6_bitCount_0f7a4, Cond.static yJ6_bitCount_0f7a4, Cond.initialized RJ6, Cond.code yJ6_bitCount_0f7a4 cJ6_bitCount_0f7a4 1 (some .int), Cond.constant RJ6 265 (1431655765), Cond.constant RJ6 266 (858993459), Cond.constant RJ6 267 (252645135), Cond.methodLink RX7 236 yX7_suffices, Cond.instanceMethod yX7_suffices, Cond.selects RX7 yX7_suffices yX7_suffices, Cond.code yX7_suffices cX7_suffices 3 (some .boolean), Cond.methodLink RX7 239 yX7_sufficesAt, Cond.instanceMethod yX7_sufficesAt, Cond.selects RX7 yX7_sufficesAt yX7_sufficesAt, Cond.code yX7_sufficesAt cX7_sufficesAt 4 (some .boolean), Cond.methodLink RX7 85 yX7_hueAt, Cond.static yX7_hueAt]
def wsX7_few_r2 : List Cond := [Cond.code yX7_hueAt cX7_hueAt 2 (some .int), Cond.methodLink RX7 242 yX7_unionOf, Cond.instanceMethod yX7_unionOf, Cond.selects RX7 yX7_unionOf yX7_unionOf, Cond.code yX7_unionOf cX7_unionOf 4 (some .int), Cond.fieldLink RX7 22 "EachEye" "inks" "[I", Cond.methodLink RX7 93 yX7_holds, Cond.static yX7_holds, Cond.code yX7_holds cX7_holds 2 (some .boolean), Cond.methodLink RX7 245 yX7_isAsTold, Cond.instanceMethod yX7_isAsTold, Cond.selects RX7 yX7_isAsTold yX7_isAsTold, Cond.code yX7_isAsTold cX7_isAsTold 5 (some .boolean), Cond.fieldLink RX7 67 "EachEye" "peopleCount" "I", Cond.fieldLink RX7 120 "EachEye$Person" "told" "I", Cond.methodLink RX7 113 yX7_known, Cond.instanceMethod yX7_known, Cond.selects RX7 yX7_known yX7_known, Cond.code yX7_known cX7_known 2 (some (.object "EachEye$Person")), Cond.fieldLink RX7 18 "EachEye" "people" "[LEachEye$Person;", Cond.methodLink RX7 116 ⟨"EachEye$Person", "glimpse", "(I)I"⟩, Cond.sameMethod "EachEye$Person" "EachEye$Person" "glimpse" "(I)I", Cond.instanceMethod ⟨"EachEye$Person", "glimpse", "(I)I"⟩, Cond.selects RX0 ⟨"EachEye$Person", "glimpse", "(I)I"⟩ yX0_glimpse]
def wsX7_few_r3 : List Cond := [Cond.instanceMethod yX0_glimpse, Cond.initialized RX0, Cond.code yX0_glimpse cX0_glimpse 2 (some .int), Cond.fieldLink RX0 9 "EachEye$Arguer" "left" "I", Cond.sameField "EachEye$Arguer" "EachEye$Person" "left" "I", Cond.fieldLink RX0 15 "EachEye$Arguer" "right" "I", Cond.sameField "EachEye$Arguer" "EachEye$Person" "right" "I", Cond.code yX4_glimpse cX4_glimpse 2 (some .int), Cond.selects RX2 ⟨"EachEye$Person", "glimpse", "(I)I"⟩ yX2_glimpse, Cond.instanceMethod yX2_glimpse, Cond.initialized RX2, Cond.code yX2_glimpse cX2_glimpse 2 (some .int), Cond.fieldLink RX2 9 "EachEye$Old" "left" "I", Cond.sameField "EachEye$Old" "EachEye$Person" "left" "I", Cond.fieldLink RX2 15 "EachEye$Old" "right" "I", Cond.sameField "EachEye$Old" "EachEye$Person" "right" "I", Cond.methodLink RX7 116 yX4_glimpse, Cond.instanceMethod yX4_glimpse, Cond.selects RX4 yX4_glimpse yX4_glimpse, Cond.initialized RX4, Cond.fieldLink RX4 18 "EachEye$Person" "left" "I", Cond.fieldLink RX4 21 "EachEye$Person" "right" "I", Cond.selects RX5 ⟨"EachEye$Person", "glimpse", "(I)I"⟩ yX5_glimpse, Cond.instanceMethod yX5_glimpse]
def wsX7_few_r4 : List Cond := [Cond.initialized RX5, Cond.code yX5_glimpse cX5_glimpse 2 (some .int), Cond.fieldLink RX5 9 "EachEye$Spy" "right" "I", Cond.sameField "EachEye$Spy" "EachEye$Person" "right" "I", Cond.selects RX6 ⟨"EachEye$Person", "glimpse", "(I)I"⟩ yX6_glimpse, Cond.instanceMethod yX6_glimpse, Cond.initialized RX6, Cond.code yX6_glimpse cX6_glimpse 3 (some .int), Cond.fieldLink RX6 9 "EachEye$Winker" "left" "I", Cond.sameField "EachEye$Winker" "EachEye$Person" "left" "I", Cond.fieldLink RX6 15 "EachEye$Winker" "right" "I", Cond.sameField "EachEye$Winker" "EachEye$Person" "right" "I"]
def wsX7_few : List Cond := .code yX7_few cX7_few 3 (some .int) :: ((wsX7_few_r1 ++ (wsX7_few_r2 ++ (wsX7_few_r3 ++ wsX7_few_r4))) ++ wsX70 ++ wsX00 ++ wsX20 ++ wsX40 ++ wsX50 ++ wsX60)
def wsX7_card : List Cond := .code yX7_card cX7_card 3 (some .int) :: ([.fieldLink RX7 29 "EachEye" "cards" "LEachEye$Cards;", .methodLink RX7 104 yX7_isHue, .static yX7_isHue, .initialized RX7, .code yX7_isHue cX7_isHue 1 (some .boolean), .methodLink RX7 145 yX1_put, .instanceMethod yX1_put, .selects RX1 yX1_put yX1_put, .initialized RX1, .code yX1_put cX1_put 3 none, .fieldLink RX1 24 "EachEye$Cards" "size" "I", .fieldLink RX1 9 "EachEye$Cards" "shown" "[I", .fieldLink RX1 15 "EachEye$Cards" "said" "[I"] ++ wsX70 ++ wsX10)
def wsX7_forget : List Cond := .code yX7_forget cX7_forget 2 (some .int) :: ([.fieldLink RX7 29 "EachEye" "cards" "LEachEye$Cards;", .methodLink RX7 76 yX1_clear, .instanceMethod yX1_clear, .selects RX1 yX1_clear yX1_clear, .initialized RX1, .code yX1_clear cX1_clear 1 none, .fieldLink RX1 24 "EachEye$Cards" "size" "I"] ++ wsX70 ++ wsX10)
def wsX7_trial : List Cond := .code yX7_trial cX7_trial 5 (some (.object "EachEye$Person")) :: ([.fieldLink RX7 33 "EachEye" "trials" "[LEachEye$Person;", .fieldLink RX7 107 "EachEye$Person" "left" "I", .fieldLink RX7 110 "EachEye$Person" "right" "I"] ++ wsX70 ++ wsX00 ++ wsX20 ++ wsX40 ++ wsX50 ++ wsX60)
def wsX7_candidate : List Cond := .code yX7_candidate cX7_candidate 2 (some (.object "EachEye$Person")) :: ([.methodLink RX7 164 yX7_trial, .instanceMethod yX7_trial, .selects RX7 yX7_trial yX7_trial, .initialized RX7, .code yX7_trial cX7_trial 5 (some (.object "EachEye$Person")), .fieldLink RX7 33 "EachEye" "trials" "[LEachEye$Person;", .fieldLink RX7 107 "EachEye$Person" "left" "I", .fieldLink RX7 110 "EachEye$Person" "right" "I"] ++ wsX70 ++ wsX00 ++ wsX20 ++ wsX40 ++ wsX50 ++ wsX60)
def wsX7_who_r1 : List Cond := [Cond.fieldLink RX7 148 "EachEye" "questionsDone" "I", Cond.fieldLink RX7 29 "EachEye" "cards" "LEachEye$Cards;", Cond.methodLink RX7 151 yX7_candidate, Cond.instanceMethod yX7_candidate, Cond.selects RX7 yX7_candidate yX7_candidate, Cond.initialized RX7, Cond.code yX7_candidate cX7_candidate 2 (some (.object "EachEye$Person")), Cond.methodLink RX7 164 yX7_trial, Cond.instanceMethod yX7_trial, Cond.selects RX7 yX7_trial yX7_trial, Cond.code yX7_trial cX7_trial 5 (some (.object "EachEye$Person")), Cond.fieldLink RX7 33 "EachEye" "trials" "[LEachEye$Person;", Cond.fieldLink RX7 107 "EachEye$Person" "left" "I", Cond.fieldLink RX7 110 "EachEye$Person" "right" "I", Cond.methodLink RX7 154 yX1_fit, Cond.instanceMethod yX1_fit, Cond.selects RX1 yX1_fit yX1_fit, Cond.initialized RX1, Cond.code yX1_fit cX1_fit 3 (some .boolean), Cond.fieldLink RX1 24 "EachEye$Cards" "size" "I", Cond.fieldLink RX1 9 "EachEye$Cards" "shown" "[I", Cond.fieldLink RX1 15 "EachEye$Cards" "said" "[I", Cond.methodLink RX1 28 ⟨"EachEye$Person", "glimpse", "(I)I"⟩, Cond.sameMethod "EachEye$Person" "EachEye$Person" "glimpse" "(I)I"]
def wsX7_who_r2 : List Cond := [Cond.instanceMethod ⟨"EachEye$Person", "glimpse", "(I)I"⟩, Cond.selects RX0 ⟨"EachEye$Person", "glimpse", "(I)I"⟩ yX0_glimpse, Cond.instanceMethod yX0_glimpse, Cond.initialized RX0, Cond.code yX0_glimpse cX0_glimpse 2 (some .int), Cond.fieldLink RX0 9 "EachEye$Arguer" "left" "I", Cond.sameField "EachEye$Arguer" "EachEye$Person" "left" "I", Cond.fieldLink RX0 15 "EachEye$Arguer" "right" "I", Cond.sameField "EachEye$Arguer" "EachEye$Person" "right" "I", Cond.code yX4_glimpse cX4_glimpse 2 (some .int), Cond.selects RX2 ⟨"EachEye$Person", "glimpse", "(I)I"⟩ yX2_glimpse, Cond.instanceMethod yX2_glimpse, Cond.initialized RX2, Cond.code yX2_glimpse cX2_glimpse 2 (some .int), Cond.fieldLink RX2 9 "EachEye$Old" "left" "I", Cond.sameField "EachEye$Old" "EachEye$Person" "left" "I", Cond.fieldLink RX2 15 "EachEye$Old" "right" "I", Cond.sameField "EachEye$Old" "EachEye$Person" "right" "I", Cond.methodLink RX1 28 yX4_glimpse, Cond.instanceMethod yX4_glimpse, Cond.selects RX4 yX4_glimpse yX4_glimpse, Cond.initialized RX4, Cond.fieldLink RX4 18 "EachEye$Person" "left" "I", Cond.fieldLink RX4 21 "EachEye$Person" "right" "I"]
def wsX7_who_r3 : List Cond := [Cond.selects RX5 ⟨"EachEye$Person", "glimpse", "(I)I"⟩ yX5_glimpse, Cond.instanceMethod yX5_glimpse, Cond.initialized RX5, Cond.code yX5_glimpse cX5_glimpse 2 (some .int), Cond.fieldLink RX5 9 "EachEye$Spy" "right" "I", Cond.sameField "EachEye$Spy" "EachEye$Person" "right" "I", Cond.selects RX6 ⟨"EachEye$Person", "glimpse", "(I)I"⟩ yX6_glimpse, Cond.instanceMethod yX6_glimpse, Cond.initialized RX6, Cond.code yX6_glimpse cX6_glimpse 3 (some .int), Cond.fieldLink RX6 9 "EachEye$Winker" "left" "I", Cond.sameField "EachEye$Winker" "EachEye$Person" "left" "I", Cond.fieldLink RX6 15 "EachEye$Winker" "right" "I", Cond.sameField "EachEye$Winker" "EachEye$Person" "right" "I"]
def wsX7_who : List Cond := .code yX7_who cX7_who 5 (some .int) :: ((wsX7_who_r1 ++ (wsX7_who_r2 ++ wsX7_who_r3)) ++ wsX70 ++ wsX00 ++ wsX20 ++ wsX40 ++ wsX50 ++ wsX60 ++ wsX10)
def wsX7_countSayings_r1 : List Cond := [Cond.fieldLink RX7 36 "EachEye" "sayings" "[I", Cond.fieldLink RX7 29 "EachEye" "cards" "LEachEye$Cards;", Cond.methodLink RX7 151 yX7_candidate, Cond.instanceMethod yX7_candidate, Cond.selects RX7 yX7_candidate yX7_candidate, Cond.initialized RX7, Cond.code yX7_candidate cX7_candidate 2 (some (.object "EachEye$Person")), Cond.methodLink RX7 164 yX7_trial, Cond.instanceMethod yX7_trial, Cond.selects RX7 yX7_trial yX7_trial, Cond.code yX7_trial cX7_trial 5 (some (.object "EachEye$Person")), Cond.fieldLink RX7 33 "EachEye" "trials" "[LEachEye$Person;", Cond.fieldLink RX7 107 "EachEye$Person" "left" "I", Cond.fieldLink RX7 110 "EachEye$Person" "right" "I", Cond.methodLink RX7 154 yX1_fit, Cond.instanceMethod yX1_fit, Cond.selects RX1 yX1_fit yX1_fit, Cond.initialized RX1, Cond.code yX1_fit cX1_fit 3 (some .boolean), Cond.fieldLink RX1 24 "EachEye$Cards" "size" "I", Cond.fieldLink RX1 9 "EachEye$Cards" "shown" "[I", Cond.fieldLink RX1 15 "EachEye$Cards" "said" "[I", Cond.methodLink RX1 28 ⟨"EachEye$Person", "glimpse", "(I)I"⟩, Cond.sameMethod "EachEye$Person" "EachEye$Person" "glimpse" "(I)I"]
def wsX7_countSayings_r2 : List Cond := [Cond.instanceMethod ⟨"EachEye$Person", "glimpse", "(I)I"⟩, Cond.selects RX0 ⟨"EachEye$Person", "glimpse", "(I)I"⟩ yX0_glimpse, Cond.instanceMethod yX0_glimpse, Cond.initialized RX0, Cond.code yX0_glimpse cX0_glimpse 2 (some .int), Cond.fieldLink RX0 9 "EachEye$Arguer" "left" "I", Cond.sameField "EachEye$Arguer" "EachEye$Person" "left" "I", Cond.fieldLink RX0 15 "EachEye$Arguer" "right" "I", Cond.sameField "EachEye$Arguer" "EachEye$Person" "right" "I", Cond.code yX4_glimpse cX4_glimpse 2 (some .int), Cond.selects RX2 ⟨"EachEye$Person", "glimpse", "(I)I"⟩ yX2_glimpse, Cond.instanceMethod yX2_glimpse, Cond.initialized RX2, Cond.code yX2_glimpse cX2_glimpse 2 (some .int), Cond.fieldLink RX2 9 "EachEye$Old" "left" "I", Cond.sameField "EachEye$Old" "EachEye$Person" "left" "I", Cond.fieldLink RX2 15 "EachEye$Old" "right" "I", Cond.sameField "EachEye$Old" "EachEye$Person" "right" "I", Cond.methodLink RX1 28 yX4_glimpse, Cond.instanceMethod yX4_glimpse, Cond.selects RX4 yX4_glimpse yX4_glimpse, Cond.initialized RX4, Cond.fieldLink RX4 18 "EachEye$Person" "left" "I", Cond.fieldLink RX4 21 "EachEye$Person" "right" "I"]
def wsX7_countSayings_r3 : List Cond := [Cond.selects RX5 ⟨"EachEye$Person", "glimpse", "(I)I"⟩ yX5_glimpse, Cond.instanceMethod yX5_glimpse, Cond.initialized RX5, Cond.code yX5_glimpse cX5_glimpse 2 (some .int), Cond.fieldLink RX5 9 "EachEye$Spy" "right" "I", Cond.sameField "EachEye$Spy" "EachEye$Person" "right" "I", Cond.selects RX6 ⟨"EachEye$Person", "glimpse", "(I)I"⟩ yX6_glimpse, Cond.instanceMethod yX6_glimpse, Cond.initialized RX6, Cond.code yX6_glimpse cX6_glimpse 3 (some .int), Cond.fieldLink RX6 9 "EachEye$Winker" "left" "I", Cond.sameField "EachEye$Winker" "EachEye$Person" "left" "I", Cond.fieldLink RX6 15 "EachEye$Winker" "right" "I", Cond.sameField "EachEye$Winker" "EachEye$Person" "right" "I", Cond.methodLink RX7 116 ⟨"EachEye$Person", "glimpse", "(I)I"⟩, Cond.methodLink RX7 116 yX4_glimpse]
def wsX7_countSayings : List Cond := .code yX7_countSayings cX7_countSayings 5 (some .int) :: ((wsX7_countSayings_r1 ++ (wsX7_countSayings_r2 ++ wsX7_countSayings_r3)) ++ wsX70 ++ wsX00 ++ wsX20 ++ wsX40 ++ wsX50 ++ wsX60 ++ wsX10)
def wsX7_worstLeft : List Cond := .code yX7_worstLeft cX7_worstLeft 4 (some .int) :: ([.fieldLink RX7 36 "EachEye" "sayings" "[I", .methodLink RX7 248 Lib.Math.max.name, .static Lib.Math.max.name, .initialized "java/lang/Math", .code Lib.Math.max.name Lib.Math.max.code 2 (some .int)] ++ wsX70)
def wsX7_next_r1 : List Cond := [Cond.fieldLink RX7 148 "EachEye" "questionsDone" "I", Cond.methodLink RX7 158 yX7_countSayings, Cond.instanceMethod yX7_countSayings, Cond.selects RX7 yX7_countSayings yX7_countSayings, Cond.initialized RX7, Cond.code yX7_countSayings cX7_countSayings 5 (some .int), Cond.fieldLink RX7 36 "EachEye" "sayings" "[I", Cond.fieldLink RX7 29 "EachEye" "cards" "LEachEye$Cards;", Cond.methodLink RX7 151 yX7_candidate, Cond.instanceMethod yX7_candidate, Cond.selects RX7 yX7_candidate yX7_candidate, Cond.code yX7_candidate cX7_candidate 2 (some (.object "EachEye$Person")), Cond.methodLink RX7 164 yX7_trial, Cond.instanceMethod yX7_trial, Cond.selects RX7 yX7_trial yX7_trial, Cond.code yX7_trial cX7_trial 5 (some (.object "EachEye$Person")), Cond.fieldLink RX7 33 "EachEye" "trials" "[LEachEye$Person;", Cond.fieldLink RX7 107 "EachEye$Person" "left" "I", Cond.fieldLink RX7 110 "EachEye$Person" "right" "I", Cond.methodLink RX7 154 yX1_fit, Cond.instanceMethod yX1_fit, Cond.selects RX1 yX1_fit yX1_fit, Cond.initialized RX1, Cond.code yX1_fit cX1_fit 3 (some .boolean)]
def wsX7_next_r2 : List Cond := [Cond.fieldLink RX1 24 "EachEye$Cards" "size" "I", Cond.fieldLink RX1 9 "EachEye$Cards" "shown" "[I", Cond.fieldLink RX1 15 "EachEye$Cards" "said" "[I", Cond.methodLink RX1 28 ⟨"EachEye$Person", "glimpse", "(I)I"⟩, Cond.sameMethod "EachEye$Person" "EachEye$Person" "glimpse" "(I)I", Cond.instanceMethod ⟨"EachEye$Person", "glimpse", "(I)I"⟩, Cond.selects RX0 ⟨"EachEye$Person", "glimpse", "(I)I"⟩ yX0_glimpse, Cond.instanceMethod yX0_glimpse, Cond.initialized RX0, Cond.code yX0_glimpse cX0_glimpse 2 (some .int), Cond.fieldLink RX0 9 "EachEye$Arguer" "left" "I", Cond.sameField "EachEye$Arguer" "EachEye$Person" "left" "I", Cond.fieldLink RX0 15 "EachEye$Arguer" "right" "I", Cond.sameField "EachEye$Arguer" "EachEye$Person" "right" "I", Cond.code yX4_glimpse cX4_glimpse 2 (some .int), Cond.selects RX2 ⟨"EachEye$Person", "glimpse", "(I)I"⟩ yX2_glimpse, Cond.instanceMethod yX2_glimpse, Cond.initialized RX2, Cond.code yX2_glimpse cX2_glimpse 2 (some .int), Cond.fieldLink RX2 9 "EachEye$Old" "left" "I", Cond.sameField "EachEye$Old" "EachEye$Person" "left" "I", Cond.fieldLink RX2 15 "EachEye$Old" "right" "I", Cond.sameField "EachEye$Old" "EachEye$Person" "right" "I", Cond.methodLink RX1 28 yX4_glimpse]
def wsX7_next_r3 : List Cond := [Cond.instanceMethod yX4_glimpse, Cond.selects RX4 yX4_glimpse yX4_glimpse, Cond.initialized RX4, Cond.fieldLink RX4 18 "EachEye$Person" "left" "I", Cond.fieldLink RX4 21 "EachEye$Person" "right" "I", Cond.selects RX5 ⟨"EachEye$Person", "glimpse", "(I)I"⟩ yX5_glimpse, Cond.instanceMethod yX5_glimpse, Cond.initialized RX5, Cond.code yX5_glimpse cX5_glimpse 2 (some .int), Cond.fieldLink RX5 9 "EachEye$Spy" "right" "I", Cond.sameField "EachEye$Spy" "EachEye$Person" "right" "I", Cond.selects RX6 ⟨"EachEye$Person", "glimpse", "(I)I"⟩ yX6_glimpse, Cond.instanceMethod yX6_glimpse, Cond.initialized RX6, Cond.code yX6_glimpse cX6_glimpse 3 (some .int), Cond.fieldLink RX6 9 "EachEye$Winker" "left" "I", Cond.sameField "EachEye$Winker" "EachEye$Person" "left" "I", Cond.fieldLink RX6 15 "EachEye$Winker" "right" "I", Cond.sameField "EachEye$Winker" "EachEye$Person" "right" "I", Cond.methodLink RX7 116 ⟨"EachEye$Person", "glimpse", "(I)I"⟩, Cond.methodLink RX7 116 yX4_glimpse, Cond.methodLink RX7 161 yX7_worstLeft, Cond.instanceMethod yX7_worstLeft, Cond.selects RX7 yX7_worstLeft yX7_worstLeft]
def wsX7_next_r4 : List Cond := [Cond.code yX7_worstLeft cX7_worstLeft 4 (some .int), Cond.methodLink RX7 248 Lib.Math.max.name, Cond.static Lib.Math.max.name, Cond.initialized "java/lang/Math", Cond.code Lib.Math.max.name Lib.Math.max.code 2 (some .int)]
def wsX7_next : List Cond := .code yX7_next cX7_next 5 (some .int) :: ((wsX7_next_r1 ++ (wsX7_next_r2 ++ (wsX7_next_r3 ++ wsX7_next_r4))) ++ wsX70 ++ wsX00 ++ wsX20 ++ wsX40 ++ wsX50 ++ wsX60 ++ wsX10)
def wsX7_nextSeed : List Cond := .code yX7_nextSeed cX7_nextSeed 1 (some .int) :: ([.constantLong RX7 253 (1103515245), .constantLong RX7 255 (12345), .constantLong RX7 257 (2147483647)])
def wsX7_drawn : List Cond := .code yX7_drawn cX7_drawn 2 (some .int) :: ([])
def wsX7_ageing_r1 : List Cond := [Cond.fieldLink RX7 107 "EachEye$Person" "left" "I", Cond.fieldLink RX7 110 "EachEye$Person" "right" "I", Cond.fieldLink RX7 39 "EachEye" "theSign" "I", Cond.methodLink RX7 113 yX7_known, Cond.instanceMethod yX7_known, Cond.selects RX7 yX7_known yX7_known, Cond.initialized RX7, Cond.code yX7_known cX7_known 2 (some (.object "EachEye$Person")), Cond.fieldLink RX7 67 "EachEye" "peopleCount" "I", Cond.fieldLink RX7 18 "EachEye" "people" "[LEachEye$Person;", Cond.methodLink RX7 123 ⟨"EachEye$Person", "kind", "()I"⟩, Cond.sameMethod "EachEye$Person" "EachEye$Person" "kind" "()I", Cond.instanceMethod ⟨"EachEye$Person", "kind", "()I"⟩, Cond.selects RX0 ⟨"EachEye$Person", "kind", "()I"⟩ yX0_kind, Cond.instanceMethod yX0_kind, Cond.initialized RX0, Cond.code yX0_kind cX0_kind 1 (some .int), Cond.code yX4_kind cX4_kind 1 (some .int), Cond.selects RX2 ⟨"EachEye$Person", "kind", "()I"⟩ yX2_kind, Cond.instanceMethod yX2_kind, Cond.initialized RX2, Cond.code yX2_kind cX2_kind 1 (some .int), Cond.methodLink RX7 123 yX4_kind, Cond.instanceMethod yX4_kind]
def wsX7_ageing_r2 : List Cond := [Cond.selects RX4 yX4_kind yX4_kind, Cond.initialized RX4, Cond.selects RX5 ⟨"EachEye$Person", "kind", "()I"⟩ yX5_kind, Cond.instanceMethod yX5_kind, Cond.initialized RX5, Cond.code yX5_kind cX5_kind 1 (some .int), Cond.selects RX6 ⟨"EachEye$Person", "kind", "()I"⟩ yX6_kind, Cond.instanceMethod yX6_kind, Cond.initialized RX6, Cond.code yX6_kind cX6_kind 1 (some .int), Cond.methodLink RX7 164 yX7_trial, Cond.instanceMethod yX7_trial, Cond.selects RX7 yX7_trial yX7_trial, Cond.code yX7_trial cX7_trial 5 (some (.object "EachEye$Person")), Cond.fieldLink RX7 33 "EachEye" "trials" "[LEachEye$Person;", Cond.methodLink RX7 168 ⟨"EachEye$Person", "reading", "(I)I"⟩, Cond.sameMethod "EachEye$Person" "EachEye$Person" "reading" "(I)I", Cond.selects RX0 ⟨"EachEye$Person", "reading", "(I)I"⟩ yX4_reading, Cond.instanceMethod yX4_reading, Cond.code yX4_reading cX4_reading 4 (some .int), Cond.static yX7_hueAt, Cond.code yX7_hueAt cX7_hueAt 2 (some .int), Cond.methodLink RX4 28 ⟨"EachEye$Person", "glimpse", "(I)I"⟩, Cond.sameMethod "EachEye$Person" "EachEye$Person" "glimpse" "(I)I"]
def wsX7_ageing_r3 : List Cond := [Cond.instanceMethod ⟨"EachEye$Person", "glimpse", "(I)I"⟩, Cond.selects RX0 ⟨"EachEye$Person", "glimpse", "(I)I"⟩ yX0_glimpse, Cond.instanceMethod yX0_glimpse, Cond.code yX0_glimpse cX0_glimpse 2 (some .int), Cond.fieldLink RX0 9 "EachEye$Arguer" "left" "I", Cond.sameField "EachEye$Arguer" "EachEye$Person" "left" "I", Cond.fieldLink RX0 15 "EachEye$Arguer" "right" "I", Cond.sameField "EachEye$Arguer" "EachEye$Person" "right" "I", Cond.code yX4_glimpse cX4_glimpse 2 (some .int), Cond.selects RX2 ⟨"EachEye$Person", "glimpse", "(I)I"⟩ yX2_glimpse, Cond.instanceMethod yX2_glimpse, Cond.code yX2_glimpse cX2_glimpse 2 (some .int), Cond.fieldLink RX2 9 "EachEye$Old" "left" "I", Cond.sameField "EachEye$Old" "EachEye$Person" "left" "I", Cond.fieldLink RX2 15 "EachEye$Old" "right" "I", Cond.sameField "EachEye$Old" "EachEye$Person" "right" "I", Cond.methodLink RX4 28 yX4_glimpse, Cond.instanceMethod yX4_glimpse, Cond.selects RX4 yX4_glimpse yX4_glimpse, Cond.fieldLink RX4 18 "EachEye$Person" "left" "I", Cond.fieldLink RX4 21 "EachEye$Person" "right" "I", Cond.selects RX5 ⟨"EachEye$Person", "glimpse", "(I)I"⟩ yX5_glimpse, Cond.instanceMethod yX5_glimpse, Cond.code yX5_glimpse cX5_glimpse 2 (some .int)]
def wsX7_ageing_r4 : List Cond := [Cond.fieldLink RX5 9 "EachEye$Spy" "right" "I", Cond.sameField "EachEye$Spy" "EachEye$Person" "right" "I", Cond.selects RX6 ⟨"EachEye$Person", "glimpse", "(I)I"⟩ yX6_glimpse, Cond.instanceMethod yX6_glimpse, Cond.code yX6_glimpse cX6_glimpse 3 (some .int), Cond.fieldLink RX6 9 "EachEye$Winker" "left" "I", Cond.sameField "EachEye$Winker" "EachEye$Person" "left" "I", Cond.fieldLink RX6 15 "EachEye$Winker" "right" "I", Cond.sameField "EachEye$Winker" "EachEye$Person" "right" "I", Cond.static yX7_withHue, Cond.code yX7_withHue cX7_withHue 4 (some .int), Cond.selects RX2 ⟨"EachEye$Person", "reading", "(I)I"⟩ yX4_reading, Cond.methodLink RX7 168 yX4_reading, Cond.selects RX4 yX4_reading yX4_reading, Cond.selects RX5 ⟨"EachEye$Person", "reading", "(I)I"⟩ yX4_reading, Cond.selects RX6 ⟨"EachEye$Person", "reading", "(I)I"⟩ yX4_reading, Cond.methodLink RX7 171 yX7_nextSeed, Cond.static yX7_nextSeed, Cond.code yX7_nextSeed cX7_nextSeed 1 (some .int), Cond.constantLong RX7 253 (1103515245), Cond.constantLong RX7 255 (12345), Cond.constantLong RX7 257 (2147483647), Cond.methodLink RX7 174 yX7_drawn, Cond.static yX7_drawn]
def wsX7_ageing_r5 : List Cond := [Cond.code yX7_drawn cX7_drawn 2 (some .int), Cond.methodLink RX7 177 ⟨"EachEye$Person", "lose", "(II)V"⟩, Cond.sameMethod "EachEye$Person" "EachEye$Person" "lose" "(II)V", Cond.selects RX0 ⟨"EachEye$Person", "lose", "(II)V"⟩ yX4_lose, Cond.instanceMethod yX4_lose, Cond.code yX4_lose cX4_lose 3 none, Cond.selects RX2 ⟨"EachEye$Person", "lose", "(II)V"⟩ yX4_lose, Cond.methodLink RX7 177 yX4_lose, Cond.selects RX4 yX4_lose yX4_lose, Cond.selects RX5 ⟨"EachEye$Person", "lose", "(II)V"⟩ yX4_lose, Cond.selects RX6 ⟨"EachEye$Person", "lose", "(II)V"⟩ yX4_lose, Cond.methodLink RX7 139 yJ6_bitCount_0f7a4, Cond.static yJ6_bitCount_0f7a4, Cond.initialized RJ6, Cond.code yJ6_bitCount_0f7a4 cJ6_bitCount_0f7a4 1 (some .int), Cond.constant RJ6 265 (1431655765), Cond.constant RJ6 266 (858993459), Cond.constant RJ6 267 (252645135)]
def wsX7_ageing : List Cond := .code yX7_ageing cX7_ageing 12 (some .int) :: ((wsX7_ageing_r1 ++ (wsX7_ageing_r2 ++ (wsX7_ageing_r3 ++ (wsX7_ageing_r4 ++ wsX7_ageing_r5)))) ++ wsX00 ++ wsX20 ++ wsX40 ++ wsX50 ++ wsX60 ++ wsX70)
def wsX7_image_r1 : List Cond := [Cond.fieldLink RX7 39 "EachEye" "theSign" "I", Cond.fieldLink RX7 43 "EachEye" "keptSign" "I", Cond.fieldLink RX7 67 "EachEye" "peopleCount" "I", Cond.fieldLink RX7 180 "EachEye" "keptPeople" "I", Cond.fieldLink RX7 70 "EachEye" "inkCount" "I", Cond.fieldLink RX7 183 "EachEye" "keptInks" "I", Cond.fieldLink RX7 73 "EachEye" "layersDone" "I", Cond.fieldLink RX7 186 "EachEye" "keptLayers" "I", Cond.fieldLink RX7 29 "EachEye" "cards" "LEachEye$Cards;", Cond.methodLink RX7 113 yX7_known, Cond.instanceMethod yX7_known, Cond.selects RX7 yX7_known yX7_known, Cond.initialized RX7, Cond.code yX7_known cX7_known 2 (some (.object "EachEye$Person")), Cond.fieldLink RX7 18 "EachEye" "people" "[LEachEye$Person;", Cond.methodLink RX7 189 ⟨"EachEye$Person", "keep", "()V"⟩, Cond.sameMethod "EachEye$Person" "EachEye$Person" "keep" "()V", Cond.selects RX0 ⟨"EachEye$Person", "keep", "()V"⟩ yX4_keep, Cond.instanceMethod yX4_keep, Cond.initialized RX4, Cond.code yX4_keep cX4_keep 1 none, Cond.fieldLink RX4 18 "EachEye$Person" "left" "I", Cond.fieldLink RX4 36 "EachEye$Person" "keptLeft" "I", Cond.fieldLink RX4 21 "EachEye$Person" "right" "I"]
def wsX7_image_r2 : List Cond := [Cond.fieldLink RX4 39 "EachEye$Person" "keptRight" "I", Cond.fieldLink RX4 9 "EachEye$Person" "told" "I", Cond.fieldLink RX4 15 "EachEye$Person" "keptTold" "I", Cond.selects RX2 ⟨"EachEye$Person", "keep", "()V"⟩ yX4_keep, Cond.methodLink RX7 189 yX4_keep, Cond.selects RX4 yX4_keep yX4_keep, Cond.selects RX5 ⟨"EachEye$Person", "keep", "()V"⟩ yX4_keep, Cond.selects RX6 ⟨"EachEye$Person", "keep", "()V"⟩ yX4_keep, Cond.methodLink RX7 192 yX1_keep, Cond.instanceMethod yX1_keep, Cond.selects RX1 yX1_keep yX1_keep, Cond.initialized RX1, Cond.code yX1_keep cX1_keep 1 none, Cond.fieldLink RX1 9 "EachEye$Cards" "shown" "[I", Cond.fieldLink RX1 18 "EachEye$Cards" "keptShown" "[I", Cond.methodLink RX1 34 arraycopyName, Cond.native arraycopyName, Cond.static arraycopyName, Cond.initialized "java/lang/System", Cond.fieldLink RX1 15 "EachEye$Cards" "said" "[I", Cond.fieldLink RX1 21 "EachEye$Cards" "keptSaid" "[I", Cond.fieldLink RX1 24 "EachEye$Cards" "size" "I", Cond.fieldLink RX1 40 "EachEye$Cards" "keptSize" "I"]
def wsX7_image : List Cond := .code yX7_image cX7_image 3 (some .int) :: ((wsX7_image_r1 ++ wsX7_image_r2) ++ wsX70 ++ wsX00 ++ wsX20 ++ wsX40 ++ wsX50 ++ wsX60 ++ wsX10)
def wsX7_restore_r1 : List Cond := [Cond.fieldLink RX7 43 "EachEye" "keptSign" "I", Cond.fieldLink RX7 39 "EachEye" "theSign" "I", Cond.fieldLink RX7 180 "EachEye" "keptPeople" "I", Cond.fieldLink RX7 67 "EachEye" "peopleCount" "I", Cond.fieldLink RX7 183 "EachEye" "keptInks" "I", Cond.fieldLink RX7 70 "EachEye" "inkCount" "I", Cond.fieldLink RX7 186 "EachEye" "keptLayers" "I", Cond.fieldLink RX7 73 "EachEye" "layersDone" "I", Cond.fieldLink RX7 29 "EachEye" "cards" "LEachEye$Cards;", Cond.methodLink RX7 113 yX7_known, Cond.instanceMethod yX7_known, Cond.selects RX7 yX7_known yX7_known, Cond.initialized RX7, Cond.code yX7_known cX7_known 2 (some (.object "EachEye$Person")), Cond.fieldLink RX7 18 "EachEye" "people" "[LEachEye$Person;", Cond.methodLink RX7 193 ⟨"EachEye$Person", "goBack", "()V"⟩, Cond.sameMethod "EachEye$Person" "EachEye$Person" "goBack" "()V", Cond.selects RX0 ⟨"EachEye$Person", "goBack", "()V"⟩ yX4_goBack, Cond.instanceMethod yX4_goBack, Cond.initialized RX4, Cond.code yX4_goBack cX4_goBack 1 none, Cond.fieldLink RX4 36 "EachEye$Person" "keptLeft" "I", Cond.fieldLink RX4 18 "EachEye$Person" "left" "I", Cond.fieldLink RX4 39 "EachEye$Person" "keptRight" "I"]
def wsX7_restore_r2 : List Cond := [Cond.fieldLink RX4 21 "EachEye$Person" "right" "I", Cond.fieldLink RX4 15 "EachEye$Person" "keptTold" "I", Cond.fieldLink RX4 9 "EachEye$Person" "told" "I", Cond.selects RX2 ⟨"EachEye$Person", "goBack", "()V"⟩ yX4_goBack, Cond.methodLink RX7 193 yX4_goBack, Cond.selects RX4 yX4_goBack yX4_goBack, Cond.selects RX5 ⟨"EachEye$Person", "goBack", "()V"⟩ yX4_goBack, Cond.selects RX6 ⟨"EachEye$Person", "goBack", "()V"⟩ yX4_goBack, Cond.methodLink RX7 196 yX1_goBack, Cond.instanceMethod yX1_goBack, Cond.selects RX1 yX1_goBack yX1_goBack, Cond.initialized RX1, Cond.code yX1_goBack cX1_goBack 1 none, Cond.fieldLink RX1 18 "EachEye$Cards" "keptShown" "[I", Cond.fieldLink RX1 9 "EachEye$Cards" "shown" "[I", Cond.methodLink RX1 34 arraycopyName, Cond.native arraycopyName, Cond.static arraycopyName, Cond.initialized "java/lang/System", Cond.fieldLink RX1 21 "EachEye$Cards" "keptSaid" "[I", Cond.fieldLink RX1 15 "EachEye$Cards" "said" "[I", Cond.fieldLink RX1 40 "EachEye$Cards" "keptSize" "I", Cond.fieldLink RX1 24 "EachEye$Cards" "size" "I"]
def wsX7_restore : List Cond := .code yX7_restore cX7_restore 3 (some .int) :: ((wsX7_restore_r1 ++ wsX7_restore_r2) ++ wsX70 ++ wsX00 ++ wsX20 ++ wsX40 ++ wsX50 ++ wsX60 ++ wsX10)
def wsX7_count_r1 : List Cond := [Cond.fieldLink RX7 67 "EachEye" "peopleCount" "I", Cond.fieldLink RX7 70 "EachEye" "inkCount" "I", Cond.fieldLink RX7 73 "EachEye" "layersDone" "I", Cond.fieldLink RX7 29 "EachEye" "cards" "LEachEye$Cards;", Cond.fieldLink RX7 12 "EachEye" "page" "LEachEye$Page;", Cond.fieldLink RX7 79 "EachEye" "signsRead" "I", Cond.fieldLink RX7 148 "EachEye" "questionsDone" "I", Cond.methodLink RX7 82 yX7_colouredCells, Cond.instanceMethod yX7_colouredCells, Cond.selects RX7 yX7_colouredCells yX7_colouredCells, Cond.initialized RX7, Cond.code yX7_colouredCells cX7_colouredCells 3 (some .int), Cond.fieldLink RX7 39 "EachEye" "theSign" "I", Cond.methodLink RX7 85 yX7_hueAt, Cond.static yX7_hueAt, Cond.code yX7_hueAt cX7_hueAt 2 (some .int), Cond.methodLink RX7 133 yX7_toldPeople, Cond.instanceMethod yX7_toldPeople, Cond.selects RX7 yX7_toldPeople yX7_toldPeople, Cond.code yX7_toldPeople cX7_toldPeople 4 (some .int), Cond.fieldLink RX7 120 "EachEye$Person" "told" "I", Cond.methodLink RX7 113 yX7_known, Cond.instanceMethod yX7_known, Cond.selects RX7 yX7_known yX7_known]
def wsX7_count_r2 : List Cond := [Cond.code yX7_known cX7_known 2 (some (.object "EachEye$Person")), Cond.fieldLink RX7 18 "EachEye" "people" "[LEachEye$Person;"]
def wsX7_count : List Cond := .code yX7_count cX7_count 2 (some .int) :: ((wsX7_count_r1 ++ wsX7_count_r2) ++ wsX70 ++ wsX10 ++ wsX30 ++ wsX00 ++ wsX20 ++ wsX40 ++ wsX50 ++ wsX60)
def wsX7_withPerson_r1 : List Cond := [Cond.constantLong RX7 199 (31), Cond.fieldLink RX7 67 "EachEye" "peopleCount" "I", Cond.methodLink RX7 214 yX7_about, Cond.instanceMethod yX7_about, Cond.selects RX7 yX7_about yX7_about, Cond.initialized RX7, Cond.code yX7_about cX7_about 4 (some .int), Cond.fieldLink RX7 39 "EachEye" "theSign" "I", Cond.fieldLink RX7 120 "EachEye$Person" "told" "I", Cond.fieldLink RX7 107 "EachEye$Person" "left" "I", Cond.fieldLink RX7 110 "EachEye$Person" "right" "I", Cond.methodLink RX7 113 yX7_known, Cond.instanceMethod yX7_known, Cond.selects RX7 yX7_known yX7_known, Cond.code yX7_known cX7_known 2 (some (.object "EachEye$Person")), Cond.fieldLink RX7 18 "EachEye" "people" "[LEachEye$Person;", Cond.methodLink RX7 85 yX7_hueAt, Cond.static yX7_hueAt, Cond.code yX7_hueAt cX7_hueAt 2 (some .int), Cond.methodLink RX7 116 ⟨"EachEye$Person", "glimpse", "(I)I"⟩, Cond.sameMethod "EachEye$Person" "EachEye$Person" "glimpse" "(I)I", Cond.instanceMethod ⟨"EachEye$Person", "glimpse", "(I)I"⟩, Cond.selects RX0 ⟨"EachEye$Person", "glimpse", "(I)I"⟩ yX0_glimpse, Cond.instanceMethod yX0_glimpse]
def wsX7_withPerson_r2 : List Cond := [Cond.initialized RX0, Cond.code yX0_glimpse cX0_glimpse 2 (some .int), Cond.fieldLink RX0 9 "EachEye$Arguer" "left" "I", Cond.sameField "EachEye$Arguer" "EachEye$Person" "left" "I", Cond.fieldLink RX0 15 "EachEye$Arguer" "right" "I", Cond.sameField "EachEye$Arguer" "EachEye$Person" "right" "I", Cond.code yX4_glimpse cX4_glimpse 2 (some .int), Cond.selects RX2 ⟨"EachEye$Person", "glimpse", "(I)I"⟩ yX2_glimpse, Cond.instanceMethod yX2_glimpse, Cond.initialized RX2, Cond.code yX2_glimpse cX2_glimpse 2 (some .int), Cond.fieldLink RX2 9 "EachEye$Old" "left" "I", Cond.sameField "EachEye$Old" "EachEye$Person" "left" "I", Cond.fieldLink RX2 15 "EachEye$Old" "right" "I", Cond.sameField "EachEye$Old" "EachEye$Person" "right" "I", Cond.methodLink RX7 116 yX4_glimpse, Cond.instanceMethod yX4_glimpse, Cond.selects RX4 yX4_glimpse yX4_glimpse, Cond.initialized RX4, Cond.fieldLink RX4 18 "EachEye$Person" "left" "I", Cond.fieldLink RX4 21 "EachEye$Person" "right" "I", Cond.selects RX5 ⟨"EachEye$Person", "glimpse", "(I)I"⟩ yX5_glimpse, Cond.instanceMethod yX5_glimpse, Cond.initialized RX5]
def wsX7_withPerson_r3 : List Cond := [Cond.code yX5_glimpse cX5_glimpse 2 (some .int), Cond.fieldLink RX5 9 "EachEye$Spy" "right" "I", Cond.sameField "EachEye$Spy" "EachEye$Person" "right" "I", Cond.selects RX6 ⟨"EachEye$Person", "glimpse", "(I)I"⟩ yX6_glimpse, Cond.instanceMethod yX6_glimpse, Cond.initialized RX6, Cond.code yX6_glimpse cX6_glimpse 3 (some .int), Cond.fieldLink RX6 9 "EachEye$Winker" "left" "I", Cond.sameField "EachEye$Winker" "EachEye$Person" "left" "I", Cond.fieldLink RX6 15 "EachEye$Winker" "right" "I", Cond.sameField "EachEye$Winker" "EachEye$Person" "right" "I", Cond.methodLink RX7 123 ⟨"EachEye$Person", "kind", "()I"⟩, Cond.sameMethod "EachEye$Person" "EachEye$Person" "kind" "()I", Cond.instanceMethod ⟨"EachEye$Person", "kind", "()I"⟩, Cond.selects RX0 ⟨"EachEye$Person", "kind", "()I"⟩ yX0_kind, Cond.instanceMethod yX0_kind, Cond.code yX0_kind cX0_kind 1 (some .int), Cond.code yX4_kind cX4_kind 1 (some .int), Cond.selects RX2 ⟨"EachEye$Person", "kind", "()I"⟩ yX2_kind, Cond.instanceMethod yX2_kind, Cond.code yX2_kind cX2_kind 1 (some .int), Cond.methodLink RX7 123 yX4_kind, Cond.instanceMethod yX4_kind, Cond.selects RX4 yX4_kind yX4_kind]
def wsX7_withPerson_r4 : List Cond := [Cond.selects RX5 ⟨"EachEye$Person", "kind", "()I"⟩ yX5_kind, Cond.instanceMethod yX5_kind, Cond.code yX5_kind cX5_kind 1 (some .int), Cond.selects RX6 ⟨"EachEye$Person", "kind", "()I"⟩ yX6_kind, Cond.instanceMethod yX6_kind, Cond.code yX6_kind cX6_kind 1 (some .int), Cond.methodLink RX7 126 ⟨"EachEye$Person", "truths", "()I"⟩, Cond.sameMethod "EachEye$Person" "EachEye$Person" "truths" "()I", Cond.selects RX0 ⟨"EachEye$Person", "truths", "()I"⟩ yX4_truths, Cond.instanceMethod yX4_truths, Cond.code yX4_truths cX4_truths 3 (some .int), Cond.methodLink RX4 28 ⟨"EachEye$Person", "glimpse", "(I)I"⟩, Cond.methodLink RX4 28 yX4_glimpse, Cond.selects RX2 ⟨"EachEye$Person", "truths", "()I"⟩ yX4_truths, Cond.methodLink RX7 126 yX4_truths, Cond.selects RX4 yX4_truths yX4_truths, Cond.selects RX5 ⟨"EachEye$Person", "truths", "()I"⟩ yX4_truths, Cond.selects RX6 ⟨"EachEye$Person", "truths", "()I"⟩ yX4_truths, Cond.methodLink RX7 217 yX7_differ, Cond.instanceMethod yX7_differ, Cond.selects RX7 yX7_differ yX7_differ, Cond.code yX7_differ cX7_differ 7 (some .int), Cond.methodLink RX7 220 yX7_alike, Cond.instanceMethod yX7_alike]
def wsX7_withPerson_r5 : List Cond := [Cond.selects RX7 yX7_alike yX7_alike, Cond.code yX7_alike cX7_alike 7 (some .int)]
def wsX7_withPerson : List Cond := .code yX7_withPerson cX7_withPerson 7 (some .long) :: ((wsX7_withPerson_r1 ++ (wsX7_withPerson_r2 ++ (wsX7_withPerson_r3 ++ (wsX7_withPerson_r4 ++ wsX7_withPerson_r5)))) ++ wsX70 ++ wsX00 ++ wsX20 ++ wsX40 ++ wsX50 ++ wsX60)
def wsX7_digest_r1 : List Cond := [Cond.constantLong RX7 197 (853), Cond.fieldLink RX7 39 "EachEye" "theSign" "I", Cond.constantLong RX7 199 (31), Cond.fieldLink RX7 67 "EachEye" "peopleCount" "I", Cond.fieldLink RX7 70 "EachEye" "inkCount" "I", Cond.fieldLink RX7 22 "EachEye" "inks" "[I", Cond.fieldLink RX7 12 "EachEye" "page" "LEachEye$Page;", Cond.methodLink RX7 85 yX7_hueAt, Cond.static yX7_hueAt, Cond.initialized RX7, Cond.code yX7_hueAt cX7_hueAt 2 (some .int), Cond.methodLink RX7 201 yX7_few, Cond.instanceMethod yX7_few, Cond.selects RX7 yX7_few yX7_few, Cond.code yX7_few cX7_few 3 (some .int), Cond.methodLink RX7 136 yX7_fewestInks, Cond.instanceMethod yX7_fewestInks, Cond.selects RX7 yX7_fewestInks yX7_fewestInks, Cond.code yX7_fewestInks cX7_fewestInks 3 (some .int), Cond.methodLink RX7 139 yJ6_bitCount_0f7a4, Cond.static yJ6_bitCount_0f7a4, Cond.initialized RJ6, Cond.code yJ6_bitCount_0f7a4 cJ6_bitCount_0f7a4 1 (some .int), Cond.constant RJ6 265 (1431655765)]
def wsX7_digest_r2 : List Cond := [Cond.constant RJ6 266 (858993459), Cond.constant RJ6 267 (252645135), Cond.methodLink RX7 236 yX7_suffices, Cond.instanceMethod yX7_suffices, Cond.selects RX7 yX7_suffices yX7_suffices, Cond.code yX7_suffices cX7_suffices 3 (some .boolean), Cond.methodLink RX7 239 yX7_sufficesAt, Cond.instanceMethod yX7_sufficesAt, Cond.selects RX7 yX7_sufficesAt yX7_sufficesAt, Cond.code yX7_sufficesAt cX7_sufficesAt 4 (some .boolean), Cond.methodLink RX7 242 yX7_unionOf, Cond.instanceMethod yX7_unionOf, Cond.selects RX7 yX7_unionOf yX7_unionOf, Cond.code yX7_unionOf cX7_unionOf 4 (some .int), Cond.methodLink RX7 93 yX7_holds, Cond.static yX7_holds, Cond.code yX7_holds cX7_holds 2 (some .boolean), Cond.methodLink RX7 245 yX7_isAsTold, Cond.instanceMethod yX7_isAsTold, Cond.selects RX7 yX7_isAsTold yX7_isAsTold, Cond.code yX7_isAsTold cX7_isAsTold 5 (some .boolean), Cond.fieldLink RX7 120 "EachEye$Person" "told" "I", Cond.methodLink RX7 113 yX7_known, Cond.instanceMethod yX7_known]
def wsX7_digest_r3 : List Cond := [Cond.selects RX7 yX7_known yX7_known, Cond.code yX7_known cX7_known 2 (some (.object "EachEye$Person")), Cond.fieldLink RX7 18 "EachEye" "people" "[LEachEye$Person;", Cond.methodLink RX7 116 ⟨"EachEye$Person", "glimpse", "(I)I"⟩, Cond.sameMethod "EachEye$Person" "EachEye$Person" "glimpse" "(I)I", Cond.instanceMethod ⟨"EachEye$Person", "glimpse", "(I)I"⟩, Cond.selects RX0 ⟨"EachEye$Person", "glimpse", "(I)I"⟩ yX0_glimpse, Cond.instanceMethod yX0_glimpse, Cond.initialized RX0, Cond.code yX0_glimpse cX0_glimpse 2 (some .int), Cond.fieldLink RX0 9 "EachEye$Arguer" "left" "I", Cond.sameField "EachEye$Arguer" "EachEye$Person" "left" "I", Cond.fieldLink RX0 15 "EachEye$Arguer" "right" "I", Cond.sameField "EachEye$Arguer" "EachEye$Person" "right" "I", Cond.code yX4_glimpse cX4_glimpse 2 (some .int), Cond.selects RX2 ⟨"EachEye$Person", "glimpse", "(I)I"⟩ yX2_glimpse, Cond.instanceMethod yX2_glimpse, Cond.initialized RX2, Cond.code yX2_glimpse cX2_glimpse 2 (some .int), Cond.fieldLink RX2 9 "EachEye$Old" "left" "I", Cond.sameField "EachEye$Old" "EachEye$Person" "left" "I", Cond.fieldLink RX2 15 "EachEye$Old" "right" "I", Cond.sameField "EachEye$Old" "EachEye$Person" "right" "I", Cond.methodLink RX7 116 yX4_glimpse]
def wsX7_digest_r4 : List Cond := [Cond.instanceMethod yX4_glimpse, Cond.selects RX4 yX4_glimpse yX4_glimpse, Cond.initialized RX4, Cond.fieldLink RX4 18 "EachEye$Person" "left" "I", Cond.fieldLink RX4 21 "EachEye$Person" "right" "I", Cond.selects RX5 ⟨"EachEye$Person", "glimpse", "(I)I"⟩ yX5_glimpse, Cond.instanceMethod yX5_glimpse, Cond.initialized RX5, Cond.code yX5_glimpse cX5_glimpse 2 (some .int), Cond.fieldLink RX5 9 "EachEye$Spy" "right" "I", Cond.sameField "EachEye$Spy" "EachEye$Person" "right" "I", Cond.selects RX6 ⟨"EachEye$Person", "glimpse", "(I)I"⟩ yX6_glimpse, Cond.instanceMethod yX6_glimpse, Cond.initialized RX6, Cond.code yX6_glimpse cX6_glimpse 3 (some .int), Cond.fieldLink RX6 9 "EachEye$Winker" "left" "I", Cond.sameField "EachEye$Winker" "EachEye$Person" "left" "I", Cond.fieldLink RX6 15 "EachEye$Winker" "right" "I", Cond.sameField "EachEye$Winker" "EachEye$Person" "right" "I", Cond.methodLink RX7 204 yX7_withPerson, Cond.instanceMethod yX7_withPerson, Cond.selects RX7 yX7_withPerson yX7_withPerson, Cond.code yX7_withPerson cX7_withPerson 7 (some .long), Cond.methodLink RX7 214 yX7_about]
def wsX7_digest_r5 : List Cond := [Cond.instanceMethod yX7_about, Cond.selects RX7 yX7_about yX7_about, Cond.code yX7_about cX7_about 4 (some .int), Cond.fieldLink RX7 107 "EachEye$Person" "left" "I", Cond.fieldLink RX7 110 "EachEye$Person" "right" "I", Cond.methodLink RX7 123 ⟨"EachEye$Person", "kind", "()I"⟩, Cond.sameMethod "EachEye$Person" "EachEye$Person" "kind" "()I", Cond.instanceMethod ⟨"EachEye$Person", "kind", "()I"⟩, Cond.selects RX0 ⟨"EachEye$Person", "kind", "()I"⟩ yX0_kind, Cond.instanceMethod yX0_kind, Cond.code yX0_kind cX0_kind 1 (some .int), Cond.code yX4_kind cX4_kind 1 (some .int), Cond.selects RX2 ⟨"EachEye$Person", "kind", "()I"⟩ yX2_kind, Cond.instanceMethod yX2_kind, Cond.code yX2_kind cX2_kind 1 (some .int), Cond.methodLink RX7 123 yX4_kind, Cond.instanceMethod yX4_kind, Cond.selects RX4 yX4_kind yX4_kind, Cond.selects RX5 ⟨"EachEye$Person", "kind", "()I"⟩ yX5_kind, Cond.instanceMethod yX5_kind, Cond.code yX5_kind cX5_kind 1 (some .int), Cond.selects RX6 ⟨"EachEye$Person", "kind", "()I"⟩ yX6_kind, Cond.instanceMethod yX6_kind, Cond.code yX6_kind cX6_kind 1 (some .int)]
def wsX7_digest_r6 : List Cond := [Cond.methodLink RX7 126 ⟨"EachEye$Person", "truths", "()I"⟩, Cond.sameMethod "EachEye$Person" "EachEye$Person" "truths" "()I", Cond.selects RX0 ⟨"EachEye$Person", "truths", "()I"⟩ yX4_truths, Cond.instanceMethod yX4_truths, Cond.code yX4_truths cX4_truths 3 (some .int), Cond.methodLink RX4 28 ⟨"EachEye$Person", "glimpse", "(I)I"⟩, Cond.methodLink RX4 28 yX4_glimpse, Cond.selects RX2 ⟨"EachEye$Person", "truths", "()I"⟩ yX4_truths, Cond.methodLink RX7 126 yX4_truths, Cond.selects RX4 yX4_truths yX4_truths, Cond.selects RX5 ⟨"EachEye$Person", "truths", "()I"⟩ yX4_truths, Cond.selects RX6 ⟨"EachEye$Person", "truths", "()I"⟩ yX4_truths, Cond.methodLink RX7 217 yX7_differ, Cond.instanceMethod yX7_differ, Cond.selects RX7 yX7_differ yX7_differ, Cond.code yX7_differ cX7_differ 7 (some .int), Cond.methodLink RX7 220 yX7_alike, Cond.instanceMethod yX7_alike, Cond.selects RX7 yX7_alike yX7_alike, Cond.code yX7_alike cX7_alike 7 (some .int), Cond.methodLink RX7 211 yX7_count, Cond.instanceMethod yX7_count, Cond.selects RX7 yX7_count yX7_count, Cond.code yX7_count cX7_count 2 (some .int)]
def wsX7_digest_r7 : List Cond := [Cond.fieldLink RX7 73 "EachEye" "layersDone" "I", Cond.fieldLink RX7 29 "EachEye" "cards" "LEachEye$Cards;", Cond.fieldLink RX7 79 "EachEye" "signsRead" "I", Cond.fieldLink RX7 148 "EachEye" "questionsDone" "I", Cond.methodLink RX7 82 yX7_colouredCells, Cond.instanceMethod yX7_colouredCells, Cond.selects RX7 yX7_colouredCells yX7_colouredCells, Cond.code yX7_colouredCells cX7_colouredCells 3 (some .int), Cond.methodLink RX7 133 yX7_toldPeople, Cond.instanceMethod yX7_toldPeople, Cond.selects RX7 yX7_toldPeople yX7_toldPeople, Cond.code yX7_toldPeople cX7_toldPeople 4 (some .int)]
def wsX7_digest : List Cond := .code yX7_digest cX7_digest 4 (some .long) :: ((wsX7_digest_r1 ++ (wsX7_digest_r2 ++ (wsX7_digest_r3 ++ (wsX7_digest_r4 ++ (wsX7_digest_r5 ++ (wsX7_digest_r6 ++ wsX7_digest_r7)))))) ++ wsX70 ++ wsX30 ++ wsX00 ++ wsX20 ++ wsX40 ++ wsX50 ++ wsX60 ++ wsX10)
def wsX8_init : List Cond := .code yX8_init cX8_init 1 none :: ([.methodLink RX8 1 objectInit, .instanceMethod objectInit, .code objectInit ⟨#[0xb1]⟩ 1 none, .arrayClass .int, .fieldLink RX8 7 "EachEyeModel" "page" "[I", .fieldLink RX8 13 "EachEyeModel" "hues" "[I", .fieldLink RX8 16 "EachEyeModel" "rows" "[I", .fieldLink RX8 19 "EachEyeModel" "inkHues" "[I", .fieldLink RX8 22 "EachEyeModel" "cardRows" "[I", .fieldLink RX8 25 "EachEyeModel" "says" "[I", .fieldLink RX8 28 "EachEyeModel" "keptHues" "[I", .fieldLink RX8 31 "EachEyeModel" "keptRows" "[I", .fieldLink RX8 34 "EachEyeModel" "keptInkHues" "[I", .fieldLink RX8 37 "EachEyeModel" "keptCardRows" "[I", .fieldLink RX8 40 "EachEyeModel" "keptSign" "I"] ++ wsX80)
def wsX8_in : List Cond := .code yX8_in cX8_in 6 (some .boolean) :: ([])
def wsX8_isHue : List Cond := .code yX8_isHue cX8_isHue 1 (some .boolean) :: ([.constantLong RX8 44 (7), .methodLink RX8 46 yX8_in, .static yX8_in, .initialized RX8, .code yX8_in cX8_in 6 (some .boolean)])
def wsX8_letter : List Cond := .code yX8_letter cX8_letter 2 (some .int) :: ([.constantLong RX8 50 (126), .fieldLink RX8 52 "EachEyeModel" "pageMany" "I", .fieldLink RX8 7 "EachEyeModel" "page" "[I", .methodLink RX8 46 yX8_in, .static yX8_in, .initialized RX8, .code yX8_in cX8_in 6 (some .boolean)] ++ wsX80)
def wsX8_blank : List Cond := .code yX8_blank cX8_blank 2 (some .int) :: ([.fieldLink RX8 52 "EachEyeModel" "pageMany" "I"] ++ wsX80)
def wsX8_faultOf : List Cond := .code yX8_faultOf cX8_faultOf 2 (some .int) :: ([.fieldLink RX8 52 "EachEyeModel" "pageMany" "I", .fieldLink RX8 7 "EachEyeModel" "page" "[I", .constantLong RX8 55 (48), .constantLong RX8 57 (55), .methodLink RX8 46 yX8_in, .static yX8_in, .initialized RX8, .code yX8_in cX8_in 6 (some .boolean)] ++ wsX80)
def wsX8_fault : List Cond := .code yX8_fault cX8_fault 1 (some .int) :: ([.methodLink RX8 59 yX8_faultOf, .instanceMethod yX8_faultOf, .selects RX8 yX8_faultOf yX8_faultOf, .initialized RX8, .code yX8_faultOf cX8_faultOf 2 (some .int), .fieldLink RX8 52 "EachEyeModel" "pageMany" "I", .fieldLink RX8 7 "EachEyeModel" "page" "[I", .constantLong RX8 55 (48), .constantLong RX8 57 (55), .methodLink RX8 46 yX8_in, .static yX8_in, .code yX8_in cX8_in 6 (some .boolean)] ++ wsX80)
def wsX8_isSix : List Cond := .code yX8_isSix cX8_isSix 1 (some .boolean) :: ([.fieldLink RX8 52 "EachEyeModel" "pageMany" "I", .methodLink RX8 59 yX8_faultOf, .instanceMethod yX8_faultOf, .selects RX8 yX8_faultOf yX8_faultOf, .initialized RX8, .code yX8_faultOf cX8_faultOf 2 (some .int), .fieldLink RX8 7 "EachEyeModel" "page" "[I", .constantLong RX8 55 (48), .constantLong RX8 57 (55), .methodLink RX8 46 yX8_in, .static yX8_in, .code yX8_in cX8_in 6 (some .boolean)] ++ wsX80)
def wsX8_inkedCells : List Cond := .code yX8_inkedCells cX8_inkedCells 3 (some .int) :: ([.fieldLink RX8 63 "EachEyeModel" "isThere" "Z", .fieldLink RX8 13 "EachEyeModel" "hues" "[I"] ++ wsX80)
def wsX8_sign_r1 : List Cond := [Cond.fieldLink RX8 13 "EachEyeModel" "hues" "[I", Cond.fieldLink RX8 7 "EachEyeModel" "page" "[I", Cond.fieldLink RX8 71 "EachEyeModel" "people" "I", Cond.fieldLink RX8 74 "EachEyeModel" "inks" "I", Cond.fieldLink RX8 77 "EachEyeModel" "cards" "I", Cond.fieldLink RX8 80 "EachEyeModel" "layers" "I", Cond.fieldLink RX8 63 "EachEyeModel" "isThere" "Z", Cond.fieldLink RX8 83 "EachEyeModel" "signsRead" "I", Cond.fieldLink RX8 52 "EachEyeModel" "pageMany" "I", Cond.methodLink RX8 67 yX8_isSix, Cond.instanceMethod yX8_isSix, Cond.selects RX8 yX8_isSix yX8_isSix, Cond.initialized RX8, Cond.code yX8_isSix cX8_isSix 1 (some .boolean), Cond.methodLink RX8 59 yX8_faultOf, Cond.instanceMethod yX8_faultOf, Cond.selects RX8 yX8_faultOf yX8_faultOf, Cond.code yX8_faultOf cX8_faultOf 2 (some .int), Cond.constantLong RX8 55 (48), Cond.constantLong RX8 57 (55), Cond.methodLink RX8 46 yX8_in, Cond.static yX8_in, Cond.code yX8_in cX8_in 6 (some .boolean), Cond.methodLink RX8 86 yX8_inkedCells]
def wsX8_sign_r2 : List Cond := [Cond.instanceMethod yX8_inkedCells, Cond.selects RX8 yX8_inkedCells yX8_inkedCells, Cond.code yX8_inkedCells cX8_inkedCells 3 (some .int)]
def wsX8_sign : List Cond := .code yX8_sign cX8_sign 2 (some .int) :: ((wsX8_sign_r1 ++ wsX8_sign_r2) ++ wsX80)
def wsX8_hue : List Cond := .code yX8_hue cX8_hue 2 (some .int) :: ([.fieldLink RX8 63 "EachEyeModel" "isThere" "Z", .constantLong RX8 89 (5), .fieldLink RX8 13 "EachEyeModel" "hues" "[I", .methodLink RX8 46 yX8_in, .static yX8_in, .initialized RX8, .code yX8_in cX8_in 6 (some .boolean)] ++ wsX80)
def wsX8_isPerson : List Cond := .code yX8_isPerson cX8_isPerson 2 (some .boolean) :: ([.fieldLink RX8 71 "EachEyeModel" "people" "I", .methodLink RX8 46 yX8_in, .static yX8_in, .initialized RX8, .code yX8_in cX8_in 6 (some .boolean)] ++ wsX80)
def wsX8_isInk : List Cond := .code yX8_isInk cX8_isInk 2 (some .boolean) :: ([.fieldLink RX8 74 "EachEyeModel" "inks" "I", .methodLink RX8 46 yX8_in, .static yX8_in, .initialized RX8, .code yX8_in cX8_in 6 (some .boolean)] ++ wsX80)
def wsX8_layer : List Cond := .code yX8_layer cX8_layer 6 (some .int) :: ([.constantLong RX8 95 (63), .fieldLink RX8 13 "EachEyeModel" "hues" "[I", .fieldLink RX8 19 "EachEyeModel" "inkHues" "[I", .fieldLink RX8 80 "EachEyeModel" "layers" "I", .methodLink RX8 91 yX8_isInk, .instanceMethod yX8_isInk, .selects RX8 yX8_isInk yX8_isInk, .initialized RX8, .code yX8_isInk cX8_isInk 2 (some .boolean), .fieldLink RX8 74 "EachEyeModel" "inks" "I", .methodLink RX8 46 yX8_in, .static yX8_in, .code yX8_in cX8_in 6 (some .boolean)] ++ wsX80)
def wsX8_seenBy : List Cond := .code yX8_seenBy cX8_seenBy 6 (some .int) :: ([])
def wsX8_seesOf : List Cond := .code yX8_seesOf cX8_seesOf 3 (some .int) :: ([.fieldLink RX8 16 "EachEyeModel" "rows" "[I", .methodLink RX8 97 yX8_seenBy, .static yX8_seenBy, .initialized RX8, .code yX8_seenBy cX8_seenBy 6 (some .int)] ++ wsX80)
def wsX8_person : List Cond := .code yX8_person cX8_person 4 (some .int) :: ([.constantLong RX8 101 (4), .fieldLink RX8 63 "EachEyeModel" "isThere" "Z", .fieldLink RX8 71 "EachEyeModel" "people" "I", .fieldLink RX8 16 "EachEyeModel" "rows" "[I", .methodLink RX8 46 yX8_in, .static yX8_in, .initialized RX8, .code yX8_in cX8_in 6 (some .boolean), .methodLink RX8 103 yX8_isHue, .static yX8_isHue, .code yX8_isHue cX8_isHue 1 (some .boolean), .constantLong RX8 44 (7)] ++ wsX80)
def wsX8_asTheyAre : List Cond := .code yX8_asTheyAre cX8_asTheyAre 4 (some .int) :: ([.methodLink RX8 106 yX8_seesOf, .instanceMethod yX8_seesOf, .selects RX8 yX8_seesOf yX8_seesOf, .initialized RX8, .code yX8_seesOf cX8_seesOf 3 (some .int), .fieldLink RX8 16 "EachEyeModel" "rows" "[I", .methodLink RX8 97 yX8_seenBy, .static yX8_seenBy, .code yX8_seenBy cX8_seenBy 6 (some .int)] ++ wsX80)
def wsX8_tell : List Cond := .code yX8_tell cX8_tell 3 (some .int) :: ([.constantLong RX8 110 (2), .fieldLink RX8 16 "EachEyeModel" "rows" "[I", .constantLong RX8 112 (10), .constantLong RX8 114 (15), .fieldLink RX8 13 "EachEyeModel" "hues" "[I", .constantLong RX8 116 (20), .constantLong RX8 118 (25), .methodLink RX8 46 yX8_in, .static yX8_in, .initialized RX8, .code yX8_in cX8_in 6 (some .boolean), .methodLink RX8 106 yX8_seesOf, .instanceMethod yX8_seesOf, .selects RX8 yX8_seesOf yX8_seesOf, .code yX8_seesOf cX8_seesOf 3 (some .int), .methodLink RX8 97 yX8_seenBy, .static yX8_seenBy, .code yX8_seenBy cX8_seenBy 6 (some .int), .methodLink RX8 120 yX8_asTheyAre, .instanceMethod yX8_asTheyAre, .selects RX8 yX8_asTheyAre yX8_asTheyAre, .code yX8_asTheyAre cX8_asTheyAre 4 (some .int)] ++ wsX80)
def wsX8_about_r1 : List Cond := [Cond.methodLink RX8 124 yX8_isPerson, Cond.instanceMethod yX8_isPerson, Cond.selects RX8 yX8_isPerson yX8_isPerson, Cond.initialized RX8, Cond.code yX8_isPerson cX8_isPerson 2 (some .boolean), Cond.fieldLink RX8 71 "EachEyeModel" "people" "I", Cond.methodLink RX8 46 yX8_in, Cond.static yX8_in, Cond.code yX8_in cX8_in 6 (some .boolean), Cond.methodLink RX8 127 yX8_tell, Cond.instanceMethod yX8_tell, Cond.selects RX8 yX8_tell yX8_tell, Cond.code yX8_tell cX8_tell 3 (some .int), Cond.constantLong RX8 110 (2), Cond.fieldLink RX8 16 "EachEyeModel" "rows" "[I", Cond.constantLong RX8 112 (10), Cond.constantLong RX8 114 (15), Cond.fieldLink RX8 13 "EachEyeModel" "hues" "[I", Cond.constantLong RX8 116 (20), Cond.constantLong RX8 118 (25), Cond.methodLink RX8 106 yX8_seesOf, Cond.instanceMethod yX8_seesOf, Cond.selects RX8 yX8_seesOf yX8_seesOf, Cond.code yX8_seesOf cX8_seesOf 3 (some .int)]
def wsX8_about_r2 : List Cond := [Cond.methodLink RX8 97 yX8_seenBy, Cond.static yX8_seenBy, Cond.code yX8_seenBy cX8_seenBy 6 (some .int), Cond.methodLink RX8 120 yX8_asTheyAre, Cond.instanceMethod yX8_asTheyAre, Cond.selects RX8 yX8_asTheyAre yX8_asTheyAre, Cond.code yX8_asTheyAre cX8_asTheyAre 4 (some .int)]
def wsX8_about : List Cond := .code yX8_about cX8_about 3 (some .int) :: ((wsX8_about_r1 ++ wsX8_about_r2) ++ wsX80)
def wsX8_as : List Cond := .code yX8_as cX8_as 5 (some .int) :: ([.constantLong RX8 101 (4), .fieldLink RX8 16 "EachEyeModel" "rows" "[I", .methodLink RX8 124 yX8_isPerson, .instanceMethod yX8_isPerson, .selects RX8 yX8_isPerson yX8_isPerson, .initialized RX8, .code yX8_isPerson cX8_isPerson 2 (some .boolean), .fieldLink RX8 71 "EachEyeModel" "people" "I", .methodLink RX8 46 yX8_in, .static yX8_in, .code yX8_in cX8_in 6 (some .boolean)] ++ wsX80)
def wsX8_sees : List Cond := .code yX8_sees cX8_sees 3 (some .int) :: ([.methodLink RX8 124 yX8_isPerson, .instanceMethod yX8_isPerson, .selects RX8 yX8_isPerson yX8_isPerson, .initialized RX8, .code yX8_isPerson cX8_isPerson 2 (some .boolean), .fieldLink RX8 71 "EachEyeModel" "people" "I", .methodLink RX8 46 yX8_in, .static yX8_in, .code yX8_in cX8_in 6 (some .boolean), .methodLink RX8 103 yX8_isHue, .static yX8_isHue, .code yX8_isHue cX8_isHue 1 (some .boolean), .constantLong RX8 44 (7), .methodLink RX8 106 yX8_seesOf, .instanceMethod yX8_seesOf, .selects RX8 yX8_seesOf yX8_seesOf, .code yX8_seesOf cX8_seesOf 3 (some .int), .fieldLink RX8 16 "EachEyeModel" "rows" "[I", .methodLink RX8 97 yX8_seenBy, .static yX8_seenBy, .code yX8_seenBy cX8_seenBy 6 (some .int)] ++ wsX80)
def wsX8_eye : List Cond := .code yX8_eye cX8_eye 5 (some .int) :: ([.fieldLink RX8 16 "EachEyeModel" "rows" "[I", .methodLink RX8 124 yX8_isPerson, .instanceMethod yX8_isPerson, .selects RX8 yX8_isPerson yX8_isPerson, .initialized RX8, .code yX8_isPerson cX8_isPerson 2 (some .boolean), .fieldLink RX8 71 "EachEyeModel" "people" "I", .methodLink RX8 46 yX8_in, .static yX8_in, .code yX8_in cX8_in 6 (some .boolean), .methodLink RX8 103 yX8_isHue, .static yX8_isHue, .code yX8_isHue cX8_isHue 1 (some .boolean), .constantLong RX8 44 (7)] ++ wsX80)
def wsX8_ink : List Cond := .code yX8_ink cX8_ink 2 (some .int) :: ([.constantLong RX8 44 (7), .fieldLink RX8 63 "EachEyeModel" "isThere" "Z", .fieldLink RX8 74 "EachEyeModel" "inks" "I", .fieldLink RX8 19 "EachEyeModel" "inkHues" "[I", .methodLink RX8 46 yX8_in, .static yX8_in, .initialized RX8, .code yX8_in cX8_in 6 (some .boolean)] ++ wsX80)
def wsX8_inkOf : List Cond := .code yX8_inkOf cX8_inkOf 2 (some .int) :: ([.fieldLink RX8 19 "EachEyeModel" "inkHues" "[I", .methodLink RX8 91 yX8_isInk, .instanceMethod yX8_isInk, .selects RX8 yX8_isInk yX8_isInk, .initialized RX8, .code yX8_isInk cX8_isInk 2 (some .boolean), .fieldLink RX8 74 "EachEyeModel" "inks" "I", .methodLink RX8 46 yX8_in, .static yX8_in, .code yX8_in cX8_in 6 (some .boolean)] ++ wsX80)
def wsX8_wordMany : List Cond := .code yX8_wordMany cX8_wordMany 3 (some .int) :: ([.fieldLink RX8 71 "EachEyeModel" "people" "I", .fieldLink RX8 16 "EachEyeModel" "rows" "[I"] ++ wsX80)
def wsX8_word_r1 : List Cond := [Cond.fieldLink RX8 16 "EachEyeModel" "rows" "[I", Cond.fieldLink RX8 7 "EachEyeModel" "page" "[I", Cond.fieldLink RX8 52 "EachEyeModel" "pageMany" "I", Cond.methodLink RX8 124 yX8_isPerson, Cond.instanceMethod yX8_isPerson, Cond.selects RX8 yX8_isPerson yX8_isPerson, Cond.initialized RX8, Cond.code yX8_isPerson cX8_isPerson 2 (some .boolean), Cond.fieldLink RX8 71 "EachEyeModel" "people" "I", Cond.methodLink RX8 46 yX8_in, Cond.static yX8_in, Cond.code yX8_in cX8_in 6 (some .boolean), Cond.methodLink RX8 67 yX8_isSix, Cond.instanceMethod yX8_isSix, Cond.selects RX8 yX8_isSix yX8_isSix, Cond.code yX8_isSix cX8_isSix 1 (some .boolean), Cond.methodLink RX8 59 yX8_faultOf, Cond.instanceMethod yX8_faultOf, Cond.selects RX8 yX8_faultOf yX8_faultOf, Cond.code yX8_faultOf cX8_faultOf 2 (some .int), Cond.constantLong RX8 55 (48), Cond.constantLong RX8 57 (55), Cond.methodLink RX8 130 yX8_wordMany, Cond.instanceMethod yX8_wordMany]
def wsX8_word_r2 : List Cond := [Cond.selects RX8 yX8_wordMany yX8_wordMany, Cond.code yX8_wordMany cX8_wordMany 3 (some .int)]
def wsX8_word : List Cond := .code yX8_word cX8_word 3 (some .int) :: ((wsX8_word_r1 ++ wsX8_word_r2) ++ wsX80)
def wsX8_unword : List Cond := .code yX8_unword cX8_unword 3 (some .int) :: ([.fieldLink RX8 16 "EachEyeModel" "rows" "[I", .methodLink RX8 124 yX8_isPerson, .instanceMethod yX8_isPerson, .selects RX8 yX8_isPerson yX8_isPerson, .initialized RX8, .code yX8_isPerson cX8_isPerson 2 (some .boolean), .fieldLink RX8 71 "EachEyeModel" "people" "I", .methodLink RX8 46 yX8_in, .static yX8_in, .code yX8_in cX8_in 6 (some .boolean)] ++ wsX80)
def wsX8_differOf : List Cond := .code yX8_differOf cX8_differOf 4 (some .int) :: ([.fieldLink RX8 13 "EachEyeModel" "hues" "[I", .methodLink RX8 106 yX8_seesOf, .instanceMethod yX8_seesOf, .selects RX8 yX8_seesOf yX8_seesOf, .initialized RX8, .code yX8_seesOf cX8_seesOf 3 (some .int), .fieldLink RX8 16 "EachEyeModel" "rows" "[I", .methodLink RX8 97 yX8_seenBy, .static yX8_seenBy, .code yX8_seenBy cX8_seenBy 6 (some .int)] ++ wsX80)
def wsX8_differ : List Cond := .code yX8_differ cX8_differ 3 (some .int) :: ([.methodLink RX8 124 yX8_isPerson, .instanceMethod yX8_isPerson, .selects RX8 yX8_isPerson yX8_isPerson, .initialized RX8, .code yX8_isPerson cX8_isPerson 2 (some .boolean), .fieldLink RX8 71 "EachEyeModel" "people" "I", .methodLink RX8 46 yX8_in, .static yX8_in, .code yX8_in cX8_in 6 (some .boolean), .methodLink RX8 133 yX8_differOf, .instanceMethod yX8_differOf, .selects RX8 yX8_differOf yX8_differOf, .code yX8_differOf cX8_differOf 4 (some .int), .fieldLink RX8 13 "EachEyeModel" "hues" "[I", .methodLink RX8 106 yX8_seesOf, .instanceMethod yX8_seesOf, .selects RX8 yX8_seesOf yX8_seesOf, .code yX8_seesOf cX8_seesOf 3 (some .int), .fieldLink RX8 16 "EachEyeModel" "rows" "[I", .methodLink RX8 97 yX8_seenBy, .static yX8_seenBy, .code yX8_seenBy cX8_seenBy 6 (some .int)] ++ wsX80)
def wsX8_alikeOf : List Cond := .code yX8_alikeOf cX8_alikeOf 5 (some .int) :: ([.methodLink RX8 106 yX8_seesOf, .instanceMethod yX8_seesOf, .selects RX8 yX8_seesOf yX8_seesOf, .initialized RX8, .code yX8_seesOf cX8_seesOf 3 (some .int), .fieldLink RX8 16 "EachEyeModel" "rows" "[I", .methodLink RX8 97 yX8_seenBy, .static yX8_seenBy, .code yX8_seenBy cX8_seenBy 6 (some .int)] ++ wsX80)
def wsX8_alike : List Cond := .code yX8_alike cX8_alike 3 (some .int) :: ([.methodLink RX8 124 yX8_isPerson, .instanceMethod yX8_isPerson, .selects RX8 yX8_isPerson yX8_isPerson, .initialized RX8, .code yX8_isPerson cX8_isPerson 2 (some .boolean), .fieldLink RX8 71 "EachEyeModel" "people" "I", .methodLink RX8 46 yX8_in, .static yX8_in, .code yX8_in cX8_in 6 (some .boolean), .methodLink RX8 136 yX8_alikeOf, .instanceMethod yX8_alikeOf, .selects RX8 yX8_alikeOf yX8_alikeOf, .code yX8_alikeOf cX8_alikeOf 5 (some .int), .methodLink RX8 106 yX8_seesOf, .instanceMethod yX8_seesOf, .selects RX8 yX8_seesOf yX8_seesOf, .code yX8_seesOf cX8_seesOf 3 (some .int), .fieldLink RX8 16 "EachEyeModel" "rows" "[I", .methodLink RX8 97 yX8_seenBy, .static yX8_seenBy, .code yX8_seenBy cX8_seenBy 6 (some .int)] ++ wsX80)
def wsX8_isReadAt : List Cond := .code yX8_isReadAt cX8_isReadAt 5 (some .boolean) :: ([.fieldLink RX8 71 "EachEyeModel" "people" "I", .fieldLink RX8 16 "EachEyeModel" "rows" "[I", .methodLink RX8 106 yX8_seesOf, .instanceMethod yX8_seesOf, .selects RX8 yX8_seesOf yX8_seesOf, .initialized RX8, .code yX8_seesOf cX8_seesOf 3 (some .int), .methodLink RX8 97 yX8_seenBy, .static yX8_seenBy, .code yX8_seenBy cX8_seenBy 6 (some .int)] ++ wsX80)
def wsX8_mayBeRead : List Cond := .code yX8_mayBeRead cX8_mayBeRead 6 (some .boolean) :: ([.fieldLink RX8 13 "EachEyeModel" "hues" "[I", .fieldLink RX8 74 "EachEyeModel" "inks" "I", .fieldLink RX8 19 "EachEyeModel" "inkHues" "[I", .methodLink RX8 139 yX8_isReadAt, .instanceMethod yX8_isReadAt, .selects RX8 yX8_isReadAt yX8_isReadAt, .initialized RX8, .code yX8_isReadAt cX8_isReadAt 5 (some .boolean), .fieldLink RX8 71 "EachEyeModel" "people" "I", .fieldLink RX8 16 "EachEyeModel" "rows" "[I", .methodLink RX8 106 yX8_seesOf, .instanceMethod yX8_seesOf, .selects RX8 yX8_seesOf yX8_seesOf, .code yX8_seesOf cX8_seesOf 3 (some .int), .methodLink RX8 97 yX8_seenBy, .static yX8_seenBy, .code yX8_seenBy cX8_seenBy 6 (some .int)] ++ wsX80)
def wsX8_ones : List Cond := .code yX8_ones cX8_ones 3 (some .int) :: ([])
def wsX8_fewSet : List Cond := .code yX8_fewSet cX8_fewSet 5 (some .int) :: ([.fieldLink RX8 74 "EachEyeModel" "inks" "I", .methodLink RX8 143 yX8_ones, .static yX8_ones, .initialized RX8, .code yX8_ones cX8_ones 3 (some .int), .methodLink RX8 146 yX8_mayBeRead, .instanceMethod yX8_mayBeRead, .selects RX8 yX8_mayBeRead yX8_mayBeRead, .code yX8_mayBeRead cX8_mayBeRead 6 (some .boolean), .fieldLink RX8 13 "EachEyeModel" "hues" "[I", .fieldLink RX8 19 "EachEyeModel" "inkHues" "[I", .methodLink RX8 139 yX8_isReadAt, .instanceMethod yX8_isReadAt, .selects RX8 yX8_isReadAt yX8_isReadAt, .code yX8_isReadAt cX8_isReadAt 5 (some .boolean), .fieldLink RX8 71 "EachEyeModel" "people" "I", .fieldLink RX8 16 "EachEyeModel" "rows" "[I", .methodLink RX8 106 yX8_seesOf, .instanceMethod yX8_seesOf, .selects RX8 yX8_seesOf yX8_seesOf, .code yX8_seesOf cX8_seesOf 3 (some .int), .methodLink RX8 97 yX8_seenBy, .static yX8_seenBy, .code yX8_seenBy cX8_seenBy 6 (some .int)] ++ wsX80)
def wsX8_fewOf_r1 : List Cond := [Cond.methodLink RX8 149 yX8_fewSet, Cond.instanceMethod yX8_fewSet, Cond.selects RX8 yX8_fewSet yX8_fewSet, Cond.initialized RX8, Cond.code yX8_fewSet cX8_fewSet 5 (some .int), Cond.fieldLink RX8 74 "EachEyeModel" "inks" "I", Cond.methodLink RX8 143 yX8_ones, Cond.static yX8_ones, Cond.code yX8_ones cX8_ones 3 (some .int), Cond.methodLink RX8 146 yX8_mayBeRead, Cond.instanceMethod yX8_mayBeRead, Cond.selects RX8 yX8_mayBeRead yX8_mayBeRead, Cond.code yX8_mayBeRead cX8_mayBeRead 6 (some .boolean), Cond.fieldLink RX8 13 "EachEyeModel" "hues" "[I", Cond.fieldLink RX8 19 "EachEyeModel" "inkHues" "[I", Cond.methodLink RX8 139 yX8_isReadAt, Cond.instanceMethod yX8_isReadAt, Cond.selects RX8 yX8_isReadAt yX8_isReadAt, Cond.code yX8_isReadAt cX8_isReadAt 5 (some .boolean), Cond.fieldLink RX8 71 "EachEyeModel" "people" "I", Cond.fieldLink RX8 16 "EachEyeModel" "rows" "[I", Cond.methodLink RX8 106 yX8_seesOf, Cond.instanceMethod yX8_seesOf, Cond.selects RX8 yX8_seesOf yX8_seesOf]
def wsX8_fewOf_r2 : List Cond := [Cond.code yX8_seesOf cX8_seesOf 3 (some .int), Cond.methodLink RX8 97 yX8_seenBy, Cond.static yX8_seenBy, Cond.code yX8_seenBy cX8_seenBy 6 (some .int)]
def wsX8_fewOf : List Cond := .code yX8_fewOf cX8_fewOf 3 (some .int) :: ((wsX8_fewOf_r1 ++ wsX8_fewOf_r2) ++ wsX80)
def wsX8_few_r1 : List Cond := [Cond.fieldLink RX8 63 "EachEyeModel" "isThere" "Z", Cond.methodLink RX8 46 yX8_in, Cond.static yX8_in, Cond.initialized RX8, Cond.code yX8_in cX8_in 6 (some .boolean), Cond.methodLink RX8 152 yX8_fewOf, Cond.instanceMethod yX8_fewOf, Cond.selects RX8 yX8_fewOf yX8_fewOf, Cond.code yX8_fewOf cX8_fewOf 3 (some .int), Cond.methodLink RX8 149 yX8_fewSet, Cond.instanceMethod yX8_fewSet, Cond.selects RX8 yX8_fewSet yX8_fewSet, Cond.code yX8_fewSet cX8_fewSet 5 (some .int), Cond.fieldLink RX8 74 "EachEyeModel" "inks" "I", Cond.methodLink RX8 143 yX8_ones, Cond.static yX8_ones, Cond.code yX8_ones cX8_ones 3 (some .int), Cond.methodLink RX8 146 yX8_mayBeRead, Cond.instanceMethod yX8_mayBeRead, Cond.selects RX8 yX8_mayBeRead yX8_mayBeRead, Cond.code yX8_mayBeRead cX8_mayBeRead 6 (some .boolean), Cond.fieldLink RX8 13 "EachEyeModel" "hues" "[I", Cond.fieldLink RX8 19 "EachEyeModel" "inkHues" "[I", Cond.methodLink RX8 139 yX8_isReadAt]
def wsX8_few_r2 : List Cond := [Cond.instanceMethod yX8_isReadAt, Cond.selects RX8 yX8_isReadAt yX8_isReadAt, Cond.code yX8_isReadAt cX8_isReadAt 5 (some .boolean), Cond.fieldLink RX8 71 "EachEyeModel" "people" "I", Cond.fieldLink RX8 16 "EachEyeModel" "rows" "[I", Cond.methodLink RX8 106 yX8_seesOf, Cond.instanceMethod yX8_seesOf, Cond.selects RX8 yX8_seesOf yX8_seesOf, Cond.code yX8_seesOf cX8_seesOf 3 (some .int), Cond.methodLink RX8 97 yX8_seenBy, Cond.static yX8_seenBy, Cond.code yX8_seenBy cX8_seenBy 6 (some .int)]
def wsX8_few : List Cond := .code yX8_few cX8_few 2 (some .int) :: ((wsX8_few_r1 ++ wsX8_few_r2) ++ wsX80)
def wsX8_card : List Cond := .code yX8_card cX8_card 3 (some .int) :: ([.fieldLink RX8 77 "EachEyeModel" "cards" "I", .fieldLink RX8 22 "EachEyeModel" "cardRows" "[I", .methodLink RX8 103 yX8_isHue, .static yX8_isHue, .initialized RX8, .code yX8_isHue cX8_isHue 1 (some .boolean), .constantLong RX8 44 (7), .methodLink RX8 46 yX8_in, .static yX8_in, .code yX8_in cX8_in 6 (some .boolean)] ++ wsX80)
def wsX8_forget : List Cond := .code yX8_forget cX8_forget 2 (some .int) :: ([.fieldLink RX8 77 "EachEyeModel" "cards" "I"] ++ wsX80)
def wsX8_seenByCode : List Cond := .code yX8_seenByCode cX8_seenByCode 2 (some .int) :: ([.methodLink RX8 97 yX8_seenBy, .static yX8_seenBy, .initialized RX8, .code yX8_seenBy cX8_seenBy 6 (some .int)])
def wsX8_isSo : List Cond := .code yX8_isSo cX8_isSo 4 (some .boolean) :: ([.fieldLink RX8 77 "EachEyeModel" "cards" "I", .fieldLink RX8 22 "EachEyeModel" "cardRows" "[I", .methodLink RX8 155 yX8_seenByCode, .static yX8_seenByCode, .initialized RX8, .code yX8_seenByCode cX8_seenByCode 2 (some .int), .methodLink RX8 97 yX8_seenBy, .static yX8_seenBy, .code yX8_seenBy cX8_seenBy 6 (some .int)] ++ wsX80)
def wsX8_who : List Cond := .code yX8_who cX8_who 5 (some .int) :: ([.fieldLink RX8 158 "EachEyeModel" "asked" "I", .methodLink RX8 46 yX8_in, .static yX8_in, .initialized RX8, .code yX8_in cX8_in 6 (some .boolean), .methodLink RX8 161 yX8_isSo, .instanceMethod yX8_isSo, .selects RX8 yX8_isSo yX8_isSo, .code yX8_isSo cX8_isSo 4 (some .boolean), .fieldLink RX8 77 "EachEyeModel" "cards" "I", .fieldLink RX8 22 "EachEyeModel" "cardRows" "[I", .methodLink RX8 155 yX8_seenByCode, .static yX8_seenByCode, .code yX8_seenByCode cX8_seenByCode 2 (some .int), .methodLink RX8 97 yX8_seenBy, .static yX8_seenBy, .code yX8_seenBy cX8_seenBy 6 (some .int)] ++ wsX80)
def wsX8_next : List Cond := .code yX8_next cX8_next 6 (some .int) :: ([.fieldLink RX8 158 "EachEyeModel" "asked" "I", .fieldLink RX8 25 "EachEyeModel" "says" "[I", .methodLink RX8 155 yX8_seenByCode, .static yX8_seenByCode, .initialized RX8, .code yX8_seenByCode cX8_seenByCode 2 (some .int), .methodLink RX8 97 yX8_seenBy, .static yX8_seenBy, .code yX8_seenBy cX8_seenBy 6 (some .int), .methodLink RX8 161 yX8_isSo, .instanceMethod yX8_isSo, .selects RX8 yX8_isSo yX8_isSo, .code yX8_isSo cX8_isSo 4 (some .boolean), .fieldLink RX8 77 "EachEyeModel" "cards" "I", .fieldLink RX8 22 "EachEyeModel" "cardRows" "[I"] ++ wsX80)
def wsX8_draw : List Cond := .code yX8_draw cX8_draw 2 (some .int) :: ([.constantLong RX8 164 (1103515245), .fieldLink RX8 166 "EachEyeModel" "seedNow" "I", .constantLong RX8 169 (12345), .constantLong RX8 171 (2147483647), .constant RX8 173 (65536)] ++ wsX80)
def wsX8_parts : List Cond := .code yX8_parts cX8_parts 1 (some .int) :: ([])
def wsX8_readsAlike : List Cond := .code yX8_readsAlike cX8_readsAlike 6 (some .boolean) :: ([.fieldLink RX8 16 "EachEyeModel" "rows" "[I", .fieldLink RX8 13 "EachEyeModel" "hues" "[I", .methodLink RX8 97 yX8_seenBy, .static yX8_seenBy, .initialized RX8, .code yX8_seenBy cX8_seenBy 6 (some .int), .methodLink RX8 106 yX8_seesOf, .instanceMethod yX8_seesOf, .selects RX8 yX8_seesOf yX8_seesOf, .code yX8_seesOf cX8_seesOf 3 (some .int)] ++ wsX80)
def wsX8_ageing_r1 : List Cond := [Cond.constantLong RX8 174 (60), Cond.constantLong RX8 110 (2), Cond.fieldLink RX8 16 "EachEyeModel" "rows" "[I", Cond.fieldLink RX8 166 "EachEyeModel" "seedNow" "I", Cond.methodLink RX8 124 yX8_isPerson, Cond.instanceMethod yX8_isPerson, Cond.selects RX8 yX8_isPerson yX8_isPerson, Cond.initialized RX8, Cond.code yX8_isPerson cX8_isPerson 2 (some .boolean), Cond.fieldLink RX8 71 "EachEyeModel" "people" "I", Cond.methodLink RX8 46 yX8_in, Cond.static yX8_in, Cond.code yX8_in cX8_in 6 (some .boolean), Cond.methodLink RX8 176 yX8_draw, Cond.instanceMethod yX8_draw, Cond.selects RX8 yX8_draw yX8_draw, Cond.code yX8_draw cX8_draw 2 (some .int), Cond.constantLong RX8 164 (1103515245), Cond.constantLong RX8 169 (12345), Cond.constantLong RX8 171 (2147483647), Cond.constant RX8 173 (65536), Cond.methodLink RX8 179 yX8_readsAlike, Cond.instanceMethod yX8_readsAlike, Cond.selects RX8 yX8_readsAlike yX8_readsAlike]
def wsX8_ageing_r2 : List Cond := [Cond.code yX8_readsAlike cX8_readsAlike 6 (some .boolean), Cond.fieldLink RX8 13 "EachEyeModel" "hues" "[I", Cond.methodLink RX8 97 yX8_seenBy, Cond.static yX8_seenBy, Cond.code yX8_seenBy cX8_seenBy 6 (some .int), Cond.methodLink RX8 106 yX8_seesOf, Cond.instanceMethod yX8_seesOf, Cond.selects RX8 yX8_seesOf yX8_seesOf, Cond.code yX8_seesOf cX8_seesOf 3 (some .int), Cond.methodLink RX8 183 yX8_parts, Cond.static yX8_parts, Cond.code yX8_parts cX8_parts 1 (some .int)]
def wsX8_ageing : List Cond := .code yX8_ageing cX8_ageing 12 (some .int) :: ((wsX8_ageing_r1 ++ wsX8_ageing_r2) ++ wsX80)
def wsX8_copy : List Cond := .code yX8_copy cX8_copy 3 none :: ([])
def wsX8_image : List Cond := .code yX8_image cX8_image 1 (some .int) :: ([.fieldLink RX8 63 "EachEyeModel" "isThere" "Z", .fieldLink RX8 13 "EachEyeModel" "hues" "[I", .fieldLink RX8 28 "EachEyeModel" "keptHues" "[I", .fieldLink RX8 16 "EachEyeModel" "rows" "[I", .fieldLink RX8 31 "EachEyeModel" "keptRows" "[I", .fieldLink RX8 19 "EachEyeModel" "inkHues" "[I", .fieldLink RX8 34 "EachEyeModel" "keptInkHues" "[I", .fieldLink RX8 22 "EachEyeModel" "cardRows" "[I", .fieldLink RX8 37 "EachEyeModel" "keptCardRows" "[I", .fieldLink RX8 71 "EachEyeModel" "people" "I", .fieldLink RX8 190 "EachEyeModel" "keptPeople" "I", .fieldLink RX8 74 "EachEyeModel" "inks" "I", .fieldLink RX8 193 "EachEyeModel" "keptInks" "I", .fieldLink RX8 77 "EachEyeModel" "cards" "I", .fieldLink RX8 196 "EachEyeModel" "keptCards" "I", .fieldLink RX8 80 "EachEyeModel" "layers" "I", .fieldLink RX8 199 "EachEyeModel" "keptLayers" "I", .fieldLink RX8 83 "EachEyeModel" "signsRead" "I", .fieldLink RX8 40 "EachEyeModel" "keptSign" "I", .methodLink RX8 186 yX8_copy, .static yX8_copy, .initialized RX8, .code yX8_copy cX8_copy 3 none] ++ wsX80)
def wsX8_restore : List Cond := .code yX8_restore cX8_restore 1 (some .int) :: ([.fieldLink RX8 40 "EachEyeModel" "keptSign" "I", .fieldLink RX8 83 "EachEyeModel" "signsRead" "I", .fieldLink RX8 28 "EachEyeModel" "keptHues" "[I", .fieldLink RX8 13 "EachEyeModel" "hues" "[I", .fieldLink RX8 31 "EachEyeModel" "keptRows" "[I", .fieldLink RX8 16 "EachEyeModel" "rows" "[I", .fieldLink RX8 34 "EachEyeModel" "keptInkHues" "[I", .fieldLink RX8 19 "EachEyeModel" "inkHues" "[I", .fieldLink RX8 37 "EachEyeModel" "keptCardRows" "[I", .fieldLink RX8 22 "EachEyeModel" "cardRows" "[I", .fieldLink RX8 190 "EachEyeModel" "keptPeople" "I", .fieldLink RX8 71 "EachEyeModel" "people" "I", .fieldLink RX8 193 "EachEyeModel" "keptInks" "I", .fieldLink RX8 74 "EachEyeModel" "inks" "I", .fieldLink RX8 196 "EachEyeModel" "keptCards" "I", .fieldLink RX8 77 "EachEyeModel" "cards" "I", .fieldLink RX8 199 "EachEyeModel" "keptLayers" "I", .fieldLink RX8 80 "EachEyeModel" "layers" "I", .methodLink RX8 186 yX8_copy, .static yX8_copy, .initialized RX8, .code yX8_copy cX8_copy 3 none] ++ wsX80)
def wsX8_countOf : List Cond := .code yX8_countOf cX8_countOf 2 (some .int) :: ([.fieldLink RX8 71 "EachEyeModel" "people" "I", .fieldLink RX8 74 "EachEyeModel" "inks" "I", .fieldLink RX8 80 "EachEyeModel" "layers" "I", .fieldLink RX8 77 "EachEyeModel" "cards" "I", .fieldLink RX8 52 "EachEyeModel" "pageMany" "I", .fieldLink RX8 83 "EachEyeModel" "signsRead" "I", .fieldLink RX8 158 "EachEyeModel" "asked" "I", .methodLink RX8 86 yX8_inkedCells, .instanceMethod yX8_inkedCells, .selects RX8 yX8_inkedCells yX8_inkedCells, .initialized RX8, .code yX8_inkedCells cX8_inkedCells 3 (some .int), .fieldLink RX8 63 "EachEyeModel" "isThere" "Z", .fieldLink RX8 13 "EachEyeModel" "hues" "[I", .methodLink RX8 130 yX8_wordMany, .instanceMethod yX8_wordMany, .selects RX8 yX8_wordMany yX8_wordMany, .code yX8_wordMany cX8_wordMany 3 (some .int), .fieldLink RX8 16 "EachEyeModel" "rows" "[I"] ++ wsX80)
def wsX8_count : List Cond := .code yX8_count cX8_count 2 (some .int) :: ([.methodLink RX8 202 yX8_countOf, .instanceMethod yX8_countOf, .selects RX8 yX8_countOf yX8_countOf, .initialized RX8, .code yX8_countOf cX8_countOf 2 (some .int), .fieldLink RX8 71 "EachEyeModel" "people" "I", .fieldLink RX8 74 "EachEyeModel" "inks" "I", .fieldLink RX8 80 "EachEyeModel" "layers" "I", .fieldLink RX8 77 "EachEyeModel" "cards" "I", .fieldLink RX8 52 "EachEyeModel" "pageMany" "I", .fieldLink RX8 83 "EachEyeModel" "signsRead" "I", .fieldLink RX8 158 "EachEyeModel" "asked" "I", .methodLink RX8 86 yX8_inkedCells, .instanceMethod yX8_inkedCells, .selects RX8 yX8_inkedCells yX8_inkedCells, .code yX8_inkedCells cX8_inkedCells 3 (some .int), .fieldLink RX8 63 "EachEyeModel" "isThere" "Z", .fieldLink RX8 13 "EachEyeModel" "hues" "[I", .methodLink RX8 130 yX8_wordMany, .instanceMethod yX8_wordMany, .selects RX8 yX8_wordMany yX8_wordMany, .code yX8_wordMany cX8_wordMany 3 (some .int), .fieldLink RX8 16 "EachEyeModel" "rows" "[I"] ++ wsX80)
def wsX8_say : List Cond := .code yX8_say cX8_say 3 none :: ([.constantLong RX8 205 (31), .fieldLink RX8 207 "EachEyeModel" "hash" "J"] ++ wsX80)
def wsX8_sayPerson_r1 : List Cond := [Cond.constantLong RX8 112 (10), Cond.constantLong RX8 114 (15), Cond.fieldLink RX8 71 "EachEyeModel" "people" "I", Cond.methodLink RX8 46 yX8_in, Cond.static yX8_in, Cond.initialized RX8, Cond.code yX8_in cX8_in 6 (some .boolean), Cond.methodLink RX8 127 yX8_tell, Cond.instanceMethod yX8_tell, Cond.selects RX8 yX8_tell yX8_tell, Cond.code yX8_tell cX8_tell 3 (some .int), Cond.constantLong RX8 110 (2), Cond.fieldLink RX8 16 "EachEyeModel" "rows" "[I", Cond.fieldLink RX8 13 "EachEyeModel" "hues" "[I", Cond.constantLong RX8 116 (20), Cond.constantLong RX8 118 (25), Cond.methodLink RX8 106 yX8_seesOf, Cond.instanceMethod yX8_seesOf, Cond.selects RX8 yX8_seesOf yX8_seesOf, Cond.code yX8_seesOf cX8_seesOf 3 (some .int), Cond.methodLink RX8 97 yX8_seenBy, Cond.static yX8_seenBy, Cond.code yX8_seenBy cX8_seenBy 6 (some .int), Cond.methodLink RX8 120 yX8_asTheyAre]
def wsX8_sayPerson_r2 : List Cond := [Cond.instanceMethod yX8_asTheyAre, Cond.selects RX8 yX8_asTheyAre yX8_asTheyAre, Cond.code yX8_asTheyAre cX8_asTheyAre 4 (some .int), Cond.methodLink RX8 211 yX8_say, Cond.instanceMethod yX8_say, Cond.selects RX8 yX8_say yX8_say, Cond.code yX8_say cX8_say 3 none, Cond.constantLong RX8 205 (31), Cond.fieldLink RX8 207 "EachEyeModel" "hash" "J", Cond.methodLink RX8 133 yX8_differOf, Cond.instanceMethod yX8_differOf, Cond.selects RX8 yX8_differOf yX8_differOf, Cond.code yX8_differOf cX8_differOf 4 (some .int), Cond.methodLink RX8 136 yX8_alikeOf, Cond.instanceMethod yX8_alikeOf, Cond.selects RX8 yX8_alikeOf yX8_alikeOf, Cond.code yX8_alikeOf cX8_alikeOf 5 (some .int)]
def wsX8_sayPerson : List Cond := .code yX8_sayPerson cX8_sayPerson 3 none :: ((wsX8_sayPerson_r1 ++ wsX8_sayPerson_r2) ++ wsX80)
def wsX8_digest_r1 : List Cond := [Cond.constantLong RX8 215 (853), Cond.fieldLink RX8 207 "EachEyeModel" "hash" "J", Cond.fieldLink RX8 63 "EachEyeModel" "isThere" "Z", Cond.fieldLink RX8 13 "EachEyeModel" "hues" "[I", Cond.fieldLink RX8 71 "EachEyeModel" "people" "I", Cond.fieldLink RX8 74 "EachEyeModel" "inks" "I", Cond.fieldLink RX8 19 "EachEyeModel" "inkHues" "[I", Cond.fieldLink RX8 52 "EachEyeModel" "pageMany" "I", Cond.fieldLink RX8 7 "EachEyeModel" "page" "[I", Cond.methodLink RX8 211 yX8_say, Cond.instanceMethod yX8_say, Cond.selects RX8 yX8_say yX8_say, Cond.initialized RX8, Cond.code yX8_say cX8_say 3 none, Cond.constantLong RX8 205 (31), Cond.methodLink RX8 152 yX8_fewOf, Cond.instanceMethod yX8_fewOf, Cond.selects RX8 yX8_fewOf yX8_fewOf, Cond.code yX8_fewOf cX8_fewOf 3 (some .int), Cond.methodLink RX8 149 yX8_fewSet, Cond.instanceMethod yX8_fewSet, Cond.selects RX8 yX8_fewSet yX8_fewSet, Cond.code yX8_fewSet cX8_fewSet 5 (some .int), Cond.methodLink RX8 143 yX8_ones]
def wsX8_digest_r2 : List Cond := [Cond.static yX8_ones, Cond.code yX8_ones cX8_ones 3 (some .int), Cond.methodLink RX8 146 yX8_mayBeRead, Cond.instanceMethod yX8_mayBeRead, Cond.selects RX8 yX8_mayBeRead yX8_mayBeRead, Cond.code yX8_mayBeRead cX8_mayBeRead 6 (some .boolean), Cond.methodLink RX8 139 yX8_isReadAt, Cond.instanceMethod yX8_isReadAt, Cond.selects RX8 yX8_isReadAt yX8_isReadAt, Cond.code yX8_isReadAt cX8_isReadAt 5 (some .boolean), Cond.fieldLink RX8 16 "EachEyeModel" "rows" "[I", Cond.methodLink RX8 106 yX8_seesOf, Cond.instanceMethod yX8_seesOf, Cond.selects RX8 yX8_seesOf yX8_seesOf, Cond.code yX8_seesOf cX8_seesOf 3 (some .int), Cond.methodLink RX8 97 yX8_seenBy, Cond.static yX8_seenBy, Cond.code yX8_seenBy cX8_seenBy 6 (some .int), Cond.methodLink RX8 217 yX8_sayPerson, Cond.instanceMethod yX8_sayPerson, Cond.selects RX8 yX8_sayPerson yX8_sayPerson, Cond.code yX8_sayPerson cX8_sayPerson 3 none, Cond.constantLong RX8 112 (10), Cond.constantLong RX8 114 (15)]
def wsX8_digest_r3 : List Cond := [Cond.methodLink RX8 46 yX8_in, Cond.static yX8_in, Cond.code yX8_in cX8_in 6 (some .boolean), Cond.methodLink RX8 127 yX8_tell, Cond.instanceMethod yX8_tell, Cond.selects RX8 yX8_tell yX8_tell, Cond.code yX8_tell cX8_tell 3 (some .int), Cond.constantLong RX8 110 (2), Cond.constantLong RX8 116 (20), Cond.constantLong RX8 118 (25), Cond.methodLink RX8 120 yX8_asTheyAre, Cond.instanceMethod yX8_asTheyAre, Cond.selects RX8 yX8_asTheyAre yX8_asTheyAre, Cond.code yX8_asTheyAre cX8_asTheyAre 4 (some .int), Cond.methodLink RX8 133 yX8_differOf, Cond.instanceMethod yX8_differOf, Cond.selects RX8 yX8_differOf yX8_differOf, Cond.code yX8_differOf cX8_differOf 4 (some .int), Cond.methodLink RX8 136 yX8_alikeOf, Cond.instanceMethod yX8_alikeOf, Cond.selects RX8 yX8_alikeOf yX8_alikeOf, Cond.code yX8_alikeOf cX8_alikeOf 5 (some .int), Cond.methodLink RX8 202 yX8_countOf, Cond.instanceMethod yX8_countOf]
def wsX8_digest_r4 : List Cond := [Cond.selects RX8 yX8_countOf yX8_countOf, Cond.code yX8_countOf cX8_countOf 2 (some .int), Cond.fieldLink RX8 80 "EachEyeModel" "layers" "I", Cond.fieldLink RX8 77 "EachEyeModel" "cards" "I", Cond.fieldLink RX8 83 "EachEyeModel" "signsRead" "I", Cond.fieldLink RX8 158 "EachEyeModel" "asked" "I", Cond.methodLink RX8 86 yX8_inkedCells, Cond.instanceMethod yX8_inkedCells, Cond.selects RX8 yX8_inkedCells yX8_inkedCells, Cond.code yX8_inkedCells cX8_inkedCells 3 (some .int), Cond.methodLink RX8 130 yX8_wordMany, Cond.instanceMethod yX8_wordMany, Cond.selects RX8 yX8_wordMany yX8_wordMany, Cond.code yX8_wordMany cX8_wordMany 3 (some .int)]
def wsX8_digest : List Cond := .code yX8_digest cX8_digest 2 (some .long) :: ((wsX8_digest_r1 ++ (wsX8_digest_r2 ++ (wsX8_digest_r3 ++ wsX8_digest_r4))) ++ wsX80)
def wsJ9_max_7cf53 : List Cond := .code yJ9_max_7cf53 cJ9_max_7cf53 2 (some .int) :: ([])
end
section
set_option maxRecDepth 20000 in
theorem ggX0_init_X4_init : GoodIn wsX0_init wsX4_init := goodIn_r _ [3, 4, 5, 6, 7, 8, 9, 10, 11, 12, 13, 14, 15, 16, 17, 18, 19, 20, 21, 22, 23, 24, 25, 26, 27, 28, 29, 30, 31, 32, 33, 34, 35, 36, 37, 38] (by decide +kernel) (by decide +kernel)
set_option maxRecDepth 20000 in
theorem gX0_init_X4_init_n3 : GoodIn wsX0_init (wsX4_init) := ggX0_init_X4_init
theorem dX0_init_0 : decode cX0_init 0 = .ok (.aload_n 0, 1) := by decide +kernel
theorem dX0_init_1 : decode cX0_init 1 = .ok (.invokespecial 3, 3) := by decide +kernel
theorem dX0_init_4 : decode cX0_init 4 = .ok (.return_, 1) := by decide +kernel
theorem dX0_kind_0 : decode cX0_kind 0 = .ok (.iconst 1, 1) := by decide +kernel
theorem dX0_kind_1 : decode cX0_kind 1 = .ok (.ireturn, 1) := by decide +kernel
theorem dX0_glimpse_0 : decode cX0_glimpse 0 = .ok (.iload_n 1, 1) := by decide +kernel
theorem dX0_glimpse_1 : decode cX0_glimpse 1 = .ok (.aload_n 0, 1) := by decide +kernel
theorem dX0_glimpse_2 : decode cX0_glimpse 2 = .ok (.getfield 9, 3) := by decide +kernel
theorem dX0_glimpse_5 : decode cX0_glimpse 5 = .ok (.aload_n 0, 1) := by decide +kernel
theorem dX0_glimpse_6 : decode cX0_glimpse 6 = .ok (.getfield 15, 3) := by decide +kernel
theorem dX0_glimpse_9 : decode cX0_glimpse 9 = .ok (.ixor, 1) := by decide +kernel
theorem dX0_glimpse_10 : decode cX0_glimpse 10 = .ok (.iand, 1) := by decide +kernel
theorem dX0_glimpse_11 : decode cX0_glimpse 11 = .ok (.ireturn, 1) := by decide +kernel
theorem dX1_init_0 : decode cX1_init 0 = .ok (.aload_n 0, 1) := by decide +kernel
theorem dX1_init_1 : decode cX1_init 1 = .ok (.invokespecial 3, 3) := by decide +kernel
theorem dX1_init_4 : decode cX1_init 4 = .ok (.aload_n 0, 1) := by decide +kernel
theorem dX1_init_5 : decode cX1_init 5 = .ok (.bipush 8, 2) := by decide +kernel
theorem dX1_init_7 : decode cX1_init 7 = .ok (.newarray .int, 2) := by decide +kernel
theorem dX1_init_9 : decode cX1_init 9 = .ok (.putfield 9, 3) := by decide +kernel
theorem dX1_init_12 : decode cX1_init 12 = .ok (.aload_n 0, 1) := by decide +kernel
theorem dX1_init_13 : decode cX1_init 13 = .ok (.bipush 8, 2) := by decide +kernel
theorem dX1_init_15 : decode cX1_init 15 = .ok (.newarray .int, 2) := by decide +kernel
theorem dX1_init_17 : decode cX1_init 17 = .ok (.putfield 15, 3) := by decide +kernel
theorem dX1_init_20 : decode cX1_init 20 = .ok (.aload_n 0, 1) := by decide +kernel
theorem dX1_init_21 : decode cX1_init 21 = .ok (.bipush 8, 2) := by decide +kernel
theorem dX1_init_23 : decode cX1_init 23 = .ok (.newarray .int, 2) := by decide +kernel
theorem dX1_init_25 : decode cX1_init 25 = .ok (.putfield 18, 3) := by decide +kernel
theorem dX1_init_28 : decode cX1_init 28 = .ok (.aload_n 0, 1) := by decide +kernel
theorem dX1_init_29 : decode cX1_init 29 = .ok (.bipush 8, 2) := by decide +kernel
theorem dX1_init_31 : decode cX1_init 31 = .ok (.newarray .int, 2) := by decide +kernel
theorem dX1_init_33 : decode cX1_init 33 = .ok (.putfield 21, 3) := by decide +kernel
theorem dX1_init_36 : decode cX1_init 36 = .ok (.return_, 1) := by decide +kernel
theorem dX1_put_0 : decode cX1_put 0 = .ok (.aload_n 0, 1) := by decide +kernel
theorem dX1_put_1 : decode cX1_put 1 = .ok (.getfield 24, 3) := by decide +kernel
theorem dX1_put_4 : decode cX1_put 4 = .ok (.bipush 8, 2) := by decide +kernel
theorem dX1_put_6 : decode cX1_put 6 = .ok (.if_icmp .ge 33, 3) := by decide +kernel
theorem dX1_put_9 : decode cX1_put 9 = .ok (.aload_n 0, 1) := by decide +kernel
theorem dX1_put_10 : decode cX1_put 10 = .ok (.getfield 9, 3) := by decide +kernel
theorem dX1_put_13 : decode cX1_put 13 = .ok (.aload_n 0, 1) := by decide +kernel
theorem dX1_put_14 : decode cX1_put 14 = .ok (.getfield 24, 3) := by decide +kernel
theorem dX1_put_17 : decode cX1_put 17 = .ok (.iload_n 1, 1) := by decide +kernel
theorem dX1_put_18 : decode cX1_put 18 = .ok (.iastore, 1) := by decide +kernel
theorem dX1_put_19 : decode cX1_put 19 = .ok (.aload_n 0, 1) := by decide +kernel
theorem dX1_put_20 : decode cX1_put 20 = .ok (.getfield 15, 3) := by decide +kernel
theorem dX1_put_23 : decode cX1_put 23 = .ok (.aload_n 0, 1) := by decide +kernel
theorem dX1_put_24 : decode cX1_put 24 = .ok (.getfield 24, 3) := by decide +kernel
theorem dX1_put_27 : decode cX1_put 27 = .ok (.iload_n 2, 1) := by decide +kernel
theorem dX1_put_28 : decode cX1_put 28 = .ok (.iastore, 1) := by decide +kernel
theorem dX1_put_29 : decode cX1_put 29 = .ok (.aload_n 0, 1) := by decide +kernel
theorem dX1_put_30 : decode cX1_put 30 = .ok (.dup, 1) := by decide +kernel
theorem dX1_put_31 : decode cX1_put 31 = .ok (.getfield 24, 3) := by decide +kernel
theorem dX1_put_34 : decode cX1_put 34 = .ok (.iconst 1, 1) := by decide +kernel
theorem dX1_put_35 : decode cX1_put 35 = .ok (.iadd, 1) := by decide +kernel
theorem dX1_put_36 : decode cX1_put 36 = .ok (.putfield 24, 3) := by decide +kernel
theorem dX1_put_39 : decode cX1_put 39 = .ok (.return_, 1) := by decide +kernel
theorem dX1_clear_0 : decode cX1_clear 0 = .ok (.aload_n 0, 1) := by decide +kernel
theorem dX1_clear_1 : decode cX1_clear 1 = .ok (.iconst 0, 1) := by decide +kernel
theorem dX1_clear_2 : decode cX1_clear 2 = .ok (.putfield 24, 3) := by decide +kernel
theorem dX1_clear_5 : decode cX1_clear 5 = .ok (.return_, 1) := by decide +kernel
set_option maxRecDepth 20000 in
theorem ggX1_fit_X0_glimpse : GoodIn wsX1_fit wsX0_glimpse := goodIn_r _ [10, 11, 12, 13, 14, 50, 51, 52, 53, 54, 55, 56, 57, 58, 59, 60, 61, 62, 63, 64, 65, 66, 67, 68, 69, 70, 71, 72, 73, 74, 75, 76, 77, 78, 79] (by decide +kernel) (by decide +kernel)
set_option maxRecDepth 20000 in
theorem gX1_fit_X0_glimpse_u28X0 : GoodIn wsX1_fit (va_wsO RX1 28 RX0 "EachEye$Person" ⟨"EachEye$Person", "glimpse", "(I)I"⟩ yX0_glimpse wsX0_glimpse) := goodIn_app (goodIn_of _ (by decide +kernel)) ggX1_fit_X0_glimpse
set_option maxRecDepth 20000 in
theorem ggX1_fit_X2_glimpse : GoodIn wsX1_fit wsX2_glimpse := goodIn_r _ [19, 20, 21, 22, 23, 50, 51, 52, 53, 54, 55, 56, 57, 58, 59, 60, 61, 62, 63, 64, 65, 66, 67, 68, 69, 70, 71, 72, 73, 74, 75, 76, 77, 78, 79] (by decide +kernel) (by decide +kernel)
set_option maxRecDepth 20000 in
theorem gX1_fit_X2_glimpse_u28X2 : GoodIn wsX1_fit (va_wsO RX1 28 RX2 "EachEye$Person" ⟨"EachEye$Person", "glimpse", "(I)I"⟩ yX2_glimpse wsX2_glimpse) := goodIn_app (goodIn_of _ (by decide +kernel)) ggX1_fit_X2_glimpse
set_option maxRecDepth 20000 in
theorem ggX1_fit_X4_glimpse : GoodIn wsX1_fit wsX4_glimpse := goodIn_r _ [15, 28, 29, 50, 51, 52, 53, 54, 55, 56, 57, 58, 59, 60, 61, 62, 63, 64, 65, 66, 67, 68, 69, 70, 71, 72, 73, 74, 75, 76, 77, 78, 79] (by decide +kernel) (by decide +kernel)
set_option maxRecDepth 20000 in
theorem gX1_fit_X4_glimpse : GoodIn wsX1_fit (wsV RX1 28 RX4 yX4_glimpse wsX4_glimpse) := goodIn_app (goodIn_of _ (by decide +kernel)) ggX1_fit_X4_glimpse
set_option maxRecDepth 20000 in
theorem ggX1_fit_X5_glimpse : GoodIn wsX1_fit wsX5_glimpse := goodIn_r _ [33, 34, 35, 50, 51, 52, 53, 54, 55, 56, 57, 58, 59, 60, 61, 62, 63, 64, 65, 66, 67, 68, 69, 70, 71, 72, 73, 74, 75, 76, 77, 78, 79] (by decide +kernel) (by decide +kernel)
set_option maxRecDepth 20000 in
theorem gX1_fit_X5_glimpse_u28X5 : GoodIn wsX1_fit (va_wsO RX1 28 RX5 "EachEye$Person" ⟨"EachEye$Person", "glimpse", "(I)I"⟩ yX5_glimpse wsX5_glimpse) := goodIn_app (goodIn_of _ (by decide +kernel)) ggX1_fit_X5_glimpse
set_option maxRecDepth 20000 in
theorem ggX1_fit_X6_glimpse : GoodIn wsX1_fit wsX6_glimpse := goodIn_r _ [39, 40, 41, 42, 43, 50, 51, 52, 53, 54, 55, 56, 57, 58, 59, 60, 61, 62, 63, 64, 65, 66, 67, 68, 69, 70, 71, 72, 73, 74, 75, 76, 77, 78, 79] (by decide +kernel) (by decide +kernel)
set_option maxRecDepth 20000 in
theorem gX1_fit_X6_glimpse_u28X6 : GoodIn wsX1_fit (va_wsO RX1 28 RX6 "EachEye$Person" ⟨"EachEye$Person", "glimpse", "(I)I"⟩ yX6_glimpse wsX6_glimpse) := goodIn_app (goodIn_of _ (by decide +kernel)) ggX1_fit_X6_glimpse
theorem dX1_fit_0 : decode cX1_fit 0 = .ok (.iconst 0, 1) := by decide +kernel
theorem dX1_fit_1 : decode cX1_fit 1 = .ok (.istore_n 2, 1) := by decide +kernel
theorem dX1_fit_2 : decode cX1_fit 2 = .ok (.iload_n 2, 1) := by decide +kernel
theorem dX1_fit_3 : decode cX1_fit 3 = .ok (.aload_n 0, 1) := by decide +kernel
theorem dX1_fit_4 : decode cX1_fit 4 = .ok (.getfield 24, 3) := by decide +kernel
theorem dX1_fit_7 : decode cX1_fit 7 = .ok (.if_icmp .ge 30, 3) := by decide +kernel
theorem dX1_fit_10 : decode cX1_fit 10 = .ok (.aload_n 1, 1) := by decide +kernel
theorem dX1_fit_11 : decode cX1_fit 11 = .ok (.aload_n 0, 1) := by decide +kernel
theorem dX1_fit_12 : decode cX1_fit 12 = .ok (.getfield 9, 3) := by decide +kernel
theorem dX1_fit_15 : decode cX1_fit 15 = .ok (.iload_n 2, 1) := by decide +kernel
theorem dX1_fit_16 : decode cX1_fit 16 = .ok (.iaload, 1) := by decide +kernel
theorem dX1_fit_17 : decode cX1_fit 17 = .ok (.invokevirtual 28, 3) := by decide +kernel
theorem dX1_fit_20 : decode cX1_fit 20 = .ok (.aload_n 0, 1) := by decide +kernel
theorem dX1_fit_21 : decode cX1_fit 21 = .ok (.getfield 15, 3) := by decide +kernel
theorem dX1_fit_24 : decode cX1_fit 24 = .ok (.iload_n 2, 1) := by decide +kernel
theorem dX1_fit_25 : decode cX1_fit 25 = .ok (.iaload, 1) := by decide +kernel
theorem dX1_fit_26 : decode cX1_fit 26 = .ok (.if_icmp .eq 5, 3) := by decide +kernel
theorem dX1_fit_29 : decode cX1_fit 29 = .ok (.iconst 0, 1) := by decide +kernel
theorem dX1_fit_30 : decode cX1_fit 30 = .ok (.ireturn, 1) := by decide +kernel
theorem dX1_fit_31 : decode cX1_fit 31 = .ok (.iinc 2 1, 3) := by decide +kernel
theorem dX1_fit_34 : decode cX1_fit 34 = .ok (.goto (-32), 3) := by decide +kernel
theorem dX1_fit_37 : decode cX1_fit 37 = .ok (.iconst 1, 1) := by decide +kernel
theorem dX1_fit_38 : decode cX1_fit 38 = .ok (.ireturn, 1) := by decide +kernel
theorem dX1_keep_0 : decode cX1_keep 0 = .ok (.aload_n 0, 1) := by decide +kernel
theorem dX1_keep_1 : decode cX1_keep 1 = .ok (.getfield 9, 3) := by decide +kernel
theorem dX1_keep_4 : decode cX1_keep 4 = .ok (.iconst 0, 1) := by decide +kernel
theorem dX1_keep_5 : decode cX1_keep 5 = .ok (.aload_n 0, 1) := by decide +kernel
theorem dX1_keep_6 : decode cX1_keep 6 = .ok (.getfield 18, 3) := by decide +kernel
theorem dX1_keep_9 : decode cX1_keep 9 = .ok (.iconst 0, 1) := by decide +kernel
theorem dX1_keep_10 : decode cX1_keep 10 = .ok (.bipush 8, 2) := by decide +kernel
theorem dX1_keep_12 : decode cX1_keep 12 = .ok (.invokestatic 34, 3) := by decide +kernel
theorem dX1_keep_15 : decode cX1_keep 15 = .ok (.aload_n 0, 1) := by decide +kernel
theorem dX1_keep_16 : decode cX1_keep 16 = .ok (.getfield 15, 3) := by decide +kernel
theorem dX1_keep_19 : decode cX1_keep 19 = .ok (.iconst 0, 1) := by decide +kernel
theorem dX1_keep_20 : decode cX1_keep 20 = .ok (.aload_n 0, 1) := by decide +kernel
theorem dX1_keep_21 : decode cX1_keep 21 = .ok (.getfield 21, 3) := by decide +kernel
theorem dX1_keep_24 : decode cX1_keep 24 = .ok (.iconst 0, 1) := by decide +kernel
theorem dX1_keep_25 : decode cX1_keep 25 = .ok (.bipush 8, 2) := by decide +kernel
theorem dX1_keep_27 : decode cX1_keep 27 = .ok (.invokestatic 34, 3) := by decide +kernel
theorem dX1_keep_30 : decode cX1_keep 30 = .ok (.aload_n 0, 1) := by decide +kernel
theorem dX1_keep_31 : decode cX1_keep 31 = .ok (.aload_n 0, 1) := by decide +kernel
theorem dX1_keep_32 : decode cX1_keep 32 = .ok (.getfield 24, 3) := by decide +kernel
theorem dX1_keep_35 : decode cX1_keep 35 = .ok (.putfield 40, 3) := by decide +kernel
theorem dX1_keep_38 : decode cX1_keep 38 = .ok (.return_, 1) := by decide +kernel
theorem dX1_goBack_0 : decode cX1_goBack 0 = .ok (.aload_n 0, 1) := by decide +kernel
theorem dX1_goBack_1 : decode cX1_goBack 1 = .ok (.getfield 18, 3) := by decide +kernel
theorem dX1_goBack_4 : decode cX1_goBack 4 = .ok (.iconst 0, 1) := by decide +kernel
theorem dX1_goBack_5 : decode cX1_goBack 5 = .ok (.aload_n 0, 1) := by decide +kernel
theorem dX1_goBack_6 : decode cX1_goBack 6 = .ok (.getfield 9, 3) := by decide +kernel
theorem dX1_goBack_9 : decode cX1_goBack 9 = .ok (.iconst 0, 1) := by decide +kernel
theorem dX1_goBack_10 : decode cX1_goBack 10 = .ok (.bipush 8, 2) := by decide +kernel
theorem dX1_goBack_12 : decode cX1_goBack 12 = .ok (.invokestatic 34, 3) := by decide +kernel
theorem dX1_goBack_15 : decode cX1_goBack 15 = .ok (.aload_n 0, 1) := by decide +kernel
theorem dX1_goBack_16 : decode cX1_goBack 16 = .ok (.getfield 21, 3) := by decide +kernel
theorem dX1_goBack_19 : decode cX1_goBack 19 = .ok (.iconst 0, 1) := by decide +kernel
theorem dX1_goBack_20 : decode cX1_goBack 20 = .ok (.aload_n 0, 1) := by decide +kernel
theorem dX1_goBack_21 : decode cX1_goBack 21 = .ok (.getfield 15, 3) := by decide +kernel
theorem dX1_goBack_24 : decode cX1_goBack 24 = .ok (.iconst 0, 1) := by decide +kernel
theorem dX1_goBack_25 : decode cX1_goBack 25 = .ok (.bipush 8, 2) := by decide +kernel
theorem dX1_goBack_27 : decode cX1_goBack 27 = .ok (.invokestatic 34, 3) := by decide +kernel
theorem dX1_goBack_30 : decode cX1_goBack 30 = .ok (.aload_n 0, 1) := by decide +kernel
theorem dX1_goBack_31 : decode cX1_goBack 31 = .ok (.aload_n 0, 1) := by decide +kernel
theorem dX1_goBack_32 : decode cX1_goBack 32 = .ok (.getfield 40, 3) := by decide +kernel
theorem dX1_goBack_35 : decode cX1_goBack 35 = .ok (.putfield 24, 3) := by decide +kernel
theorem dX1_goBack_38 : decode cX1_goBack 38 = .ok (.return_, 1) := by decide +kernel
set_option maxRecDepth 20000 in
theorem ggX2_init_X4_init : GoodIn wsX2_init wsX4_init := goodIn_r _ [3, 4, 5, 6, 7, 8, 9, 10, 11, 12, 13, 14, 15, 16, 17, 18, 19, 20, 21, 22, 23, 24, 25, 26, 27, 28, 29, 30, 31, 32, 33, 34, 35, 36, 37, 38] (by decide +kernel) (by decide +kernel)
set_option maxRecDepth 20000 in
theorem gX2_init_X4_init_n3 : GoodIn wsX2_init (wsX4_init) := ggX2_init_X4_init
theorem dX2_init_0 : decode cX2_init 0 = .ok (.aload_n 0, 1) := by decide +kernel
theorem dX2_init_1 : decode cX2_init 1 = .ok (.invokespecial 3, 3) := by decide +kernel
theorem dX2_init_4 : decode cX2_init 4 = .ok (.return_, 1) := by decide +kernel
theorem dX2_kind_0 : decode cX2_kind 0 = .ok (.iconst 2, 1) := by decide +kernel
theorem dX2_kind_1 : decode cX2_kind 1 = .ok (.ireturn, 1) := by decide +kernel
theorem dX2_glimpse_0 : decode cX2_glimpse 0 = .ok (.iload_n 1, 1) := by decide +kernel
theorem dX2_glimpse_1 : decode cX2_glimpse 1 = .ok (.aload_n 0, 1) := by decide +kernel
theorem dX2_glimpse_2 : decode cX2_glimpse 2 = .ok (.getfield 9, 3) := by decide +kernel
theorem dX2_glimpse_5 : decode cX2_glimpse 5 = .ok (.iand, 1) := by decide +kernel
theorem dX2_glimpse_6 : decode cX2_glimpse 6 = .ok (.aload_n 0, 1) := by decide +kernel
theorem dX2_glimpse_7 : decode cX2_glimpse 7 = .ok (.getfield 15, 3) := by decide +kernel
theorem dX2_glimpse_10 : decode cX2_glimpse 10 = .ok (.iand, 1) := by decide +kernel
theorem dX2_glimpse_11 : decode cX2_glimpse 11 = .ok (.ireturn, 1) := by decide +kernel
theorem dX3_init_0 : decode cX3_init 0 = .ok (.aload_n 0, 1) := by decide +kernel
theorem dX3_init_1 : decode cX3_init 1 = .ok (.invokespecial 3, 3) := by decide +kernel
theorem dX3_init_4 : decode cX3_init 4 = .ok (.aload_n 0, 1) := by decide +kernel
theorem dX3_init_5 : decode cX3_init 5 = .ok (.bipush 10, 2) := by decide +kernel
theorem dX3_init_7 : decode cX3_init 7 = .ok (.newarray .int, 2) := by decide +kernel
theorem dX3_init_9 : decode cX3_init 9 = .ok (.putfield 9, 3) := by decide +kernel
theorem dX3_init_12 : decode cX3_init 12 = .ok (.return_, 1) := by decide +kernel
theorem dX3_put_0 : decode cX3_put 0 = .ok (.aload_n 0, 1) := by decide +kernel
theorem dX3_put_1 : decode cX3_put 1 = .ok (.getfield 15, 3) := by decide +kernel
theorem dX3_put_4 : decode cX3_put 4 = .ok (.bipush 10, 2) := by decide +kernel
theorem dX3_put_6 : decode cX3_put 6 = .ok (.if_icmp .ge 23, 3) := by decide +kernel
theorem dX3_put_9 : decode cX3_put 9 = .ok (.aload_n 0, 1) := by decide +kernel
theorem dX3_put_10 : decode cX3_put 10 = .ok (.getfield 9, 3) := by decide +kernel
theorem dX3_put_13 : decode cX3_put 13 = .ok (.aload_n 0, 1) := by decide +kernel
theorem dX3_put_14 : decode cX3_put 14 = .ok (.getfield 15, 3) := by decide +kernel
theorem dX3_put_17 : decode cX3_put 17 = .ok (.iload_n 1, 1) := by decide +kernel
theorem dX3_put_18 : decode cX3_put 18 = .ok (.iastore, 1) := by decide +kernel
theorem dX3_put_19 : decode cX3_put 19 = .ok (.aload_n 0, 1) := by decide +kernel
theorem dX3_put_20 : decode cX3_put 20 = .ok (.dup, 1) := by decide +kernel
theorem dX3_put_21 : decode cX3_put 21 = .ok (.getfield 15, 3) := by decide +kernel
theorem dX3_put_24 : decode cX3_put 24 = .ok (.iconst 1, 1) := by decide +kernel
theorem dX3_put_25 : decode cX3_put 25 = .ok (.iadd, 1) := by decide +kernel
theorem dX3_put_26 : decode cX3_put 26 = .ok (.putfield 15, 3) := by decide +kernel
theorem dX3_put_29 : decode cX3_put 29 = .ok (.return_, 1) := by decide +kernel
theorem dX3_empty_0 : decode cX3_empty 0 = .ok (.aload_n 0, 1) := by decide +kernel
theorem dX3_empty_1 : decode cX3_empty 1 = .ok (.iconst 0, 1) := by decide +kernel
theorem dX3_empty_2 : decode cX3_empty 2 = .ok (.putfield 15, 3) := by decide +kernel
theorem dX3_empty_5 : decode cX3_empty 5 = .ok (.return_, 1) := by decide +kernel
set_option maxRecDepth 20000 in
theorem ggX3_soundLetters_X7_isHue : GoodIn wsX3_soundLetters wsX7_isHue := goodIn_r _ [5] (by decide +kernel) (by decide +kernel)
set_option maxRecDepth 20000 in
theorem gX3_soundLetters_X7_isHue_n19 : GoodIn wsX3_soundLetters (wsX7_isHue) := ggX3_soundLetters_X7_isHue
theorem dX3_soundLetters_0 : decode cX3_soundLetters 0 = .ok (.iconst 0, 1) := by decide +kernel
theorem dX3_soundLetters_1 : decode cX3_soundLetters 1 = .ok (.istore_n 1, 1) := by decide +kernel
theorem dX3_soundLetters_2 : decode cX3_soundLetters 2 = .ok (.iload_n 1, 1) := by decide +kernel
theorem dX3_soundLetters_3 : decode cX3_soundLetters 3 = .ok (.aload_n 0, 1) := by decide +kernel
theorem dX3_soundLetters_4 : decode cX3_soundLetters 4 = .ok (.getfield 15, 3) := by decide +kernel
theorem dX3_soundLetters_7 : decode cX3_soundLetters 7 = .ok (.if_icmp .ge 30, 3) := by decide +kernel
theorem dX3_soundLetters_10 : decode cX3_soundLetters 10 = .ok (.iload_n 1, 1) := by decide +kernel
theorem dX3_soundLetters_11 : decode cX3_soundLetters 11 = .ok (.bipush 6, 2) := by decide +kernel
theorem dX3_soundLetters_13 : decode cX3_soundLetters 13 = .ok (.if_icmp .ge 24, 3) := by decide +kernel
theorem dX3_soundLetters_16 : decode cX3_soundLetters 16 = .ok (.aload_n 0, 1) := by decide +kernel
theorem dX3_soundLetters_17 : decode cX3_soundLetters 17 = .ok (.getfield 9, 3) := by decide +kernel
theorem dX3_soundLetters_20 : decode cX3_soundLetters 20 = .ok (.iload_n 1, 1) := by decide +kernel
theorem dX3_soundLetters_21 : decode cX3_soundLetters 21 = .ok (.iaload, 1) := by decide +kernel
theorem dX3_soundLetters_22 : decode cX3_soundLetters 22 = .ok (.bipush 48, 2) := by decide +kernel
theorem dX3_soundLetters_24 : decode cX3_soundLetters 24 = .ok (.isub, 1) := by decide +kernel
theorem dX3_soundLetters_25 : decode cX3_soundLetters 25 = .ok (.invokestatic 19, 3) := by decide +kernel
theorem dX3_soundLetters_28 : decode cX3_soundLetters 28 = .ok (.ifCond .eq 9, 3) := by decide +kernel
theorem dX3_soundLetters_31 : decode cX3_soundLetters 31 = .ok (.iinc 1 1, 3) := by decide +kernel
theorem dX3_soundLetters_34 : decode cX3_soundLetters 34 = .ok (.goto (-32), 3) := by decide +kernel
theorem dX3_soundLetters_37 : decode cX3_soundLetters 37 = .ok (.iload_n 1, 1) := by decide +kernel
theorem dX3_soundLetters_38 : decode cX3_soundLetters 38 = .ok (.ireturn, 1) := by decide +kernel
set_option maxRecDepth 20000 in
theorem ggX3_asText_X3_soundLetters : GoodIn wsX3_asText wsX3_soundLetters := goodIn_r _ [7, 1, 2, 8, 9, 10, 13, 14] (by decide +kernel) (by decide +kernel)
set_option maxRecDepth 20000 in
theorem gX3_asText_X3_soundLetters : GoodIn wsX3_asText (wsV RX3 23 RX3 yX3_soundLetters wsX3_soundLetters) := goodIn_app (goodIn_of _ (by decide +kernel)) ggX3_asText_X3_soundLetters
set_option maxRecDepth 20000 in
theorem ggX3_asText_X7_withHue : GoodIn wsX3_asText wsX7_withHue := goodIn_r _ [12] (by decide +kernel) (by decide +kernel)
set_option maxRecDepth 20000 in
theorem gX3_asText_X7_withHue_n27 : GoodIn wsX3_asText (wsX7_withHue) := ggX3_asText_X7_withHue
theorem dX3_asText_0 : decode cX3_asText 0 = .ok (.aload_n 0, 1) := by decide +kernel
theorem dX3_asText_1 : decode cX3_asText 1 = .ok (.getfield 15, 3) := by decide +kernel
theorem dX3_asText_4 : decode cX3_asText 4 = .ok (.bipush 6, 2) := by decide +kernel
theorem dX3_asText_6 : decode cX3_asText 6 = .ok (.if_icmp .ne 12, 3) := by decide +kernel
theorem dX3_asText_9 : decode cX3_asText 9 = .ok (.aload_n 0, 1) := by decide +kernel
theorem dX3_asText_10 : decode cX3_asText 10 = .ok (.invokevirtual 23, 3) := by decide +kernel
theorem dX3_asText_13 : decode cX3_asText 13 = .ok (.bipush 6, 2) := by decide +kernel
theorem dX3_asText_15 : decode cX3_asText 15 = .ok (.if_icmp .eq 5, 3) := by decide +kernel
theorem dX3_asText_18 : decode cX3_asText 18 = .ok (.iconst (-1), 1) := by decide +kernel
theorem dX3_asText_19 : decode cX3_asText 19 = .ok (.ireturn, 1) := by decide +kernel
theorem dX3_asText_20 : decode cX3_asText 20 = .ok (.iconst 0, 1) := by decide +kernel
theorem dX3_asText_21 : decode cX3_asText 21 = .ok (.istore_n 1, 1) := by decide +kernel
theorem dX3_asText_22 : decode cX3_asText 22 = .ok (.iconst 0, 1) := by decide +kernel
theorem dX3_asText_23 : decode cX3_asText 23 = .ok (.istore_n 2, 1) := by decide +kernel
theorem dX3_asText_24 : decode cX3_asText 24 = .ok (.iload_n 2, 1) := by decide +kernel
theorem dX3_asText_25 : decode cX3_asText 25 = .ok (.bipush 6, 2) := by decide +kernel
theorem dX3_asText_27 : decode cX3_asText 27 = .ok (.if_icmp .ge 24, 3) := by decide +kernel
theorem dX3_asText_30 : decode cX3_asText 30 = .ok (.iload_n 1, 1) := by decide +kernel
theorem dX3_asText_31 : decode cX3_asText 31 = .ok (.iload_n 2, 1) := by decide +kernel
theorem dX3_asText_32 : decode cX3_asText 32 = .ok (.aload_n 0, 1) := by decide +kernel
theorem dX3_asText_33 : decode cX3_asText 33 = .ok (.getfield 9, 3) := by decide +kernel
theorem dX3_asText_36 : decode cX3_asText 36 = .ok (.iload_n 2, 1) := by decide +kernel
theorem dX3_asText_37 : decode cX3_asText 37 = .ok (.iaload, 1) := by decide +kernel
theorem dX3_asText_38 : decode cX3_asText 38 = .ok (.bipush 48, 2) := by decide +kernel
theorem dX3_asText_40 : decode cX3_asText 40 = .ok (.isub, 1) := by decide +kernel
theorem dX3_asText_41 : decode cX3_asText 41 = .ok (.invokestatic 27, 3) := by decide +kernel
theorem dX3_asText_44 : decode cX3_asText 44 = .ok (.istore_n 1, 1) := by decide +kernel
theorem dX3_asText_45 : decode cX3_asText 45 = .ok (.iinc 2 1, 3) := by decide +kernel
theorem dX3_asText_48 : decode cX3_asText 48 = .ok (.goto (-24), 3) := by decide +kernel
theorem dX3_asText_51 : decode cX3_asText 51 = .ok (.iload_n 1, 1) := by decide +kernel
theorem dX3_asText_52 : decode cX3_asText 52 = .ok (.ireturn, 1) := by decide +kernel
theorem dX4_init_0 : decode cX4_init 0 = .ok (.aload_n 0, 1) := by decide +kernel
theorem dX4_init_1 : decode cX4_init 1 = .ok (.invokespecial 3, 3) := by decide +kernel
theorem dX4_init_4 : decode cX4_init 4 = .ok (.aload_n 0, 1) := by decide +kernel
theorem dX4_init_5 : decode cX4_init 5 = .ok (.iconst (-1), 1) := by decide +kernel
theorem dX4_init_6 : decode cX4_init 6 = .ok (.putfield 9, 3) := by decide +kernel
theorem dX4_init_9 : decode cX4_init 9 = .ok (.aload_n 0, 1) := by decide +kernel
theorem dX4_init_10 : decode cX4_init 10 = .ok (.iconst (-1), 1) := by decide +kernel
theorem dX4_init_11 : decode cX4_init 11 = .ok (.putfield 15, 3) := by decide +kernel
theorem dX4_init_14 : decode cX4_init 14 = .ok (.return_, 1) := by decide +kernel
theorem dX4_kind_0 : decode cX4_kind 0 = .ok (.iconst 0, 1) := by decide +kernel
theorem dX4_kind_1 : decode cX4_kind 1 = .ok (.ireturn, 1) := by decide +kernel
theorem dX4_glimpse_0 : decode cX4_glimpse 0 = .ok (.iload_n 1, 1) := by decide +kernel
theorem dX4_glimpse_1 : decode cX4_glimpse 1 = .ok (.aload_n 0, 1) := by decide +kernel
theorem dX4_glimpse_2 : decode cX4_glimpse 2 = .ok (.getfield 18, 3) := by decide +kernel
theorem dX4_glimpse_5 : decode cX4_glimpse 5 = .ok (.aload_n 0, 1) := by decide +kernel
theorem dX4_glimpse_6 : decode cX4_glimpse 6 = .ok (.getfield 21, 3) := by decide +kernel
theorem dX4_glimpse_9 : decode cX4_glimpse 9 = .ok (.ior, 1) := by decide +kernel
theorem dX4_glimpse_10 : decode cX4_glimpse 10 = .ok (.iand, 1) := by decide +kernel
theorem dX4_glimpse_11 : decode cX4_glimpse 11 = .ok (.ireturn, 1) := by decide +kernel
set_option maxRecDepth 20000 in
theorem ggX4_reading_X7_hueAt : GoodIn wsX4_reading wsX7_hueAt := goodIn_r _ [3] (by decide +kernel) (by decide +kernel)
set_option maxRecDepth 20000 in
theorem gX4_reading_X7_hueAt_n24 : GoodIn wsX4_reading (wsX7_hueAt) := ggX4_reading_X7_hueAt
set_option maxRecDepth 20000 in
theorem ggX4_reading_X0_glimpse : GoodIn wsX4_reading wsX0_glimpse := goodIn_r _ [10, 11, 12, 13, 14, 46, 47, 48, 49, 50, 51, 52, 53, 54, 55, 56, 57, 58, 59, 60, 61, 62, 63, 64, 65, 66, 67, 68, 69, 70, 71, 72, 73, 74, 75] (by decide +kernel) (by decide +kernel)
set_option maxRecDepth 20000 in
theorem gX4_reading_X0_glimpse_u28X0 : GoodIn wsX4_reading (va_wsO RX4 28 RX0 "EachEye$Person" ⟨"EachEye$Person", "glimpse", "(I)I"⟩ yX0_glimpse wsX0_glimpse) := goodIn_app (goodIn_of _ (by decide +kernel)) ggX4_reading_X0_glimpse
set_option maxRecDepth 20000 in
theorem ggX4_reading_X2_glimpse : GoodIn wsX4_reading wsX2_glimpse := goodIn_r _ [19, 20, 21, 22, 23, 46, 47, 48, 49, 50, 51, 52, 53, 54, 55, 56, 57, 58, 59, 60, 61, 62, 63, 64, 65, 66, 67, 68, 69, 70, 71, 72, 73, 74, 75] (by decide +kernel) (by decide +kernel)
set_option maxRecDepth 20000 in
theorem gX4_reading_X2_glimpse_u28X2 : GoodIn wsX4_reading (va_wsO RX4 28 RX2 "EachEye$Person" ⟨"EachEye$Person", "glimpse", "(I)I"⟩ yX2_glimpse wsX2_glimpse) := goodIn_app (goodIn_of _ (by decide +kernel)) ggX4_reading_X2_glimpse
set_option maxRecDepth 20000 in
theorem ggX4_reading_X4_glimpse : GoodIn wsX4_reading wsX4_glimpse := goodIn_r _ [15, 28, 29, 46, 47, 48, 49, 50, 51, 52, 53, 54, 55, 56, 57, 58, 59, 60, 61, 62, 63, 64, 65, 66, 67, 68, 69, 70, 71, 72, 73, 74, 75] (by decide +kernel) (by decide +kernel)
set_option maxRecDepth 20000 in
theorem gX4_reading_X4_glimpse : GoodIn wsX4_reading (wsV RX4 28 RX4 yX4_glimpse wsX4_glimpse) := goodIn_app (goodIn_of _ (by decide +kernel)) ggX4_reading_X4_glimpse
set_option maxRecDepth 20000 in
theorem ggX4_reading_X5_glimpse : GoodIn wsX4_reading wsX5_glimpse := goodIn_r _ [33, 34, 35, 46, 47, 48, 49, 50, 51, 52, 53, 54, 55, 56, 57, 58, 59, 60, 61, 62, 63, 64, 65, 66, 67, 68, 69, 70, 71, 72, 73, 74, 75] (by decide +kernel) (by decide +kernel)
set_option maxRecDepth 20000 in
theorem gX4_reading_X5_glimpse_u28X5 : GoodIn wsX4_reading (va_wsO RX4 28 RX5 "EachEye$Person" ⟨"EachEye$Person", "glimpse", "(I)I"⟩ yX5_glimpse wsX5_glimpse) := goodIn_app (goodIn_of _ (by decide +kernel)) ggX4_reading_X5_glimpse
set_option maxRecDepth 20000 in
theorem ggX4_reading_X6_glimpse : GoodIn wsX4_reading wsX6_glimpse := goodIn_r _ [39, 40, 41, 42, 43, 46, 47, 48, 49, 50, 51, 52, 53, 54, 55, 56, 57, 58, 59, 60, 61, 62, 63, 64, 65, 66, 67, 68, 69, 70, 71, 72, 73, 74, 75] (by decide +kernel) (by decide +kernel)
set_option maxRecDepth 20000 in
theorem gX4_reading_X6_glimpse_u28X6 : GoodIn wsX4_reading (va_wsO RX4 28 RX6 "EachEye$Person" ⟨"EachEye$Person", "glimpse", "(I)I"⟩ yX6_glimpse wsX6_glimpse) := goodIn_app (goodIn_of _ (by decide +kernel)) ggX4_reading_X6_glimpse
set_option maxRecDepth 20000 in
theorem ggX4_reading_X7_withHue : GoodIn wsX4_reading wsX7_withHue := goodIn_r _ [45] (by decide +kernel) (by decide +kernel)
set_option maxRecDepth 20000 in
theorem gX4_reading_X7_withHue_n32 : GoodIn wsX4_reading (wsX7_withHue) := ggX4_reading_X7_withHue
theorem dX4_reading_0 : decode cX4_reading 0 = .ok (.iconst 0, 1) := by decide +kernel
theorem dX4_reading_1 : decode cX4_reading 1 = .ok (.istore_n 2, 1) := by decide +kernel
theorem dX4_reading_2 : decode cX4_reading 2 = .ok (.iconst 0, 1) := by decide +kernel
theorem dX4_reading_3 : decode cX4_reading 3 = .ok (.istore_n 3, 1) := by decide +kernel
theorem dX4_reading_4 : decode cX4_reading 4 = .ok (.iload_n 3, 1) := by decide +kernel
theorem dX4_reading_5 : decode cX4_reading 5 = .ok (.bipush 6, 2) := by decide +kernel
theorem dX4_reading_7 : decode cX4_reading 7 = .ok (.if_icmp .ge 24, 3) := by decide +kernel
theorem dX4_reading_10 : decode cX4_reading 10 = .ok (.iload_n 2, 1) := by decide +kernel
theorem dX4_reading_11 : decode cX4_reading 11 = .ok (.iload_n 3, 1) := by decide +kernel
theorem dX4_reading_12 : decode cX4_reading 12 = .ok (.aload_n 0, 1) := by decide +kernel
theorem dX4_reading_13 : decode cX4_reading 13 = .ok (.iload_n 1, 1) := by decide +kernel
theorem dX4_reading_14 : decode cX4_reading 14 = .ok (.iload_n 3, 1) := by decide +kernel
theorem dX4_reading_15 : decode cX4_reading 15 = .ok (.invokestatic 24, 3) := by decide +kernel
theorem dX4_reading_18 : decode cX4_reading 18 = .ok (.invokevirtual 28, 3) := by decide +kernel
theorem dX4_reading_21 : decode cX4_reading 21 = .ok (.invokestatic 32, 3) := by decide +kernel
theorem dX4_reading_24 : decode cX4_reading 24 = .ok (.istore_n 2, 1) := by decide +kernel
theorem dX4_reading_25 : decode cX4_reading 25 = .ok (.iinc 3 1, 3) := by decide +kernel
theorem dX4_reading_28 : decode cX4_reading 28 = .ok (.goto (-24), 3) := by decide +kernel
theorem dX4_reading_31 : decode cX4_reading 31 = .ok (.iload_n 2, 1) := by decide +kernel
theorem dX4_reading_32 : decode cX4_reading 32 = .ok (.ireturn, 1) := by decide +kernel
set_option maxRecDepth 20000 in
theorem ggX4_truths_X0_glimpse : GoodIn wsX4_truths wsX0_glimpse := goodIn_r _ [7, 8, 9, 10, 11, 41, 42, 43, 44, 45, 46, 47, 48, 49, 50, 51, 52, 53, 54, 55, 56, 57, 58, 59, 60, 61, 62, 63, 64, 65, 66, 67, 68, 69, 70] (by decide +kernel) (by decide +kernel)
set_option maxRecDepth 20000 in
theorem gX4_truths_X0_glimpse_u28X0 : GoodIn wsX4_truths (va_wsO RX4 28 RX0 "EachEye$Person" ⟨"EachEye$Person", "glimpse", "(I)I"⟩ yX0_glimpse wsX0_glimpse) := goodIn_app (goodIn_of _ (by decide +kernel)) ggX4_truths_X0_glimpse
set_option maxRecDepth 20000 in
theorem ggX4_truths_X2_glimpse : GoodIn wsX4_truths wsX2_glimpse := goodIn_r _ [16, 17, 18, 19, 20, 41, 42, 43, 44, 45, 46, 47, 48, 49, 50, 51, 52, 53, 54, 55, 56, 57, 58, 59, 60, 61, 62, 63, 64, 65, 66, 67, 68, 69, 70] (by decide +kernel) (by decide +kernel)
set_option maxRecDepth 20000 in
theorem gX4_truths_X2_glimpse_u28X2 : GoodIn wsX4_truths (va_wsO RX4 28 RX2 "EachEye$Person" ⟨"EachEye$Person", "glimpse", "(I)I"⟩ yX2_glimpse wsX2_glimpse) := goodIn_app (goodIn_of _ (by decide +kernel)) ggX4_truths_X2_glimpse
set_option maxRecDepth 20000 in
theorem ggX4_truths_X4_glimpse : GoodIn wsX4_truths wsX4_glimpse := goodIn_r _ [12, 25, 26, 41, 42, 43, 44, 45, 46, 47, 48, 49, 50, 51, 52, 53, 54, 55, 56, 57, 58, 59, 60, 61, 62, 63, 64, 65, 66, 67, 68, 69, 70] (by decide +kernel) (by decide +kernel)
set_option maxRecDepth 20000 in
theorem gX4_truths_X4_glimpse : GoodIn wsX4_truths (wsV RX4 28 RX4 yX4_glimpse wsX4_glimpse) := goodIn_app (goodIn_of _ (by decide +kernel)) ggX4_truths_X4_glimpse
set_option maxRecDepth 20000 in
theorem ggX4_truths_X5_glimpse : GoodIn wsX4_truths wsX5_glimpse := goodIn_r _ [30, 31, 32, 41, 42, 43, 44, 45, 46, 47, 48, 49, 50, 51, 52, 53, 54, 55, 56, 57, 58, 59, 60, 61, 62, 63, 64, 65, 66, 67, 68, 69, 70] (by decide +kernel) (by decide +kernel)
set_option maxRecDepth 20000 in
theorem gX4_truths_X5_glimpse_u28X5 : GoodIn wsX4_truths (va_wsO RX4 28 RX5 "EachEye$Person" ⟨"EachEye$Person", "glimpse", "(I)I"⟩ yX5_glimpse wsX5_glimpse) := goodIn_app (goodIn_of _ (by decide +kernel)) ggX4_truths_X5_glimpse
set_option maxRecDepth 20000 in
theorem ggX4_truths_X6_glimpse : GoodIn wsX4_truths wsX6_glimpse := goodIn_r _ [36, 37, 38, 39, 40, 41, 42, 43, 44, 45, 46, 47, 48, 49, 50, 51, 52, 53, 54, 55, 56, 57, 58, 59, 60, 61, 62, 63, 64, 65, 66, 67, 68, 69, 70] (by decide +kernel) (by decide +kernel)
set_option maxRecDepth 20000 in
theorem gX4_truths_X6_glimpse_u28X6 : GoodIn wsX4_truths (va_wsO RX4 28 RX6 "EachEye$Person" ⟨"EachEye$Person", "glimpse", "(I)I"⟩ yX6_glimpse wsX6_glimpse) := goodIn_app (goodIn_of _ (by decide +kernel)) ggX4_truths_X6_glimpse
theorem dX4_truths_0 : decode cX4_truths 0 = .ok (.iconst 0, 1) := by decide +kernel
theorem dX4_truths_1 : decode cX4_truths 1 = .ok (.istore_n 1, 1) := by decide +kernel
theorem dX4_truths_2 : decode cX4_truths 2 = .ok (.iconst 0, 1) := by decide +kernel
theorem dX4_truths_3 : decode cX4_truths 3 = .ok (.istore_n 2, 1) := by decide +kernel
theorem dX4_truths_4 : decode cX4_truths 4 = .ok (.iload_n 2, 1) := by decide +kernel
theorem dX4_truths_5 : decode cX4_truths 5 = .ok (.bipush 8, 2) := by decide +kernel
theorem dX4_truths_7 : decode cX4_truths 7 = .ok (.if_icmp .ge 21, 3) := by decide +kernel
theorem dX4_truths_10 : decode cX4_truths 10 = .ok (.aload_n 0, 1) := by decide +kernel
theorem dX4_truths_11 : decode cX4_truths 11 = .ok (.iload_n 2, 1) := by decide +kernel
theorem dX4_truths_12 : decode cX4_truths 12 = .ok (.invokevirtual 28, 3) := by decide +kernel
theorem dX4_truths_15 : decode cX4_truths 15 = .ok (.iload_n 2, 1) := by decide +kernel
theorem dX4_truths_16 : decode cX4_truths 16 = .ok (.if_icmp .ne 6, 3) := by decide +kernel
theorem dX4_truths_19 : decode cX4_truths 19 = .ok (.iinc 1 1, 3) := by decide +kernel
theorem dX4_truths_22 : decode cX4_truths 22 = .ok (.iinc 2 1, 3) := by decide +kernel
theorem dX4_truths_25 : decode cX4_truths 25 = .ok (.goto (-21), 3) := by decide +kernel
theorem dX4_truths_28 : decode cX4_truths 28 = .ok (.iload_n 1, 1) := by decide +kernel
theorem dX4_truths_29 : decode cX4_truths 29 = .ok (.ireturn, 1) := by decide +kernel
theorem dX4_lose_0 : decode cX4_lose 0 = .ok (.iload_n 2, 1) := by decide +kernel
theorem dX4_lose_1 : decode cX4_lose 1 = .ok (.ifCond .lt 8, 3) := by decide +kernel
theorem dX4_lose_4 : decode cX4_lose 4 = .ok (.iload_n 2, 1) := by decide +kernel
theorem dX4_lose_5 : decode cX4_lose 5 = .ok (.iconst 3, 1) := by decide +kernel
theorem dX4_lose_6 : decode cX4_lose 6 = .ok (.if_icmp .lt 4, 3) := by decide +kernel
theorem dX4_lose_9 : decode cX4_lose 9 = .ok (.return_, 1) := by decide +kernel
theorem dX4_lose_10 : decode cX4_lose 10 = .ok (.iload_n 1, 1) := by decide +kernel
theorem dX4_lose_11 : decode cX4_lose 11 = .ok (.ifCond .ne 20, 3) := by decide +kernel
theorem dX4_lose_14 : decode cX4_lose 14 = .ok (.aload_n 0, 1) := by decide +kernel
theorem dX4_lose_15 : decode cX4_lose 15 = .ok (.dup, 1) := by decide +kernel
theorem dX4_lose_16 : decode cX4_lose 16 = .ok (.getfield 18, 3) := by decide +kernel
theorem dX4_lose_19 : decode cX4_lose 19 = .ok (.iconst 1, 1) := by decide +kernel
theorem dX4_lose_20 : decode cX4_lose 20 = .ok (.iload_n 2, 1) := by decide +kernel
theorem dX4_lose_21 : decode cX4_lose 21 = .ok (.ishl, 1) := by decide +kernel
theorem dX4_lose_22 : decode cX4_lose 22 = .ok (.iconst (-1), 1) := by decide +kernel
theorem dX4_lose_23 : decode cX4_lose 23 = .ok (.ixor, 1) := by decide +kernel
theorem dX4_lose_24 : decode cX4_lose 24 = .ok (.iand, 1) := by decide +kernel
theorem dX4_lose_25 : decode cX4_lose 25 = .ok (.putfield 18, 3) := by decide +kernel
theorem dX4_lose_28 : decode cX4_lose 28 = .ok (.goto 17, 3) := by decide +kernel
theorem dX4_lose_31 : decode cX4_lose 31 = .ok (.aload_n 0, 1) := by decide +kernel
theorem dX4_lose_32 : decode cX4_lose 32 = .ok (.dup, 1) := by decide +kernel
theorem dX4_lose_33 : decode cX4_lose 33 = .ok (.getfield 21, 3) := by decide +kernel
theorem dX4_lose_36 : decode cX4_lose 36 = .ok (.iconst 1, 1) := by decide +kernel
theorem dX4_lose_37 : decode cX4_lose 37 = .ok (.iload_n 2, 1) := by decide +kernel
theorem dX4_lose_38 : decode cX4_lose 38 = .ok (.ishl, 1) := by decide +kernel
theorem dX4_lose_39 : decode cX4_lose 39 = .ok (.iconst (-1), 1) := by decide +kernel
theorem dX4_lose_40 : decode cX4_lose 40 = .ok (.ixor, 1) := by decide +kernel
theorem dX4_lose_41 : decode cX4_lose 41 = .ok (.iand, 1) := by decide +kernel
theorem dX4_lose_42 : decode cX4_lose 42 = .ok (.putfield 21, 3) := by decide +kernel
theorem dX4_lose_45 : decode cX4_lose 45 = .ok (.return_, 1) := by decide +kernel
theorem dX4_keep_0 : decode cX4_keep 0 = .ok (.aload_n 0, 1) := by decide +kernel
theorem dX4_keep_1 : decode cX4_keep 1 = .ok (.aload_n 0, 1) := by decide +kernel
theorem dX4_keep_2 : decode cX4_keep 2 = .ok (.getfield 18, 3) := by decide +kernel
theorem dX4_keep_5 : decode cX4_keep 5 = .ok (.putfield 36, 3) := by decide +kernel
theorem dX4_keep_8 : decode cX4_keep 8 = .ok (.aload_n 0, 1) := by decide +kernel
theorem dX4_keep_9 : decode cX4_keep 9 = .ok (.aload_n 0, 1) := by decide +kernel
theorem dX4_keep_10 : decode cX4_keep 10 = .ok (.getfield 21, 3) := by decide +kernel
theorem dX4_keep_13 : decode cX4_keep 13 = .ok (.putfield 39, 3) := by decide +kernel
theorem dX4_keep_16 : decode cX4_keep 16 = .ok (.aload_n 0, 1) := by decide +kernel
theorem dX4_keep_17 : decode cX4_keep 17 = .ok (.aload_n 0, 1) := by decide +kernel
theorem dX4_keep_18 : decode cX4_keep 18 = .ok (.getfield 9, 3) := by decide +kernel
theorem dX4_keep_21 : decode cX4_keep 21 = .ok (.putfield 15, 3) := by decide +kernel
theorem dX4_keep_24 : decode cX4_keep 24 = .ok (.return_, 1) := by decide +kernel
theorem dX4_goBack_0 : decode cX4_goBack 0 = .ok (.aload_n 0, 1) := by decide +kernel
theorem dX4_goBack_1 : decode cX4_goBack 1 = .ok (.aload_n 0, 1) := by decide +kernel
theorem dX4_goBack_2 : decode cX4_goBack 2 = .ok (.getfield 36, 3) := by decide +kernel
theorem dX4_goBack_5 : decode cX4_goBack 5 = .ok (.putfield 18, 3) := by decide +kernel
theorem dX4_goBack_8 : decode cX4_goBack 8 = .ok (.aload_n 0, 1) := by decide +kernel
theorem dX4_goBack_9 : decode cX4_goBack 9 = .ok (.aload_n 0, 1) := by decide +kernel
theorem dX4_goBack_10 : decode cX4_goBack 10 = .ok (.getfield 39, 3) := by decide +kernel
theorem dX4_goBack_13 : decode cX4_goBack 13 = .ok (.putfield 21, 3) := by decide +kernel
theorem dX4_goBack_16 : decode cX4_goBack 16 = .ok (.aload_n 0, 1) := by decide +kernel
theorem dX4_goBack_17 : decode cX4_goBack 17 = .ok (.aload_n 0, 1) := by decide +kernel
theorem dX4_goBack_18 : decode cX4_goBack 18 = .ok (.getfield 15, 3) := by decide +kernel
theorem dX4_goBack_21 : decode cX4_goBack 21 = .ok (.putfield 9, 3) := by decide +kernel
theorem dX4_goBack_24 : decode cX4_goBack 24 = .ok (.return_, 1) := by decide +kernel
set_option maxRecDepth 20000 in
theorem ggX5_init_X6_init : GoodIn wsX5_init wsX6_init := goodIn_r _ [3, 4, 5, 6, 7, 8, 9, 10, 11, 12, 13, 14, 15, 16, 17, 18, 19, 20, 21, 22, 23, 24, 25, 26, 27, 28, 29, 30, 31, 32, 33, 34, 35, 36, 37, 38, 39, 40, 41] (by decide +kernel) (by decide +kernel)
set_option maxRecDepth 20000 in
theorem gX5_init_X6_init_n3 : GoodIn wsX5_init (wsX6_init) := ggX5_init_X6_init
theorem dX5_init_0 : decode cX5_init 0 = .ok (.aload_n 0, 1) := by decide +kernel
theorem dX5_init_1 : decode cX5_init 1 = .ok (.invokespecial 3, 3) := by decide +kernel
theorem dX5_init_4 : decode cX5_init 4 = .ok (.return_, 1) := by decide +kernel
theorem dX5_kind_0 : decode cX5_kind 0 = .ok (.iconst 4, 1) := by decide +kernel
theorem dX5_kind_1 : decode cX5_kind 1 = .ok (.ireturn, 1) := by decide +kernel
theorem dX5_glimpse_0 : decode cX5_glimpse 0 = .ok (.iload_n 1, 1) := by decide +kernel
theorem dX5_glimpse_1 : decode cX5_glimpse 1 = .ok (.aload_n 0, 1) := by decide +kernel
theorem dX5_glimpse_2 : decode cX5_glimpse 2 = .ok (.getfield 9, 3) := by decide +kernel
theorem dX5_glimpse_5 : decode cX5_glimpse 5 = .ok (.iand, 1) := by decide +kernel
theorem dX5_glimpse_6 : decode cX5_glimpse 6 = .ok (.ireturn, 1) := by decide +kernel
set_option maxRecDepth 20000 in
theorem ggX6_init_X4_init : GoodIn wsX6_init wsX4_init := goodIn_r _ [3, 4, 5, 6, 7, 8, 9, 10, 11, 12, 13, 14, 15, 16, 17, 18, 19, 20, 21, 22, 23, 24, 25, 26, 27, 28, 29, 30, 31, 32, 33, 34, 35, 36, 37, 38] (by decide +kernel) (by decide +kernel)
set_option maxRecDepth 20000 in
theorem gX6_init_X4_init_n3 : GoodIn wsX6_init (wsX4_init) := ggX6_init_X4_init
theorem dX6_init_0 : decode cX6_init 0 = .ok (.aload_n 0, 1) := by decide +kernel
theorem dX6_init_1 : decode cX6_init 1 = .ok (.invokespecial 3, 3) := by decide +kernel
theorem dX6_init_4 : decode cX6_init 4 = .ok (.return_, 1) := by decide +kernel
theorem dX6_kind_0 : decode cX6_kind 0 = .ok (.iconst 3, 1) := by decide +kernel
theorem dX6_kind_1 : decode cX6_kind 1 = .ok (.ireturn, 1) := by decide +kernel
theorem dX6_glimpse_0 : decode cX6_glimpse 0 = .ok (.iload_n 1, 1) := by decide +kernel
theorem dX6_glimpse_1 : decode cX6_glimpse 1 = .ok (.aload_n 0, 1) := by decide +kernel
theorem dX6_glimpse_2 : decode cX6_glimpse 2 = .ok (.getfield 9, 3) := by decide +kernel
theorem dX6_glimpse_5 : decode cX6_glimpse 5 = .ok (.iand, 1) := by decide +kernel
theorem dX6_glimpse_6 : decode cX6_glimpse 6 = .ok (.istore_n 2, 1) := by decide +kernel
theorem dX6_glimpse_7 : decode cX6_glimpse 7 = .ok (.iload_n 2, 1) := by decide +kernel
theorem dX6_glimpse_8 : decode cX6_glimpse 8 = .ok (.ifCond .eq 7, 3) := by decide +kernel
theorem dX6_glimpse_11 : decode cX6_glimpse 11 = .ok (.iload_n 2, 1) := by decide +kernel
theorem dX6_glimpse_12 : decode cX6_glimpse 12 = .ok (.goto 9, 3) := by decide +kernel
theorem dX6_glimpse_15 : decode cX6_glimpse 15 = .ok (.iload_n 1, 1) := by decide +kernel
theorem dX6_glimpse_16 : decode cX6_glimpse 16 = .ok (.aload_n 0, 1) := by decide +kernel
theorem dX6_glimpse_17 : decode cX6_glimpse 17 = .ok (.getfield 15, 3) := by decide +kernel
theorem dX6_glimpse_20 : decode cX6_glimpse 20 = .ok (.iand, 1) := by decide +kernel
theorem dX6_glimpse_21 : decode cX6_glimpse 21 = .ok (.ireturn, 1) := by decide +kernel
end
section
set_option maxRecDepth 20000 in
theorem ggX7_init_X3_init : GoodIn wsX7_init wsX3_init := goodIn_r _ [21, 22, 2, 3, 10, 23, 62, 63] (by decide +kernel) (by decide +kernel)
set_option maxRecDepth 20000 in
theorem gX7_init_X3_init_n11 : GoodIn wsX7_init (wsX3_init) := ggX7_init_X3_init
set_option maxRecDepth 20000 in
theorem ggX7_init_X1_init : GoodIn wsX7_init wsX1_init := goodIn_r _ [25, 26, 2, 3, 10, 27, 28, 29, 30, 80, 81, 82, 83, 84, 85] (by decide +kernel) (by decide +kernel)
set_option maxRecDepth 20000 in
theorem gX7_init_X1_init_n28 : GoodIn wsX7_init (wsX1_init) := ggX7_init_X1_init
set_option maxRecDepth 20000 in
theorem ggX7_init_X7_newPerson : GoodIn wsX7_init wsX7_newPerson := goodIn_r _ [34, 35, 36, 37, 38, 39, 40, 41, 42, 43, 44, 45, 46, 8, 47, 48, 49, 50, 51, 52, 53, 2, 3, 54, 55, 56, 57, 58, 59, 60, 61, 86, 87, 88, 89, 90, 91, 92, 93, 94, 95, 96, 97, 98, 99, 100, 101, 102, 103, 104, 105, 106, 107, 108, 109, 110, 111, 112, 113, 114, 115] (by decide +kernel) (by decide +kernel)
set_option maxRecDepth 20000 in
theorem gX7_init_X7_newPerson : GoodIn wsX7_init (va_wsS RX7 46 yX7_newPerson wsX7_newPerson) := goodIn_app (goodIn_of _ (by decide +kernel)) ggX7_init_X7_newPerson
theorem dX7_init_0 : decode cX7_init 0 = .ok (.aload_n 0, 1) := by decide +kernel
theorem dX7_init_1 : decode cX7_init 1 = .ok (.invokespecial 3, 3) := by decide +kernel
theorem dX7_init_4 : decode cX7_init 4 = .ok (.aload_n 0, 1) := by decide +kernel
theorem dX7_init_5 : decode cX7_init 5 = .ok (.new 9, 3) := by decide +kernel
theorem dX7_init_8 : decode cX7_init 8 = .ok (.dup, 1) := by decide +kernel
theorem dX7_init_9 : decode cX7_init 9 = .ok (.invokespecial 11, 3) := by decide +kernel
theorem dX7_init_12 : decode cX7_init 12 = .ok (.putfield 12, 3) := by decide +kernel
theorem dX7_init_15 : decode cX7_init 15 = .ok (.aload_n 0, 1) := by decide +kernel
theorem dX7_init_16 : decode cX7_init 16 = .ok (.iconst 4, 1) := by decide +kernel
theorem dX7_init_17 : decode cX7_init 17 = .ok (.anewarray 16, 3) := by decide +kernel
theorem dX7_init_20 : decode cX7_init 20 = .ok (.putfield 18, 3) := by decide +kernel
theorem dX7_init_23 : decode cX7_init 23 = .ok (.aload_n 0, 1) := by decide +kernel
theorem dX7_init_24 : decode cX7_init 24 = .ok (.iconst 5, 1) := by decide +kernel
theorem dX7_init_25 : decode cX7_init 25 = .ok (.newarray .int, 2) := by decide +kernel
theorem dX7_init_27 : decode cX7_init 27 = .ok (.putfield 22, 3) := by decide +kernel
theorem dX7_init_30 : decode cX7_init 30 = .ok (.aload_n 0, 1) := by decide +kernel
theorem dX7_init_31 : decode cX7_init 31 = .ok (.new 26, 3) := by decide +kernel
theorem dX7_init_34 : decode cX7_init 34 = .ok (.dup, 1) := by decide +kernel
theorem dX7_init_35 : decode cX7_init 35 = .ok (.invokespecial 28, 3) := by decide +kernel
theorem dX7_init_38 : decode cX7_init 38 = .ok (.putfield 29, 3) := by decide +kernel
theorem dX7_init_41 : decode cX7_init 41 = .ok (.aload_n 0, 1) := by decide +kernel
theorem dX7_init_42 : decode cX7_init 42 = .ok (.iconst 5, 1) := by decide +kernel
theorem dX7_init_43 : decode cX7_init 43 = .ok (.anewarray 16, 3) := by decide +kernel
theorem dX7_init_46 : decode cX7_init 46 = .ok (.putfield 33, 3) := by decide +kernel
theorem dX7_init_49 : decode cX7_init 49 = .ok (.aload_n 0, 1) := by decide +kernel
theorem dX7_init_50 : decode cX7_init 50 = .ok (.bipush 64, 2) := by decide +kernel
theorem dX7_init_52 : decode cX7_init 52 = .ok (.newarray .int, 2) := by decide +kernel
theorem dX7_init_54 : decode cX7_init 54 = .ok (.putfield 36, 3) := by decide +kernel
theorem dX7_init_57 : decode cX7_init 57 = .ok (.aload_n 0, 1) := by decide +kernel
theorem dX7_init_58 : decode cX7_init 58 = .ok (.iconst (-1), 1) := by decide +kernel
theorem dX7_init_59 : decode cX7_init 59 = .ok (.putfield 39, 3) := by decide +kernel
theorem dX7_init_62 : decode cX7_init 62 = .ok (.aload_n 0, 1) := by decide +kernel
theorem dX7_init_63 : decode cX7_init 63 = .ok (.iconst (-1), 1) := by decide +kernel
theorem dX7_init_64 : decode cX7_init 64 = .ok (.putfield 43, 3) := by decide +kernel
theorem dX7_init_67 : decode cX7_init 67 = .ok (.iconst 0, 1) := by decide +kernel
theorem dX7_init_68 : decode cX7_init 68 = .ok (.istore_n 1, 1) := by decide +kernel
theorem dX7_init_69 : decode cX7_init 69 = .ok (.iload_n 1, 1) := by decide +kernel
theorem dX7_init_70 : decode cX7_init 70 = .ok (.iconst 5, 1) := by decide +kernel
theorem dX7_init_71 : decode cX7_init 71 = .ok (.if_icmp .ge 19, 3) := by decide +kernel
theorem dX7_init_74 : decode cX7_init 74 = .ok (.aload_n 0, 1) := by decide +kernel
theorem dX7_init_75 : decode cX7_init 75 = .ok (.getfield 33, 3) := by decide +kernel
theorem dX7_init_78 : decode cX7_init 78 = .ok (.iload_n 1, 1) := by decide +kernel
theorem dX7_init_79 : decode cX7_init 79 = .ok (.iload_n 1, 1) := by decide +kernel
theorem dX7_init_80 : decode cX7_init 80 = .ok (.invokestatic 46, 3) := by decide +kernel
theorem dX7_init_83 : decode cX7_init 83 = .ok (.aastore, 1) := by decide +kernel
theorem dX7_init_84 : decode cX7_init 84 = .ok (.iinc 1 1, 3) := by decide +kernel
theorem dX7_init_87 : decode cX7_init 87 = .ok (.goto (-18), 3) := by decide +kernel
theorem dX7_init_90 : decode cX7_init 90 = .ok (.return_, 1) := by decide +kernel
set_option maxRecDepth 20000 in
theorem ggX7_letter_X3_put : GoodIn wsX7_letter wsX3_put := goodIn_r _ [6, 7, 8, 25, 26] (by decide +kernel) (by decide +kernel)
set_option maxRecDepth 20000 in
theorem gX7_letter_X3_put : GoodIn wsX7_letter (wsV RX7 53 RX3 yX3_put wsX3_put) := goodIn_app (goodIn_of _ (by decide +kernel)) ggX7_letter_X3_put
theorem dX7_letter_0 : decode cX7_letter 0 = .ok (.iload_n 1, 1) := by decide +kernel
theorem dX7_letter_1 : decode cX7_letter 1 = .ok (.iconst 1, 1) := by decide +kernel
theorem dX7_letter_2 : decode cX7_letter 2 = .ok (.if_icmp .lt 9, 3) := by decide +kernel
theorem dX7_letter_5 : decode cX7_letter 5 = .ok (.iload_n 1, 1) := by decide +kernel
theorem dX7_letter_6 : decode cX7_letter 6 = .ok (.bipush 126, 2) := by decide +kernel
theorem dX7_letter_8 : decode cX7_letter 8 = .ok (.if_icmp .le 6, 3) := by decide +kernel
theorem dX7_letter_11 : decode cX7_letter 11 = .ok (.bipush (-102), 2) := by decide +kernel
theorem dX7_letter_13 : decode cX7_letter 13 = .ok (.ireturn, 1) := by decide +kernel
theorem dX7_letter_14 : decode cX7_letter 14 = .ok (.aload_n 0, 1) := by decide +kernel
theorem dX7_letter_15 : decode cX7_letter 15 = .ok (.getfield 12, 3) := by decide +kernel
theorem dX7_letter_18 : decode cX7_letter 18 = .ok (.getfield 50, 3) := by decide +kernel
theorem dX7_letter_21 : decode cX7_letter 21 = .ok (.bipush 10, 2) := by decide +kernel
theorem dX7_letter_23 : decode cX7_letter 23 = .ok (.if_icmp .lt 6, 3) := by decide +kernel
theorem dX7_letter_26 : decode cX7_letter 26 = .ok (.bipush (-104), 2) := by decide +kernel
theorem dX7_letter_28 : decode cX7_letter 28 = .ok (.ireturn, 1) := by decide +kernel
theorem dX7_letter_29 : decode cX7_letter 29 = .ok (.aload_n 0, 1) := by decide +kernel
theorem dX7_letter_30 : decode cX7_letter 30 = .ok (.getfield 12, 3) := by decide +kernel
theorem dX7_letter_33 : decode cX7_letter 33 = .ok (.iload_n 1, 1) := by decide +kernel
theorem dX7_letter_34 : decode cX7_letter 34 = .ok (.invokevirtual 53, 3) := by decide +kernel
theorem dX7_letter_37 : decode cX7_letter 37 = .ok (.aload_n 0, 1) := by decide +kernel
theorem dX7_letter_38 : decode cX7_letter 38 = .ok (.getfield 12, 3) := by decide +kernel
theorem dX7_letter_41 : decode cX7_letter 41 = .ok (.getfield 50, 3) := by decide +kernel
theorem dX7_letter_44 : decode cX7_letter 44 = .ok (.ireturn, 1) := by decide +kernel
set_option maxRecDepth 20000 in
theorem ggX7_blank_X3_empty : GoodIn wsX7_blank wsX3_empty := goodIn_r _ [6, 7, 24, 25] (by decide +kernel) (by decide +kernel)
set_option maxRecDepth 20000 in
theorem gX7_blank_X3_empty : GoodIn wsX7_blank (wsV RX7 57 RX3 yX3_empty wsX3_empty) := goodIn_app (goodIn_of _ (by decide +kernel)) ggX7_blank_X3_empty
theorem dX7_blank_0 : decode cX7_blank 0 = .ok (.aload_n 0, 1) := by decide +kernel
theorem dX7_blank_1 : decode cX7_blank 1 = .ok (.getfield 12, 3) := by decide +kernel
theorem dX7_blank_4 : decode cX7_blank 4 = .ok (.getfield 50, 3) := by decide +kernel
theorem dX7_blank_7 : decode cX7_blank 7 = .ok (.istore_n 1, 1) := by decide +kernel
theorem dX7_blank_8 : decode cX7_blank 8 = .ok (.aload_n 0, 1) := by decide +kernel
theorem dX7_blank_9 : decode cX7_blank 9 = .ok (.getfield 12, 3) := by decide +kernel
theorem dX7_blank_12 : decode cX7_blank 12 = .ok (.invokevirtual 57, 3) := by decide +kernel
theorem dX7_blank_15 : decode cX7_blank 15 = .ok (.iload_n 1, 1) := by decide +kernel
theorem dX7_blank_16 : decode cX7_blank 16 = .ok (.ireturn, 1) := by decide +kernel
set_option maxRecDepth 20000 in
theorem ggX7_fault_X3_soundLetters : GoodIn wsX7_fault wsX3_soundLetters := goodIn_r _ [6, 7, 8, 9, 10, 11, 28, 29] (by decide +kernel) (by decide +kernel)
set_option maxRecDepth 20000 in
theorem gX7_fault_X3_soundLetters : GoodIn wsX7_fault (wsV RX7 60 RX3 yX3_soundLetters wsX3_soundLetters) := goodIn_app (goodIn_of _ (by decide +kernel)) ggX7_fault_X3_soundLetters
theorem dX7_fault_0 : decode cX7_fault 0 = .ok (.aload_n 0, 1) := by decide +kernel
theorem dX7_fault_1 : decode cX7_fault 1 = .ok (.getfield 12, 3) := by decide +kernel
theorem dX7_fault_4 : decode cX7_fault 4 = .ok (.invokevirtual 60, 3) := by decide +kernel
theorem dX7_fault_7 : decode cX7_fault 7 = .ok (.ireturn, 1) := by decide +kernel
set_option maxRecDepth 20000 in
theorem ggX7_sign_X3_asText : GoodIn wsX7_sign wsX3_asText := goodIn_r _ [13, 14, 15, 16, 17, 18, 12, 19, 20, 21, 22, 23, 24, 58, 59] (by decide +kernel) (by decide +kernel)
set_option maxRecDepth 20000 in
theorem gX7_sign_X3_asText : GoodIn wsX7_sign (wsV RX7 64 RX3 yX3_asText wsX3_asText) := goodIn_app (goodIn_of _ (by decide +kernel)) ggX7_sign_X3_asText
set_option maxRecDepth 20000 in
theorem ggX7_sign_X1_clear : GoodIn wsX7_sign wsX1_clear := goodIn_r _ [29, 30, 60, 61, 62, 63, 64, 65] (by decide +kernel) (by decide +kernel)
set_option maxRecDepth 20000 in
theorem gX7_sign_X1_clear : GoodIn wsX7_sign (wsV RX7 76 RX1 yX1_clear wsX1_clear) := goodIn_app (goodIn_of _ (by decide +kernel)) ggX7_sign_X1_clear
set_option maxRecDepth 20000 in
theorem ggX7_sign_X3_empty : GoodIn wsX7_sign wsX3_empty := goodIn_r _ [34, 14, 58, 59] (by decide +kernel) (by decide +kernel)
set_option maxRecDepth 20000 in
theorem gX7_sign_X3_empty : GoodIn wsX7_sign (wsV RX7 57 RX3 yX3_empty wsX3_empty) := goodIn_app (goodIn_of _ (by decide +kernel)) ggX7_sign_X3_empty
set_option maxRecDepth 20000 in
theorem ggX7_sign_X7_colouredCells : GoodIn wsX7_sign wsX7_colouredCells := goodIn_r _ [38, 2, 39, 40, 21, 41, 42, 43, 44, 45, 46, 47, 48, 49, 50, 51, 52, 53, 54, 55, 56, 57] (by decide +kernel) (by decide +kernel)
set_option maxRecDepth 20000 in
theorem gX7_sign_X7_colouredCells : GoodIn wsX7_sign (wsV RX7 82 RX7 yX7_colouredCells wsX7_colouredCells) := goodIn_app (goodIn_of _ (by decide +kernel)) ggX7_sign_X7_colouredCells
theorem dX7_sign_0 : decode cX7_sign 0 = .ok (.aload_n 0, 1) := by decide +kernel
theorem dX7_sign_1 : decode cX7_sign 1 = .ok (.getfield 12, 3) := by decide +kernel
theorem dX7_sign_4 : decode cX7_sign 4 = .ok (.invokevirtual 64, 3) := by decide +kernel
theorem dX7_sign_7 : decode cX7_sign 7 = .ok (.istore_n 1, 1) := by decide +kernel
theorem dX7_sign_8 : decode cX7_sign 8 = .ok (.iload_n 1, 1) := by decide +kernel
theorem dX7_sign_9 : decode cX7_sign 9 = .ok (.iconst (-1), 1) := by decide +kernel
theorem dX7_sign_10 : decode cX7_sign 10 = .ok (.if_icmp .ne 6, 3) := by decide +kernel
theorem dX7_sign_13 : decode cX7_sign 13 = .ok (.bipush (-103), 2) := by decide +kernel
theorem dX7_sign_15 : decode cX7_sign 15 = .ok (.ireturn, 1) := by decide +kernel
theorem dX7_sign_16 : decode cX7_sign 16 = .ok (.aload_n 0, 1) := by decide +kernel
theorem dX7_sign_17 : decode cX7_sign 17 = .ok (.iload_n 1, 1) := by decide +kernel
theorem dX7_sign_18 : decode cX7_sign 18 = .ok (.putfield 39, 3) := by decide +kernel
theorem dX7_sign_21 : decode cX7_sign 21 = .ok (.aload_n 0, 1) := by decide +kernel
theorem dX7_sign_22 : decode cX7_sign 22 = .ok (.iconst 0, 1) := by decide +kernel
theorem dX7_sign_23 : decode cX7_sign 23 = .ok (.putfield 67, 3) := by decide +kernel
theorem dX7_sign_26 : decode cX7_sign 26 = .ok (.aload_n 0, 1) := by decide +kernel
theorem dX7_sign_27 : decode cX7_sign 27 = .ok (.iconst 0, 1) := by decide +kernel
theorem dX7_sign_28 : decode cX7_sign 28 = .ok (.putfield 70, 3) := by decide +kernel
theorem dX7_sign_31 : decode cX7_sign 31 = .ok (.aload_n 0, 1) := by decide +kernel
theorem dX7_sign_32 : decode cX7_sign 32 = .ok (.iconst 0, 1) := by decide +kernel
theorem dX7_sign_33 : decode cX7_sign 33 = .ok (.putfield 73, 3) := by decide +kernel
theorem dX7_sign_36 : decode cX7_sign 36 = .ok (.aload_n 0, 1) := by decide +kernel
theorem dX7_sign_37 : decode cX7_sign 37 = .ok (.getfield 29, 3) := by decide +kernel
theorem dX7_sign_40 : decode cX7_sign 40 = .ok (.invokevirtual 76, 3) := by decide +kernel
theorem dX7_sign_43 : decode cX7_sign 43 = .ok (.aload_n 0, 1) := by decide +kernel
theorem dX7_sign_44 : decode cX7_sign 44 = .ok (.iconst (-1), 1) := by decide +kernel
theorem dX7_sign_45 : decode cX7_sign 45 = .ok (.putfield 43, 3) := by decide +kernel
theorem dX7_sign_48 : decode cX7_sign 48 = .ok (.aload_n 0, 1) := by decide +kernel
theorem dX7_sign_49 : decode cX7_sign 49 = .ok (.dup, 1) := by decide +kernel
theorem dX7_sign_50 : decode cX7_sign 50 = .ok (.getfield 79, 3) := by decide +kernel
theorem dX7_sign_53 : decode cX7_sign 53 = .ok (.iconst 1, 1) := by decide +kernel
theorem dX7_sign_54 : decode cX7_sign 54 = .ok (.iadd, 1) := by decide +kernel
theorem dX7_sign_55 : decode cX7_sign 55 = .ok (.putfield 79, 3) := by decide +kernel
theorem dX7_sign_58 : decode cX7_sign 58 = .ok (.aload_n 0, 1) := by decide +kernel
theorem dX7_sign_59 : decode cX7_sign 59 = .ok (.getfield 12, 3) := by decide +kernel
theorem dX7_sign_62 : decode cX7_sign 62 = .ok (.invokevirtual 57, 3) := by decide +kernel
theorem dX7_sign_65 : decode cX7_sign 65 = .ok (.aload_n 0, 1) := by decide +kernel
theorem dX7_sign_66 : decode cX7_sign 66 = .ok (.invokevirtual 82, 3) := by decide +kernel
theorem dX7_sign_69 : decode cX7_sign 69 = .ok (.ireturn, 1) := by decide +kernel
set_option maxRecDepth 20000 in
theorem ggX7_hue_X7_hueAt : GoodIn wsX7_hue wsX7_hueAt := goodIn_r _ [5] (by decide +kernel) (by decide +kernel)
set_option maxRecDepth 20000 in
theorem gX7_hue_X7_hueAt : GoodIn wsX7_hue (va_wsS RX7 85 yX7_hueAt wsX7_hueAt) := goodIn_app (goodIn_of _ (by decide +kernel)) ggX7_hue_X7_hueAt
theorem dX7_hue_0 : decode cX7_hue 0 = .ok (.aload_n 0, 1) := by decide +kernel
theorem dX7_hue_1 : decode cX7_hue 1 = .ok (.getfield 39, 3) := by decide +kernel
theorem dX7_hue_4 : decode cX7_hue 4 = .ok (.iconst (-1), 1) := by decide +kernel
theorem dX7_hue_5 : decode cX7_hue 5 = .ok (.if_icmp .eq 13, 3) := by decide +kernel
theorem dX7_hue_8 : decode cX7_hue 8 = .ok (.iload_n 1, 1) := by decide +kernel
theorem dX7_hue_9 : decode cX7_hue 9 = .ok (.ifCond .lt 9, 3) := by decide +kernel
theorem dX7_hue_12 : decode cX7_hue 12 = .ok (.iload_n 1, 1) := by decide +kernel
theorem dX7_hue_13 : decode cX7_hue 13 = .ok (.bipush 6, 2) := by decide +kernel
theorem dX7_hue_15 : decode cX7_hue 15 = .ok (.if_icmp .lt 6, 3) := by decide +kernel
theorem dX7_hue_18 : decode cX7_hue 18 = .ok (.bipush (-101), 2) := by decide +kernel
theorem dX7_hue_20 : decode cX7_hue 20 = .ok (.ireturn, 1) := by decide +kernel
theorem dX7_hue_21 : decode cX7_hue 21 = .ok (.aload_n 0, 1) := by decide +kernel
theorem dX7_hue_22 : decode cX7_hue 22 = .ok (.getfield 39, 3) := by decide +kernel
theorem dX7_hue_25 : decode cX7_hue 25 = .ok (.iload_n 1, 1) := by decide +kernel
theorem dX7_hue_26 : decode cX7_hue 26 = .ok (.invokestatic 85, 3) := by decide +kernel
theorem dX7_hue_29 : decode cX7_hue 29 = .ok (.ireturn, 1) := by decide +kernel
set_option maxRecDepth 20000 in
theorem ggX7_layer_X7_isInk : GoodIn wsX7_layer wsX7_isInk := goodIn_r _ [8, 9, 19, 20, 21, 22, 23, 24, 25, 26, 27, 28, 29, 30, 31, 32, 33, 34] (by decide +kernel) (by decide +kernel)
set_option maxRecDepth 20000 in
theorem gX7_layer_X7_isInk : GoodIn wsX7_layer (wsV RX7 89 RX7 yX7_isInk wsX7_isInk) := goodIn_app (goodIn_of _ (by decide +kernel)) ggX7_layer_X7_isInk
set_option maxRecDepth 20000 in
theorem ggX7_layer_X7_hueAt : GoodIn wsX7_layer wsX7_hueAt := goodIn_r _ [12] (by decide +kernel) (by decide +kernel)
set_option maxRecDepth 20000 in
theorem gX7_layer_X7_hueAt : GoodIn wsX7_layer (va_wsS RX7 85 yX7_hueAt wsX7_hueAt) := goodIn_app (goodIn_of _ (by decide +kernel)) ggX7_layer_X7_hueAt
set_option maxRecDepth 20000 in
theorem ggX7_layer_X7_holds : GoodIn wsX7_layer wsX7_holds := goodIn_r _ [15] (by decide +kernel) (by decide +kernel)
set_option maxRecDepth 20000 in
theorem gX7_layer_X7_holds : GoodIn wsX7_layer (va_wsS RX7 93 yX7_holds wsX7_holds) := goodIn_app (goodIn_of _ (by decide +kernel)) ggX7_layer_X7_holds
set_option maxRecDepth 20000 in
theorem ggX7_layer_X7_withHue : GoodIn wsX7_layer wsX7_withHue := goodIn_r _ [18] (by decide +kernel) (by decide +kernel)
set_option maxRecDepth 20000 in
theorem gX7_layer_X7_withHue : GoodIn wsX7_layer (va_wsS RX7 97 yX7_withHue wsX7_withHue) := goodIn_app (goodIn_of _ (by decide +kernel)) ggX7_layer_X7_withHue
theorem dX7_layer_0 : decode cX7_layer 0 = .ok (.aload_n 0, 1) := by decide +kernel
theorem dX7_layer_1 : decode cX7_layer 1 = .ok (.iload_n 1, 1) := by decide +kernel
theorem dX7_layer_2 : decode cX7_layer 2 = .ok (.invokevirtual 89, 3) := by decide +kernel
theorem dX7_layer_5 : decode cX7_layer 5 = .ok (.ifCond .ne 6, 3) := by decide +kernel
theorem dX7_layer_8 : decode cX7_layer 8 = .ok (.bipush (-101), 2) := by decide +kernel
theorem dX7_layer_10 : decode cX7_layer 10 = .ok (.ireturn, 1) := by decide +kernel
theorem dX7_layer_11 : decode cX7_layer 11 = .ok (.iload_n 2, 1) := by decide +kernel
theorem dX7_layer_12 : decode cX7_layer 12 = .ok (.ifCond .lt 9, 3) := by decide +kernel
theorem dX7_layer_15 : decode cX7_layer 15 = .ok (.iload_n 2, 1) := by decide +kernel
theorem dX7_layer_16 : decode cX7_layer 16 = .ok (.bipush 64, 2) := by decide +kernel
theorem dX7_layer_18 : decode cX7_layer 18 = .ok (.if_icmp .lt 6, 3) := by decide +kernel
theorem dX7_layer_21 : decode cX7_layer 21 = .ok (.bipush (-102), 2) := by decide +kernel
theorem dX7_layer_23 : decode cX7_layer 23 = .ok (.ireturn, 1) := by decide +kernel
theorem dX7_layer_24 : decode cX7_layer 24 = .ok (.iconst 0, 1) := by decide +kernel
theorem dX7_layer_25 : decode cX7_layer 25 = .ok (.istore_n 3, 1) := by decide +kernel
theorem dX7_layer_26 : decode cX7_layer 26 = .ok (.iconst 0, 1) := by decide +kernel
theorem dX7_layer_27 : decode cX7_layer 27 = .ok (.istore 4, 2) := by decide +kernel
theorem dX7_layer_29 : decode cX7_layer 29 = .ok (.iload 4, 2) := by decide +kernel
theorem dX7_layer_31 : decode cX7_layer 31 = .ok (.bipush 6, 2) := by decide +kernel
theorem dX7_layer_33 : decode cX7_layer 33 = .ok (.if_icmp .ge 65, 3) := by decide +kernel
theorem dX7_layer_36 : decode cX7_layer 36 = .ok (.aload_n 0, 1) := by decide +kernel
theorem dX7_layer_37 : decode cX7_layer 37 = .ok (.getfield 39, 3) := by decide +kernel
theorem dX7_layer_40 : decode cX7_layer 40 = .ok (.iload 4, 2) := by decide +kernel
theorem dX7_layer_42 : decode cX7_layer 42 = .ok (.invokestatic 85, 3) := by decide +kernel
theorem dX7_layer_45 : decode cX7_layer 45 = .ok (.istore 5, 2) := by decide +kernel
theorem dX7_layer_47 : decode cX7_layer 47 = .ok (.iload 5, 2) := by decide +kernel
theorem dX7_layer_49 : decode cX7_layer 49 = .ok (.aload_n 0, 1) := by decide +kernel
theorem dX7_layer_50 : decode cX7_layer 50 = .ok (.getfield 22, 3) := by decide +kernel
theorem dX7_layer_53 : decode cX7_layer 53 = .ok (.iload_n 1, 1) := by decide +kernel
theorem dX7_layer_54 : decode cX7_layer 54 = .ok (.iaload, 1) := by decide +kernel
theorem dX7_layer_55 : decode cX7_layer 55 = .ok (.ior, 1) := by decide +kernel
theorem dX7_layer_56 : decode cX7_layer 56 = .ok (.istore 6, 2) := by decide +kernel
theorem dX7_layer_58 : decode cX7_layer 58 = .ok (.iload_n 2, 1) := by decide +kernel
theorem dX7_layer_59 : decode cX7_layer 59 = .ok (.iload 4, 2) := by decide +kernel
theorem dX7_layer_61 : decode cX7_layer 61 = .ok (.invokestatic 93, 3) := by decide +kernel
theorem dX7_layer_64 : decode cX7_layer 64 = .ok (.ifCond .eq 28, 3) := by decide +kernel
theorem dX7_layer_67 : decode cX7_layer 67 = .ok (.iload 6, 2) := by decide +kernel
theorem dX7_layer_69 : decode cX7_layer 69 = .ok (.iload 5, 2) := by decide +kernel
theorem dX7_layer_71 : decode cX7_layer 71 = .ok (.if_icmp .eq 21, 3) := by decide +kernel
theorem dX7_layer_74 : decode cX7_layer 74 = .ok (.aload_n 0, 1) := by decide +kernel
theorem dX7_layer_75 : decode cX7_layer 75 = .ok (.aload_n 0, 1) := by decide +kernel
theorem dX7_layer_76 : decode cX7_layer 76 = .ok (.getfield 39, 3) := by decide +kernel
theorem dX7_layer_79 : decode cX7_layer 79 = .ok (.iload 4, 2) := by decide +kernel
theorem dX7_layer_81 : decode cX7_layer 81 = .ok (.iload 6, 2) := by decide +kernel
theorem dX7_layer_83 : decode cX7_layer 83 = .ok (.invokestatic 97, 3) := by decide +kernel
theorem dX7_layer_86 : decode cX7_layer 86 = .ok (.putfield 39, 3) := by decide +kernel
theorem dX7_layer_89 : decode cX7_layer 89 = .ok (.iinc 3 1, 3) := by decide +kernel
theorem dX7_layer_92 : decode cX7_layer 92 = .ok (.iinc 4 1, 3) := by decide +kernel
theorem dX7_layer_95 : decode cX7_layer 95 = .ok (.goto (-66), 3) := by decide +kernel
theorem dX7_layer_98 : decode cX7_layer 98 = .ok (.aload_n 0, 1) := by decide +kernel
theorem dX7_layer_99 : decode cX7_layer 99 = .ok (.dup, 1) := by decide +kernel
theorem dX7_layer_100 : decode cX7_layer 100 = .ok (.getfield 73, 3) := by decide +kernel
theorem dX7_layer_103 : decode cX7_layer 103 = .ok (.iconst 1, 1) := by decide +kernel
theorem dX7_layer_104 : decode cX7_layer 104 = .ok (.iadd, 1) := by decide +kernel
theorem dX7_layer_105 : decode cX7_layer 105 = .ok (.putfield 73, 3) := by decide +kernel
theorem dX7_layer_108 : decode cX7_layer 108 = .ok (.iload_n 3, 1) := by decide +kernel
theorem dX7_layer_109 : decode cX7_layer 109 = .ok (.ireturn, 1) := by decide +kernel
set_option maxRecDepth 20000 in
theorem ggX7_person_X7_isKind : GoodIn wsX7_person wsX7_isKind := goodIn_r _ [9] (by decide +kernel) (by decide +kernel)
set_option maxRecDepth 20000 in
theorem gX7_person_X7_isKind : GoodIn wsX7_person (va_wsS RX7 101 yX7_isKind wsX7_isKind) := goodIn_app (goodIn_of _ (by decide +kernel)) ggX7_person_X7_isKind
set_option maxRecDepth 20000 in
theorem ggX7_person_X7_isHue : GoodIn wsX7_person wsX7_isHue := goodIn_r _ [12] (by decide +kernel) (by decide +kernel)
set_option maxRecDepth 20000 in
theorem gX7_person_X7_isHue : GoodIn wsX7_person (va_wsS RX7 104 yX7_isHue wsX7_isHue) := goodIn_app (goodIn_of _ (by decide +kernel)) ggX7_person_X7_isHue
set_option maxRecDepth 20000 in
theorem ggX7_person_X7_newPerson : GoodIn wsX7_person wsX7_newPerson := goodIn_r _ [15, 16, 17, 18, 19, 20, 21, 22, 23, 24, 25, 26, 27, 28, 29, 30, 31, 32, 33, 34, 35, 36, 37, 38, 39, 40, 41, 42, 43, 44, 45, 62, 63, 64, 65, 66, 67, 68, 69, 70, 71, 72, 73, 86, 87, 88, 89, 90, 91, 80, 81, 82, 83, 84, 85, 74, 75, 76, 77, 78, 79] (by decide +kernel) (by decide +kernel)
set_option maxRecDepth 20000 in
theorem gX7_person_X7_newPerson : GoodIn wsX7_person (va_wsS RX7 46 yX7_newPerson wsX7_newPerson) := goodIn_app (goodIn_of _ (by decide +kernel)) ggX7_person_X7_newPerson
theorem dX7_person_0 : decode cX7_person 0 = .ok (.iload_n 1, 1) := by decide +kernel
theorem dX7_person_1 : decode cX7_person 1 = .ok (.invokestatic 101, 3) := by decide +kernel
theorem dX7_person_4 : decode cX7_person 4 = .ok (.ifCond .eq 17, 3) := by decide +kernel
theorem dX7_person_7 : decode cX7_person 7 = .ok (.iload_n 2, 1) := by decide +kernel
theorem dX7_person_8 : decode cX7_person 8 = .ok (.invokestatic 104, 3) := by decide +kernel
theorem dX7_person_11 : decode cX7_person 11 = .ok (.ifCond .eq 10, 3) := by decide +kernel
theorem dX7_person_14 : decode cX7_person 14 = .ok (.iload_n 3, 1) := by decide +kernel
theorem dX7_person_15 : decode cX7_person 15 = .ok (.invokestatic 104, 3) := by decide +kernel
theorem dX7_person_18 : decode cX7_person 18 = .ok (.ifCond .ne 6, 3) := by decide +kernel
theorem dX7_person_21 : decode cX7_person 21 = .ok (.bipush (-102), 2) := by decide +kernel
theorem dX7_person_23 : decode cX7_person 23 = .ok (.ireturn, 1) := by decide +kernel
theorem dX7_person_24 : decode cX7_person 24 = .ok (.aload_n 0, 1) := by decide +kernel
theorem dX7_person_25 : decode cX7_person 25 = .ok (.getfield 39, 3) := by decide +kernel
theorem dX7_person_28 : decode cX7_person 28 = .ok (.iconst (-1), 1) := by decide +kernel
theorem dX7_person_29 : decode cX7_person 29 = .ok (.if_icmp .ne 6, 3) := by decide +kernel
theorem dX7_person_32 : decode cX7_person 32 = .ok (.bipush (-103), 2) := by decide +kernel
theorem dX7_person_34 : decode cX7_person 34 = .ok (.ireturn, 1) := by decide +kernel
theorem dX7_person_35 : decode cX7_person 35 = .ok (.aload_n 0, 1) := by decide +kernel
theorem dX7_person_36 : decode cX7_person 36 = .ok (.getfield 67, 3) := by decide +kernel
theorem dX7_person_39 : decode cX7_person 39 = .ok (.iconst 4, 1) := by decide +kernel
theorem dX7_person_40 : decode cX7_person 40 = .ok (.if_icmp .lt 6, 3) := by decide +kernel
theorem dX7_person_43 : decode cX7_person 43 = .ok (.bipush (-104), 2) := by decide +kernel
theorem dX7_person_45 : decode cX7_person 45 = .ok (.ireturn, 1) := by decide +kernel
theorem dX7_person_46 : decode cX7_person 46 = .ok (.iload_n 1, 1) := by decide +kernel
theorem dX7_person_47 : decode cX7_person 47 = .ok (.invokestatic 46, 3) := by decide +kernel
theorem dX7_person_50 : decode cX7_person 50 = .ok (.astore 4, 2) := by decide +kernel
theorem dX7_person_52 : decode cX7_person 52 = .ok (.aload 4, 2) := by decide +kernel
theorem dX7_person_54 : decode cX7_person 54 = .ok (.iload_n 2, 1) := by decide +kernel
theorem dX7_person_55 : decode cX7_person 55 = .ok (.putfield 107, 3) := by decide +kernel
theorem dX7_person_58 : decode cX7_person 58 = .ok (.aload 4, 2) := by decide +kernel
theorem dX7_person_60 : decode cX7_person 60 = .ok (.iload_n 3, 1) := by decide +kernel
theorem dX7_person_61 : decode cX7_person 61 = .ok (.putfield 110, 3) := by decide +kernel
theorem dX7_person_64 : decode cX7_person 64 = .ok (.aload_n 0, 1) := by decide +kernel
theorem dX7_person_65 : decode cX7_person 65 = .ok (.getfield 18, 3) := by decide +kernel
theorem dX7_person_68 : decode cX7_person 68 = .ok (.aload_n 0, 1) := by decide +kernel
theorem dX7_person_69 : decode cX7_person 69 = .ok (.getfield 67, 3) := by decide +kernel
theorem dX7_person_72 : decode cX7_person 72 = .ok (.aload 4, 2) := by decide +kernel
theorem dX7_person_74 : decode cX7_person 74 = .ok (.aastore, 1) := by decide +kernel
theorem dX7_person_75 : decode cX7_person 75 = .ok (.aload_n 0, 1) := by decide +kernel
theorem dX7_person_76 : decode cX7_person 76 = .ok (.dup, 1) := by decide +kernel
theorem dX7_person_77 : decode cX7_person 77 = .ok (.getfield 67, 3) := by decide +kernel
theorem dX7_person_80 : decode cX7_person 80 = .ok (.iconst 1, 1) := by decide +kernel
theorem dX7_person_81 : decode cX7_person 81 = .ok (.iadd, 1) := by decide +kernel
theorem dX7_person_82 : decode cX7_person 82 = .ok (.putfield 67, 3) := by decide +kernel
theorem dX7_person_85 : decode cX7_person 85 = .ok (.aload_n 0, 1) := by decide +kernel
theorem dX7_person_86 : decode cX7_person 86 = .ok (.getfield 67, 3) := by decide +kernel
theorem dX7_person_89 : decode cX7_person 89 = .ok (.iconst 1, 1) := by decide +kernel
theorem dX7_person_90 : decode cX7_person 90 = .ok (.isub, 1) := by decide +kernel
theorem dX7_person_91 : decode cX7_person 91 = .ok (.ireturn, 1) := by decide +kernel
set_option maxRecDepth 20000 in
theorem ggX7_about_X7_known : GoodIn wsX7_about wsX7_known := goodIn_r _ [9, 10, 11, 86, 87, 88, 89, 90, 91, 92, 93, 94, 95, 96, 97, 98, 99, 100, 101] (by decide +kernel) (by decide +kernel)
set_option maxRecDepth 20000 in
theorem gX7_about_X7_known : GoodIn wsX7_about (wsV RX7 113 RX7 yX7_known wsX7_known) := goodIn_app (goodIn_of _ (by decide +kernel)) ggX7_about_X7_known
set_option maxRecDepth 20000 in
theorem ggX7_about_X7_hueAt : GoodIn wsX7_about wsX7_hueAt := goodIn_r _ [14] (by decide +kernel) (by decide +kernel)
set_option maxRecDepth 20000 in
theorem gX7_about_X7_hueAt : GoodIn wsX7_about (va_wsS RX7 85 yX7_hueAt wsX7_hueAt) := goodIn_app (goodIn_of _ (by decide +kernel)) ggX7_about_X7_hueAt
set_option maxRecDepth 20000 in
theorem ggX7_about_X0_glimpse : GoodIn wsX7_about wsX0_glimpse := goodIn_r _ [21, 22, 23, 24, 25, 102, 103, 104, 105, 106, 107, 108, 109, 110, 111, 112, 113, 114, 115, 116, 117, 118, 119, 120, 121, 122, 123, 124, 125, 126, 127, 128, 129, 130, 131] (by decide +kernel) (by decide +kernel)
set_option maxRecDepth 20000 in
theorem gX7_about_X0_glimpse_u116X0 : GoodIn wsX7_about (va_wsO RX7 116 RX0 "EachEye$Person" ⟨"EachEye$Person", "glimpse", "(I)I"⟩ yX0_glimpse wsX0_glimpse) := goodIn_app (goodIn_of _ (by decide +kernel)) ggX7_about_X0_glimpse
set_option maxRecDepth 20000 in
theorem ggX7_about_X2_glimpse : GoodIn wsX7_about wsX2_glimpse := goodIn_r _ [30, 31, 32, 33, 34, 102, 103, 104, 105, 106, 107, 108, 109, 110, 111, 112, 113, 114, 115, 116, 117, 118, 119, 120, 121, 122, 123, 124, 125, 126, 127, 128, 129, 130, 131] (by decide +kernel) (by decide +kernel)
set_option maxRecDepth 20000 in
theorem gX7_about_X2_glimpse_u116X2 : GoodIn wsX7_about (va_wsO RX7 116 RX2 "EachEye$Person" ⟨"EachEye$Person", "glimpse", "(I)I"⟩ yX2_glimpse wsX2_glimpse) := goodIn_app (goodIn_of _ (by decide +kernel)) ggX7_about_X2_glimpse
set_option maxRecDepth 20000 in
theorem ggX7_about_X4_glimpse : GoodIn wsX7_about wsX4_glimpse := goodIn_r _ [26, 39, 40, 102, 103, 104, 105, 106, 107, 108, 109, 110, 111, 112, 113, 114, 115, 116, 117, 118, 119, 120, 121, 122, 123, 124, 125, 126, 127, 128, 129, 130, 131] (by decide +kernel) (by decide +kernel)
set_option maxRecDepth 20000 in
theorem gX7_about_X4_glimpse : GoodIn wsX7_about (wsV RX7 116 RX4 yX4_glimpse wsX4_glimpse) := goodIn_app (goodIn_of _ (by decide +kernel)) ggX7_about_X4_glimpse
set_option maxRecDepth 20000 in
theorem ggX7_about_X5_glimpse : GoodIn wsX7_about wsX5_glimpse := goodIn_r _ [44, 45, 46, 102, 103, 104, 105, 106, 107, 108, 109, 110, 111, 112, 113, 114, 115, 116, 117, 118, 119, 120, 121, 122, 123, 124, 125, 126, 127, 128, 129, 130, 131] (by decide +kernel) (by decide +kernel)
set_option maxRecDepth 20000 in
theorem gX7_about_X5_glimpse_u116X5 : GoodIn wsX7_about (va_wsO RX7 116 RX5 "EachEye$Person" ⟨"EachEye$Person", "glimpse", "(I)I"⟩ yX5_glimpse wsX5_glimpse) := goodIn_app (goodIn_of _ (by decide +kernel)) ggX7_about_X5_glimpse
set_option maxRecDepth 20000 in
theorem ggX7_about_X6_glimpse : GoodIn wsX7_about wsX6_glimpse := goodIn_r _ [50, 51, 52, 53, 54, 102, 103, 104, 105, 106, 107, 108, 109, 110, 111, 112, 113, 114, 115, 116, 117, 118, 119, 120, 121, 122, 123, 124, 125, 126, 127, 128, 129, 130, 131] (by decide +kernel) (by decide +kernel)
set_option maxRecDepth 20000 in
theorem gX7_about_X6_glimpse_u116X6 : GoodIn wsX7_about (va_wsO RX7 116 RX6 "EachEye$Person" ⟨"EachEye$Person", "glimpse", "(I)I"⟩ yX6_glimpse wsX6_glimpse) := goodIn_app (goodIn_of _ (by decide +kernel)) ggX7_about_X6_glimpse
set_option maxRecDepth 20000 in
theorem ggX7_about_X0_kind : GoodIn wsX7_about wsX0_kind := goodIn_r _ [60] (by decide +kernel) (by decide +kernel)
set_option maxRecDepth 20000 in
theorem gX7_about_X0_kind_u123X0 : GoodIn wsX7_about (va_wsO RX7 123 RX0 "EachEye$Person" ⟨"EachEye$Person", "kind", "()I"⟩ yX0_kind wsX0_kind) := goodIn_app (goodIn_of _ (by decide +kernel)) ggX7_about_X0_kind
set_option maxRecDepth 20000 in
theorem ggX7_about_X2_kind : GoodIn wsX7_about wsX2_kind := goodIn_r _ [64] (by decide +kernel) (by decide +kernel)
set_option maxRecDepth 20000 in
theorem gX7_about_X2_kind_u123X2 : GoodIn wsX7_about (va_wsO RX7 123 RX2 "EachEye$Person" ⟨"EachEye$Person", "kind", "()I"⟩ yX2_kind wsX2_kind) := goodIn_app (goodIn_of _ (by decide +kernel)) ggX7_about_X2_kind
set_option maxRecDepth 20000 in
theorem ggX7_about_X4_kind : GoodIn wsX7_about wsX4_kind := goodIn_r _ [61] (by decide +kernel) (by decide +kernel)
set_option maxRecDepth 20000 in
theorem gX7_about_X4_kind : GoodIn wsX7_about (wsV RX7 123 RX4 yX4_kind wsX4_kind) := goodIn_app (goodIn_of _ (by decide +kernel)) ggX7_about_X4_kind
set_option maxRecDepth 20000 in
theorem ggX7_about_X5_kind : GoodIn wsX7_about wsX5_kind := goodIn_r _ [70] (by decide +kernel) (by decide +kernel)
set_option maxRecDepth 20000 in
theorem gX7_about_X5_kind_u123X5 : GoodIn wsX7_about (va_wsO RX7 123 RX5 "EachEye$Person" ⟨"EachEye$Person", "kind", "()I"⟩ yX5_kind wsX5_kind) := goodIn_app (goodIn_of _ (by decide +kernel)) ggX7_about_X5_kind
set_option maxRecDepth 20000 in
theorem ggX7_about_X6_kind : GoodIn wsX7_about wsX6_kind := goodIn_r _ [73] (by decide +kernel) (by decide +kernel)
set_option maxRecDepth 20000 in
theorem gX7_about_X6_kind_u123X6 : GoodIn wsX7_about (va_wsO RX7 123 RX6 "EachEye$Person" ⟨"EachEye$Person", "kind", "()I"⟩ yX6_kind wsX6_kind) := goodIn_app (goodIn_of _ (by decide +kernel)) ggX7_about_X6_kind
set_option maxRecDepth 20000 in
theorem ggX7_about_X4_truths : GoodIn wsX7_about wsX4_truths := goodIn_r _ [78, 79, 16, 17, 18, 19, 20, 21, 22, 23, 24, 25, 26, 27, 28, 29, 30, 31, 32, 33, 34, 80, 36, 37, 38, 39, 40, 41, 42, 43, 44, 45, 46, 47, 48, 49, 50, 51, 52, 53, 54, 102, 103, 104, 105, 106, 107, 108, 109, 110, 111, 112, 113, 114, 115, 116, 117, 118, 119, 120, 121, 122, 123, 124, 125, 126, 127, 128, 129, 130, 131] (by decide +kernel) (by decide +kernel)
set_option maxRecDepth 20000 in
theorem gX7_about_X4_truths_u126X0 : GoodIn wsX7_about (va_wsU RX7 126 RX0 "EachEye$Person" ⟨"EachEye$Person", "truths", "()I"⟩ yX4_truths wsX4_truths) := goodIn_app (goodIn_of _ (by decide +kernel)) ggX7_about_X4_truths
set_option maxRecDepth 20000 in
theorem gX7_about_X4_truths_u126X2 : GoodIn wsX7_about (va_wsU RX7 126 RX2 "EachEye$Person" ⟨"EachEye$Person", "truths", "()I"⟩ yX4_truths wsX4_truths) := goodIn_app (goodIn_of _ (by decide +kernel)) ggX7_about_X4_truths
set_option maxRecDepth 20000 in
theorem gX7_about_X4_truths : GoodIn wsX7_about (wsV RX7 126 RX4 yX4_truths wsX4_truths) := goodIn_app (goodIn_of _ (by decide +kernel)) ggX7_about_X4_truths
set_option maxRecDepth 20000 in
theorem gX7_about_X4_truths_u126X5 : GoodIn wsX7_about (va_wsU RX7 126 RX5 "EachEye$Person" ⟨"EachEye$Person", "truths", "()I"⟩ yX4_truths wsX4_truths) := goodIn_app (goodIn_of _ (by decide +kernel)) ggX7_about_X4_truths
set_option maxRecDepth 20000 in
theorem gX7_about_X4_truths_u126X6 : GoodIn wsX7_about (va_wsU RX7 126 RX6 "EachEye$Person" ⟨"EachEye$Person", "truths", "()I"⟩ yX4_truths wsX4_truths) := goodIn_app (goodIn_of _ (by decide +kernel)) ggX7_about_X4_truths
theorem dX7_about_0 : decode cX7_about 0 = .ok (.aload_n 0, 1) := by decide +kernel
theorem dX7_about_1 : decode cX7_about 1 = .ok (.iload_n 1, 1) := by decide +kernel
theorem dX7_about_2 : decode cX7_about 2 = .ok (.invokevirtual 113, 3) := by decide +kernel
theorem dX7_about_5 : decode cX7_about 5 = .ok (.astore_n 3, 1) := by decide +kernel
theorem dX7_about_6 : decode cX7_about 6 = .ok (.aload_n 3, 1) := by decide +kernel
theorem dX7_about_7 : decode cX7_about 7 = .ok (.ifnonnull 6, 3) := by decide +kernel
theorem dX7_about_10 : decode cX7_about 10 = .ok (.bipush (-101), 2) := by decide +kernel
theorem dX7_about_12 : decode cX7_about 12 = .ok (.ireturn, 1) := by decide +kernel
theorem dX7_about_13 : decode cX7_about 13 = .ok (.iload_n 2, 1) := by decide +kernel
theorem dX7_about_14 : decode cX7_about 14 = .ok (.bipush 10, 2) := by decide +kernel
theorem dX7_about_16 : decode cX7_about 16 = .ok (.if_icmp .lt 25, 3) := by decide +kernel
theorem dX7_about_19 : decode cX7_about 19 = .ok (.iload_n 2, 1) := by decide +kernel
theorem dX7_about_20 : decode cX7_about 20 = .ok (.bipush 16, 2) := by decide +kernel
theorem dX7_about_22 : decode cX7_about 22 = .ok (.if_icmp .ge 19, 3) := by decide +kernel
theorem dX7_about_25 : decode cX7_about 25 = .ok (.aload_n 3, 1) := by decide +kernel
theorem dX7_about_26 : decode cX7_about 26 = .ok (.aload_n 0, 1) := by decide +kernel
theorem dX7_about_27 : decode cX7_about 27 = .ok (.getfield 39, 3) := by decide +kernel
theorem dX7_about_30 : decode cX7_about 30 = .ok (.iload_n 2, 1) := by decide +kernel
theorem dX7_about_31 : decode cX7_about 31 = .ok (.bipush 10, 2) := by decide +kernel
theorem dX7_about_33 : decode cX7_about 33 = .ok (.isub, 1) := by decide +kernel
theorem dX7_about_34 : decode cX7_about 34 = .ok (.invokestatic 85, 3) := by decide +kernel
theorem dX7_about_37 : decode cX7_about 37 = .ok (.invokevirtual 116, 3) := by decide +kernel
theorem dX7_about_40 : decode cX7_about 40 = .ok (.ireturn, 1) := by decide +kernel
theorem dX7_about_41 : decode cX7_about 41 = .ok (.iload_n 2, 1) := by decide +kernel
theorem dX7_about_42 : decode cX7_about 42 = .ok (.bipush 20, 2) := by decide +kernel
theorem dX7_about_44 : decode cX7_about 44 = .ok (.if_icmp .lt 33, 3) := by decide +kernel
theorem dX7_about_47 : decode cX7_about 47 = .ok (.iload_n 2, 1) := by decide +kernel
theorem dX7_about_48 : decode cX7_about 48 = .ok (.bipush 26, 2) := by decide +kernel
theorem dX7_about_50 : decode cX7_about 50 = .ok (.if_icmp .ge 27, 3) := by decide +kernel
theorem dX7_about_53 : decode cX7_about 53 = .ok (.aload_n 3, 1) := by decide +kernel
theorem dX7_about_54 : decode cX7_about 54 = .ok (.getfield 120, 3) := by decide +kernel
theorem dX7_about_57 : decode cX7_about 57 = .ok (.iconst (-1), 1) := by decide +kernel
theorem dX7_about_58 : decode cX7_about 58 = .ok (.if_icmp .ne 7, 3) := by decide +kernel
theorem dX7_about_61 : decode cX7_about 61 = .ok (.iconst (-1), 1) := by decide +kernel
theorem dX7_about_62 : decode cX7_about 62 = .ok (.goto 14, 3) := by decide +kernel
theorem dX7_about_65 : decode cX7_about 65 = .ok (.aload_n 3, 1) := by decide +kernel
theorem dX7_about_66 : decode cX7_about 66 = .ok (.getfield 120, 3) := by decide +kernel
theorem dX7_about_69 : decode cX7_about 69 = .ok (.iload_n 2, 1) := by decide +kernel
theorem dX7_about_70 : decode cX7_about 70 = .ok (.bipush 20, 2) := by decide +kernel
theorem dX7_about_72 : decode cX7_about 72 = .ok (.isub, 1) := by decide +kernel
theorem dX7_about_73 : decode cX7_about 73 = .ok (.invokestatic 85, 3) := by decide +kernel
theorem dX7_about_76 : decode cX7_about 76 = .ok (.ireturn, 1) := by decide +kernel
theorem dX7_about_77 : decode cX7_about 77 = .ok (.iload_n 2, 1) := by decide +kernel
theorem dX7_about_78 : decode cX7_about 78 = .ok (.tableswitch 50 0 3 #[30, 35, 40, 45], 30) := by decide +kernel
theorem dX7_about_108 : decode cX7_about 108 = .ok (.aload_n 3, 1) := by decide +kernel
theorem dX7_about_109 : decode cX7_about 109 = .ok (.invokevirtual 123, 3) := by decide +kernel
theorem dX7_about_112 : decode cX7_about 112 = .ok (.ireturn, 1) := by decide +kernel
theorem dX7_about_113 : decode cX7_about 113 = .ok (.aload_n 3, 1) := by decide +kernel
theorem dX7_about_114 : decode cX7_about 114 = .ok (.getfield 107, 3) := by decide +kernel
theorem dX7_about_117 : decode cX7_about 117 = .ok (.ireturn, 1) := by decide +kernel
theorem dX7_about_118 : decode cX7_about 118 = .ok (.aload_n 3, 1) := by decide +kernel
theorem dX7_about_119 : decode cX7_about 119 = .ok (.getfield 110, 3) := by decide +kernel
theorem dX7_about_122 : decode cX7_about 122 = .ok (.ireturn, 1) := by decide +kernel
theorem dX7_about_123 : decode cX7_about 123 = .ok (.aload_n 3, 1) := by decide +kernel
theorem dX7_about_124 : decode cX7_about 124 = .ok (.invokevirtual 126, 3) := by decide +kernel
theorem dX7_about_127 : decode cX7_about 127 = .ok (.ireturn, 1) := by decide +kernel
theorem dX7_about_128 : decode cX7_about 128 = .ok (.bipush (-102), 2) := by decide +kernel
theorem dX7_about_130 : decode cX7_about 130 = .ok (.ireturn, 1) := by decide +kernel
set_option maxRecDepth 20000 in
theorem ggX7_as_X7_known : GoodIn wsX7_as wsX7_known := goodIn_r _ [5, 6, 7, 18, 19, 20, 21, 22, 23, 24, 25, 26, 27, 28, 29, 30, 31, 32, 33] (by decide +kernel) (by decide +kernel)
set_option maxRecDepth 20000 in
theorem gX7_as_X7_known : GoodIn wsX7_as (wsV RX7 113 RX7 yX7_known wsX7_known) := goodIn_app (goodIn_of _ (by decide +kernel)) ggX7_as_X7_known
set_option maxRecDepth 20000 in
theorem ggX7_as_X7_isKind : GoodIn wsX7_as wsX7_isKind := goodIn_r _ [10] (by decide +kernel) (by decide +kernel)
set_option maxRecDepth 20000 in
theorem gX7_as_X7_isKind : GoodIn wsX7_as (va_wsS RX7 101 yX7_isKind wsX7_isKind) := goodIn_app (goodIn_of _ (by decide +kernel)) ggX7_as_X7_isKind
set_option maxRecDepth 20000 in
theorem ggX7_as_X7_isOf : GoodIn wsX7_as wsX7_isOf := goodIn_r _ [13, 14, 15, 16, 17] (by decide +kernel) (by decide +kernel)
set_option maxRecDepth 20000 in
theorem gX7_as_X7_isOf : GoodIn wsX7_as (va_wsS RX7 129 yX7_isOf wsX7_isOf) := goodIn_app (goodIn_of _ (by decide +kernel)) ggX7_as_X7_isOf
theorem dX7_as_0 : decode cX7_as 0 = .ok (.aload_n 0, 1) := by decide +kernel
theorem dX7_as_1 : decode cX7_as 1 = .ok (.iload_n 1, 1) := by decide +kernel
theorem dX7_as_2 : decode cX7_as 2 = .ok (.invokevirtual 113, 3) := by decide +kernel
theorem dX7_as_5 : decode cX7_as 5 = .ok (.astore_n 3, 1) := by decide +kernel
theorem dX7_as_6 : decode cX7_as 6 = .ok (.aload_n 3, 1) := by decide +kernel
theorem dX7_as_7 : decode cX7_as 7 = .ok (.ifnonnull 6, 3) := by decide +kernel
theorem dX7_as_10 : decode cX7_as 10 = .ok (.bipush (-101), 2) := by decide +kernel
theorem dX7_as_12 : decode cX7_as 12 = .ok (.ireturn, 1) := by decide +kernel
theorem dX7_as_13 : decode cX7_as 13 = .ok (.iload_n 2, 1) := by decide +kernel
theorem dX7_as_14 : decode cX7_as 14 = .ok (.invokestatic 101, 3) := by decide +kernel
theorem dX7_as_17 : decode cX7_as 17 = .ok (.ifCond .ne 6, 3) := by decide +kernel
theorem dX7_as_20 : decode cX7_as 20 = .ok (.bipush (-102), 2) := by decide +kernel
theorem dX7_as_22 : decode cX7_as 22 = .ok (.ireturn, 1) := by decide +kernel
theorem dX7_as_23 : decode cX7_as 23 = .ok (.aload_n 3, 1) := by decide +kernel
theorem dX7_as_24 : decode cX7_as 24 = .ok (.iload_n 2, 1) := by decide +kernel
theorem dX7_as_25 : decode cX7_as 25 = .ok (.invokestatic 129, 3) := by decide +kernel
theorem dX7_as_28 : decode cX7_as 28 = .ok (.ifCond .eq 7, 3) := by decide +kernel
theorem dX7_as_31 : decode cX7_as 31 = .ok (.iload_n 1, 1) := by decide +kernel
theorem dX7_as_32 : decode cX7_as 32 = .ok (.goto 4, 3) := by decide +kernel
theorem dX7_as_35 : decode cX7_as 35 = .ok (.iconst (-1), 1) := by decide +kernel
theorem dX7_as_36 : decode cX7_as 36 = .ok (.ireturn, 1) := by decide +kernel
set_option maxRecDepth 20000 in
theorem ggX7_sees_X7_known : GoodIn wsX7_sees wsX7_known := goodIn_r _ [5, 6, 7, 51, 52, 53, 54, 55, 56, 57, 58, 59, 60, 61, 62, 63, 64, 65, 66] (by decide +kernel) (by decide +kernel)
set_option maxRecDepth 20000 in
theorem gX7_sees_X7_known : GoodIn wsX7_sees (wsV RX7 113 RX7 yX7_known wsX7_known) := goodIn_app (goodIn_of _ (by decide +kernel)) ggX7_sees_X7_known
set_option maxRecDepth 20000 in
theorem ggX7_sees_X7_isHue : GoodIn wsX7_sees wsX7_isHue := goodIn_r _ [10] (by decide +kernel) (by decide +kernel)
set_option maxRecDepth 20000 in
theorem gX7_sees_X7_isHue : GoodIn wsX7_sees (va_wsS RX7 104 yX7_isHue wsX7_isHue) := goodIn_app (goodIn_of _ (by decide +kernel)) ggX7_sees_X7_isHue
set_option maxRecDepth 20000 in
theorem ggX7_sees_X0_glimpse : GoodIn wsX7_sees wsX0_glimpse := goodIn_r _ [17, 18, 19, 20, 21, 67, 68, 69, 70, 71, 72, 73, 74, 75, 76, 77, 78, 79, 80, 81, 82, 83, 84, 85, 86, 87, 88, 89, 90, 91, 92, 93, 94, 95, 96] (by decide +kernel) (by decide +kernel)
set_option maxRecDepth 20000 in
theorem gX7_sees_X0_glimpse_u116X0 : GoodIn wsX7_sees (va_wsO RX7 116 RX0 "EachEye$Person" ⟨"EachEye$Person", "glimpse", "(I)I"⟩ yX0_glimpse wsX0_glimpse) := goodIn_app (goodIn_of _ (by decide +kernel)) ggX7_sees_X0_glimpse
set_option maxRecDepth 20000 in
theorem ggX7_sees_X2_glimpse : GoodIn wsX7_sees wsX2_glimpse := goodIn_r _ [26, 27, 28, 29, 30, 67, 68, 69, 70, 71, 72, 73, 74, 75, 76, 77, 78, 79, 80, 81, 82, 83, 84, 85, 86, 87, 88, 89, 90, 91, 92, 93, 94, 95, 96] (by decide +kernel) (by decide +kernel)
set_option maxRecDepth 20000 in
theorem gX7_sees_X2_glimpse_u116X2 : GoodIn wsX7_sees (va_wsO RX7 116 RX2 "EachEye$Person" ⟨"EachEye$Person", "glimpse", "(I)I"⟩ yX2_glimpse wsX2_glimpse) := goodIn_app (goodIn_of _ (by decide +kernel)) ggX7_sees_X2_glimpse
set_option maxRecDepth 20000 in
theorem ggX7_sees_X4_glimpse : GoodIn wsX7_sees wsX4_glimpse := goodIn_r _ [22, 35, 36, 67, 68, 69, 70, 71, 72, 73, 74, 75, 76, 77, 78, 79, 80, 81, 82, 83, 84, 85, 86, 87, 88, 89, 90, 91, 92, 93, 94, 95, 96] (by decide +kernel) (by decide +kernel)
set_option maxRecDepth 20000 in
theorem gX7_sees_X4_glimpse : GoodIn wsX7_sees (wsV RX7 116 RX4 yX4_glimpse wsX4_glimpse) := goodIn_app (goodIn_of _ (by decide +kernel)) ggX7_sees_X4_glimpse
set_option maxRecDepth 20000 in
theorem ggX7_sees_X5_glimpse : GoodIn wsX7_sees wsX5_glimpse := goodIn_r _ [40, 41, 42, 67, 68, 69, 70, 71, 72, 73, 74, 75, 76, 77, 78, 79, 80, 81, 82, 83, 84, 85, 86, 87, 88, 89, 90, 91, 92, 93, 94, 95, 96] (by decide +kernel) (by decide +kernel)
set_option maxRecDepth 20000 in
theorem gX7_sees_X5_glimpse_u116X5 : GoodIn wsX7_sees (va_wsO RX7 116 RX5 "EachEye$Person" ⟨"EachEye$Person", "glimpse", "(I)I"⟩ yX5_glimpse wsX5_glimpse) := goodIn_app (goodIn_of _ (by decide +kernel)) ggX7_sees_X5_glimpse
set_option maxRecDepth 20000 in
theorem ggX7_sees_X6_glimpse : GoodIn wsX7_sees wsX6_glimpse := goodIn_r _ [46, 47, 48, 49, 50, 67, 68, 69, 70, 71, 72, 73, 74, 75, 76, 77, 78, 79, 80, 81, 82, 83, 84, 85, 86, 87, 88, 89, 90, 91, 92, 93, 94, 95, 96] (by decide +kernel) (by decide +kernel)
set_option maxRecDepth 20000 in
theorem gX7_sees_X6_glimpse_u116X6 : GoodIn wsX7_sees (va_wsO RX7 116 RX6 "EachEye$Person" ⟨"EachEye$Person", "glimpse", "(I)I"⟩ yX6_glimpse wsX6_glimpse) := goodIn_app (goodIn_of _ (by decide +kernel)) ggX7_sees_X6_glimpse
theorem dX7_sees_0 : decode cX7_sees 0 = .ok (.aload_n 0, 1) := by decide +kernel
theorem dX7_sees_1 : decode cX7_sees 1 = .ok (.iload_n 1, 1) := by decide +kernel
theorem dX7_sees_2 : decode cX7_sees 2 = .ok (.invokevirtual 113, 3) := by decide +kernel
theorem dX7_sees_5 : decode cX7_sees 5 = .ok (.astore_n 3, 1) := by decide +kernel
theorem dX7_sees_6 : decode cX7_sees 6 = .ok (.aload_n 3, 1) := by decide +kernel
theorem dX7_sees_7 : decode cX7_sees 7 = .ok (.ifnonnull 6, 3) := by decide +kernel
theorem dX7_sees_10 : decode cX7_sees 10 = .ok (.bipush (-101), 2) := by decide +kernel
theorem dX7_sees_12 : decode cX7_sees 12 = .ok (.ireturn, 1) := by decide +kernel
theorem dX7_sees_13 : decode cX7_sees 13 = .ok (.iload_n 2, 1) := by decide +kernel
theorem dX7_sees_14 : decode cX7_sees 14 = .ok (.invokestatic 104, 3) := by decide +kernel
theorem dX7_sees_17 : decode cX7_sees 17 = .ok (.ifCond .ne 6, 3) := by decide +kernel
theorem dX7_sees_20 : decode cX7_sees 20 = .ok (.bipush (-102), 2) := by decide +kernel
theorem dX7_sees_22 : decode cX7_sees 22 = .ok (.ireturn, 1) := by decide +kernel
theorem dX7_sees_23 : decode cX7_sees 23 = .ok (.aload_n 3, 1) := by decide +kernel
theorem dX7_sees_24 : decode cX7_sees 24 = .ok (.iload_n 2, 1) := by decide +kernel
theorem dX7_sees_25 : decode cX7_sees 25 = .ok (.invokevirtual 116, 3) := by decide +kernel
theorem dX7_sees_28 : decode cX7_sees 28 = .ok (.ireturn, 1) := by decide +kernel
set_option maxRecDepth 20000 in
theorem ggX7_eye_X7_known : GoodIn wsX7_eye wsX7_known := goodIn_r _ [7, 8, 9, 43, 44, 45, 46, 47, 48, 49, 50, 51, 52, 53, 54, 55, 56, 57, 58] (by decide +kernel) (by decide +kernel)
set_option maxRecDepth 20000 in
theorem gX7_eye_X7_known : GoodIn wsX7_eye (wsV RX7 113 RX7 yX7_known wsX7_known) := goodIn_app (goodIn_of _ (by decide +kernel)) ggX7_eye_X7_known
set_option maxRecDepth 20000 in
theorem ggX7_eye_X7_isHue : GoodIn wsX7_eye wsX7_isHue := goodIn_r _ [12] (by decide +kernel) (by decide +kernel)
set_option maxRecDepth 20000 in
theorem gX7_eye_X7_isHue : GoodIn wsX7_eye (va_wsS RX7 104 yX7_isHue wsX7_isHue) := goodIn_app (goodIn_of _ (by decide +kernel)) ggX7_eye_X7_isHue
theorem dX7_eye_0 : decode cX7_eye 0 = .ok (.aload_n 0, 1) := by decide +kernel
theorem dX7_eye_1 : decode cX7_eye 1 = .ok (.iload_n 1, 1) := by decide +kernel
theorem dX7_eye_2 : decode cX7_eye 2 = .ok (.invokevirtual 113, 3) := by decide +kernel
theorem dX7_eye_5 : decode cX7_eye 5 = .ok (.astore 4, 2) := by decide +kernel
theorem dX7_eye_7 : decode cX7_eye 7 = .ok (.aload 4, 2) := by decide +kernel
theorem dX7_eye_9 : decode cX7_eye 9 = .ok (.ifnonnull 6, 3) := by decide +kernel
theorem dX7_eye_12 : decode cX7_eye 12 = .ok (.bipush (-101), 2) := by decide +kernel
theorem dX7_eye_14 : decode cX7_eye 14 = .ok (.ireturn, 1) := by decide +kernel
theorem dX7_eye_15 : decode cX7_eye 15 = .ok (.iload_n 2, 1) := by decide +kernel
theorem dX7_eye_16 : decode cX7_eye 16 = .ok (.ifCond .lt 15, 3) := by decide +kernel
theorem dX7_eye_19 : decode cX7_eye 19 = .ok (.iload_n 2, 1) := by decide +kernel
theorem dX7_eye_20 : decode cX7_eye 20 = .ok (.iconst 1, 1) := by decide +kernel
theorem dX7_eye_21 : decode cX7_eye 21 = .ok (.if_icmp .gt 10, 3) := by decide +kernel
theorem dX7_eye_24 : decode cX7_eye 24 = .ok (.iload_n 3, 1) := by decide +kernel
theorem dX7_eye_25 : decode cX7_eye 25 = .ok (.invokestatic 104, 3) := by decide +kernel
theorem dX7_eye_28 : decode cX7_eye 28 = .ok (.ifCond .ne 6, 3) := by decide +kernel
theorem dX7_eye_31 : decode cX7_eye 31 = .ok (.bipush (-102), 2) := by decide +kernel
theorem dX7_eye_33 : decode cX7_eye 33 = .ok (.ireturn, 1) := by decide +kernel
theorem dX7_eye_34 : decode cX7_eye 34 = .ok (.iload_n 2, 1) := by decide +kernel
theorem dX7_eye_35 : decode cX7_eye 35 = .ok (.ifCond .ne 11, 3) := by decide +kernel
theorem dX7_eye_38 : decode cX7_eye 38 = .ok (.aload 4, 2) := by decide +kernel
theorem dX7_eye_40 : decode cX7_eye 40 = .ok (.getfield 107, 3) := by decide +kernel
theorem dX7_eye_43 : decode cX7_eye 43 = .ok (.goto 8, 3) := by decide +kernel
theorem dX7_eye_46 : decode cX7_eye 46 = .ok (.aload 4, 2) := by decide +kernel
theorem dX7_eye_48 : decode cX7_eye 48 = .ok (.getfield 110, 3) := by decide +kernel
theorem dX7_eye_51 : decode cX7_eye 51 = .ok (.istore 5, 2) := by decide +kernel
theorem dX7_eye_53 : decode cX7_eye 53 = .ok (.iload_n 2, 1) := by decide +kernel
theorem dX7_eye_54 : decode cX7_eye 54 = .ok (.ifCond .ne 12, 3) := by decide +kernel
theorem dX7_eye_57 : decode cX7_eye 57 = .ok (.aload 4, 2) := by decide +kernel
theorem dX7_eye_59 : decode cX7_eye 59 = .ok (.iload_n 3, 1) := by decide +kernel
theorem dX7_eye_60 : decode cX7_eye 60 = .ok (.putfield 107, 3) := by decide +kernel
theorem dX7_eye_63 : decode cX7_eye 63 = .ok (.goto 9, 3) := by decide +kernel
theorem dX7_eye_66 : decode cX7_eye 66 = .ok (.aload 4, 2) := by decide +kernel
theorem dX7_eye_68 : decode cX7_eye 68 = .ok (.iload_n 3, 1) := by decide +kernel
theorem dX7_eye_69 : decode cX7_eye 69 = .ok (.putfield 110, 3) := by decide +kernel
theorem dX7_eye_72 : decode cX7_eye 72 = .ok (.iload 5, 2) := by decide +kernel
theorem dX7_eye_74 : decode cX7_eye 74 = .ok (.ireturn, 1) := by decide +kernel
set_option maxRecDepth 20000 in
theorem ggX7_ink_X7_isHue : GoodIn wsX7_ink wsX7_isHue := goodIn_r _ [7] (by decide +kernel) (by decide +kernel)
set_option maxRecDepth 20000 in
theorem gX7_ink_X7_isHue : GoodIn wsX7_ink (va_wsS RX7 104 yX7_isHue wsX7_isHue) := goodIn_app (goodIn_of _ (by decide +kernel)) ggX7_ink_X7_isHue
theorem dX7_ink_0 : decode cX7_ink 0 = .ok (.iload_n 1, 1) := by decide +kernel
theorem dX7_ink_1 : decode cX7_ink 1 = .ok (.invokestatic 104, 3) := by decide +kernel
theorem dX7_ink_4 : decode cX7_ink 4 = .ok (.ifCond .eq 7, 3) := by decide +kernel
theorem dX7_ink_7 : decode cX7_ink 7 = .ok (.iload_n 1, 1) := by decide +kernel
theorem dX7_ink_8 : decode cX7_ink 8 = .ok (.ifCond .ne 6, 3) := by decide +kernel
theorem dX7_ink_11 : decode cX7_ink 11 = .ok (.bipush (-102), 2) := by decide +kernel
theorem dX7_ink_13 : decode cX7_ink 13 = .ok (.ireturn, 1) := by decide +kernel
theorem dX7_ink_14 : decode cX7_ink 14 = .ok (.aload_n 0, 1) := by decide +kernel
theorem dX7_ink_15 : decode cX7_ink 15 = .ok (.getfield 39, 3) := by decide +kernel
theorem dX7_ink_18 : decode cX7_ink 18 = .ok (.iconst (-1), 1) := by decide +kernel
theorem dX7_ink_19 : decode cX7_ink 19 = .ok (.if_icmp .ne 6, 3) := by decide +kernel
theorem dX7_ink_22 : decode cX7_ink 22 = .ok (.bipush (-103), 2) := by decide +kernel
theorem dX7_ink_24 : decode cX7_ink 24 = .ok (.ireturn, 1) := by decide +kernel
theorem dX7_ink_25 : decode cX7_ink 25 = .ok (.aload_n 0, 1) := by decide +kernel
theorem dX7_ink_26 : decode cX7_ink 26 = .ok (.getfield 70, 3) := by decide +kernel
theorem dX7_ink_29 : decode cX7_ink 29 = .ok (.iconst 5, 1) := by decide +kernel
theorem dX7_ink_30 : decode cX7_ink 30 = .ok (.if_icmp .lt 6, 3) := by decide +kernel
theorem dX7_ink_33 : decode cX7_ink 33 = .ok (.bipush (-104), 2) := by decide +kernel
theorem dX7_ink_35 : decode cX7_ink 35 = .ok (.ireturn, 1) := by decide +kernel
theorem dX7_ink_36 : decode cX7_ink 36 = .ok (.aload_n 0, 1) := by decide +kernel
theorem dX7_ink_37 : decode cX7_ink 37 = .ok (.getfield 22, 3) := by decide +kernel
theorem dX7_ink_40 : decode cX7_ink 40 = .ok (.aload_n 0, 1) := by decide +kernel
theorem dX7_ink_41 : decode cX7_ink 41 = .ok (.getfield 70, 3) := by decide +kernel
theorem dX7_ink_44 : decode cX7_ink 44 = .ok (.iload_n 1, 1) := by decide +kernel
theorem dX7_ink_45 : decode cX7_ink 45 = .ok (.iastore, 1) := by decide +kernel
theorem dX7_ink_46 : decode cX7_ink 46 = .ok (.aload_n 0, 1) := by decide +kernel
theorem dX7_ink_47 : decode cX7_ink 47 = .ok (.dup, 1) := by decide +kernel
theorem dX7_ink_48 : decode cX7_ink 48 = .ok (.getfield 70, 3) := by decide +kernel
theorem dX7_ink_51 : decode cX7_ink 51 = .ok (.iconst 1, 1) := by decide +kernel
theorem dX7_ink_52 : decode cX7_ink 52 = .ok (.iadd, 1) := by decide +kernel
theorem dX7_ink_53 : decode cX7_ink 53 = .ok (.putfield 70, 3) := by decide +kernel
theorem dX7_ink_56 : decode cX7_ink 56 = .ok (.aload_n 0, 1) := by decide +kernel
theorem dX7_ink_57 : decode cX7_ink 57 = .ok (.getfield 70, 3) := by decide +kernel
theorem dX7_ink_60 : decode cX7_ink 60 = .ok (.iconst 1, 1) := by decide +kernel
theorem dX7_ink_61 : decode cX7_ink 61 = .ok (.isub, 1) := by decide +kernel
theorem dX7_ink_62 : decode cX7_ink 62 = .ok (.ireturn, 1) := by decide +kernel
set_option maxRecDepth 20000 in
theorem ggX7_inkOf_X7_isInk : GoodIn wsX7_inkOf wsX7_isInk := goodIn_r _ [6, 7, 8, 9, 10, 11, 12, 13, 14, 15, 16, 17, 18, 19, 20, 21, 22, 23] (by decide +kernel) (by decide +kernel)
set_option maxRecDepth 20000 in
theorem gX7_inkOf_X7_isInk : GoodIn wsX7_inkOf (wsV RX7 89 RX7 yX7_isInk wsX7_isInk) := goodIn_app (goodIn_of _ (by decide +kernel)) ggX7_inkOf_X7_isInk
theorem dX7_inkOf_0 : decode cX7_inkOf 0 = .ok (.aload_n 0, 1) := by decide +kernel
theorem dX7_inkOf_1 : decode cX7_inkOf 1 = .ok (.iload_n 1, 1) := by decide +kernel
theorem dX7_inkOf_2 : decode cX7_inkOf 2 = .ok (.invokevirtual 89, 3) := by decide +kernel
theorem dX7_inkOf_5 : decode cX7_inkOf 5 = .ok (.ifCond .eq 12, 3) := by decide +kernel
theorem dX7_inkOf_8 : decode cX7_inkOf 8 = .ok (.aload_n 0, 1) := by decide +kernel
theorem dX7_inkOf_9 : decode cX7_inkOf 9 = .ok (.getfield 22, 3) := by decide +kernel
theorem dX7_inkOf_12 : decode cX7_inkOf 12 = .ok (.iload_n 1, 1) := by decide +kernel
theorem dX7_inkOf_13 : decode cX7_inkOf 13 = .ok (.iaload, 1) := by decide +kernel
theorem dX7_inkOf_14 : decode cX7_inkOf 14 = .ok (.goto 5, 3) := by decide +kernel
theorem dX7_inkOf_17 : decode cX7_inkOf 17 = .ok (.bipush (-101), 2) := by decide +kernel
theorem dX7_inkOf_19 : decode cX7_inkOf 19 = .ok (.ireturn, 1) := by decide +kernel
set_option maxRecDepth 20000 in
theorem ggX7_word_X7_known : GoodIn wsX7_word wsX7_known := goodIn_r _ [7, 8, 9, 33, 34, 35, 36, 37, 38, 39, 40, 41, 42, 43, 44, 45, 46, 47, 48] (by decide +kernel) (by decide +kernel)
set_option maxRecDepth 20000 in
theorem gX7_word_X7_known : GoodIn wsX7_word (wsV RX7 113 RX7 yX7_known wsX7_known) := goodIn_app (goodIn_of _ (by decide +kernel)) ggX7_word_X7_known
set_option maxRecDepth 20000 in
theorem ggX7_word_X3_asText : GoodIn wsX7_word wsX3_asText := goodIn_r _ [14, 15, 16, 17, 18, 19, 13, 20, 21, 6, 22, 23, 24, 79, 80] (by decide +kernel) (by decide +kernel)
set_option maxRecDepth 20000 in
theorem gX7_word_X3_asText : GoodIn wsX7_word (wsV RX7 64 RX3 yX3_asText wsX3_asText) := goodIn_app (goodIn_of _ (by decide +kernel)) ggX7_word_X3_asText
set_option maxRecDepth 20000 in
theorem ggX7_word_X3_empty : GoodIn wsX7_word wsX3_empty := goodIn_r _ [28, 15, 79, 80] (by decide +kernel) (by decide +kernel)
set_option maxRecDepth 20000 in
theorem gX7_word_X3_empty : GoodIn wsX7_word (wsV RX7 57 RX3 yX3_empty wsX3_empty) := goodIn_app (goodIn_of _ (by decide +kernel)) ggX7_word_X3_empty
set_option maxRecDepth 20000 in
theorem ggX7_word_X7_toldPeople : GoodIn wsX7_word wsX7_toldPeople := goodIn_r _ [32, 8, 2, 3, 4, 5, 6, 7, 9, 33, 34, 35, 36, 37, 38, 39, 40, 41, 42, 43, 44, 45, 46, 47, 48, 49, 50, 51, 52, 53, 54, 55, 56, 57, 58, 59, 60, 61, 62, 63, 64, 65, 66, 67, 68, 69, 70, 71, 72, 73, 74, 75, 76, 77, 78] (by decide +kernel) (by decide +kernel)
set_option maxRecDepth 20000 in
theorem gX7_word_X7_toldPeople : GoodIn wsX7_word (wsV RX7 133 RX7 yX7_toldPeople wsX7_toldPeople) := goodIn_app (goodIn_of _ (by decide +kernel)) ggX7_word_X7_toldPeople
theorem dX7_word_0 : decode cX7_word 0 = .ok (.aload_n 0, 1) := by decide +kernel
theorem dX7_word_1 : decode cX7_word 1 = .ok (.iload_n 1, 1) := by decide +kernel
theorem dX7_word_2 : decode cX7_word 2 = .ok (.invokevirtual 113, 3) := by decide +kernel
theorem dX7_word_5 : decode cX7_word 5 = .ok (.astore_n 2, 1) := by decide +kernel
theorem dX7_word_6 : decode cX7_word 6 = .ok (.aload_n 2, 1) := by decide +kernel
theorem dX7_word_7 : decode cX7_word 7 = .ok (.ifnonnull 6, 3) := by decide +kernel
theorem dX7_word_10 : decode cX7_word 10 = .ok (.bipush (-101), 2) := by decide +kernel
theorem dX7_word_12 : decode cX7_word 12 = .ok (.ireturn, 1) := by decide +kernel
theorem dX7_word_13 : decode cX7_word 13 = .ok (.aload_n 0, 1) := by decide +kernel
theorem dX7_word_14 : decode cX7_word 14 = .ok (.getfield 12, 3) := by decide +kernel
theorem dX7_word_17 : decode cX7_word 17 = .ok (.invokevirtual 64, 3) := by decide +kernel
theorem dX7_word_20 : decode cX7_word 20 = .ok (.istore_n 3, 1) := by decide +kernel
theorem dX7_word_21 : decode cX7_word 21 = .ok (.iload_n 3, 1) := by decide +kernel
theorem dX7_word_22 : decode cX7_word 22 = .ok (.iconst (-1), 1) := by decide +kernel
theorem dX7_word_23 : decode cX7_word 23 = .ok (.if_icmp .ne 6, 3) := by decide +kernel
theorem dX7_word_26 : decode cX7_word 26 = .ok (.bipush (-103), 2) := by decide +kernel
theorem dX7_word_28 : decode cX7_word 28 = .ok (.ireturn, 1) := by decide +kernel
theorem dX7_word_29 : decode cX7_word 29 = .ok (.aload_n 2, 1) := by decide +kernel
theorem dX7_word_30 : decode cX7_word 30 = .ok (.iload_n 3, 1) := by decide +kernel
theorem dX7_word_31 : decode cX7_word 31 = .ok (.putfield 120, 3) := by decide +kernel
theorem dX7_word_34 : decode cX7_word 34 = .ok (.aload_n 0, 1) := by decide +kernel
theorem dX7_word_35 : decode cX7_word 35 = .ok (.getfield 12, 3) := by decide +kernel
theorem dX7_word_38 : decode cX7_word 38 = .ok (.invokevirtual 57, 3) := by decide +kernel
theorem dX7_word_41 : decode cX7_word 41 = .ok (.aload_n 0, 1) := by decide +kernel
theorem dX7_word_42 : decode cX7_word 42 = .ok (.invokevirtual 133, 3) := by decide +kernel
theorem dX7_word_45 : decode cX7_word 45 = .ok (.ireturn, 1) := by decide +kernel
set_option maxRecDepth 20000 in
theorem ggX7_unword_X7_known : GoodIn wsX7_unword wsX7_known := goodIn_r _ [6, 7, 8, 39, 40, 41, 42, 43, 44, 45, 46, 47, 48, 49, 50, 51, 52, 53, 54] (by decide +kernel) (by decide +kernel)
set_option maxRecDepth 20000 in
theorem gX7_unword_X7_known : GoodIn wsX7_unword (wsV RX7 113 RX7 yX7_known wsX7_known) := goodIn_app (goodIn_of _ (by decide +kernel)) ggX7_unword_X7_known
theorem dX7_unword_0 : decode cX7_unword 0 = .ok (.aload_n 0, 1) := by decide +kernel
theorem dX7_unword_1 : decode cX7_unword 1 = .ok (.iload_n 1, 1) := by decide +kernel
theorem dX7_unword_2 : decode cX7_unword 2 = .ok (.invokevirtual 113, 3) := by decide +kernel
theorem dX7_unword_5 : decode cX7_unword 5 = .ok (.astore_n 2, 1) := by decide +kernel
theorem dX7_unword_6 : decode cX7_unword 6 = .ok (.aload_n 2, 1) := by decide +kernel
theorem dX7_unword_7 : decode cX7_unword 7 = .ok (.ifnonnull 6, 3) := by decide +kernel
theorem dX7_unword_10 : decode cX7_unword 10 = .ok (.bipush (-101), 2) := by decide +kernel
theorem dX7_unword_12 : decode cX7_unword 12 = .ok (.ireturn, 1) := by decide +kernel
theorem dX7_unword_13 : decode cX7_unword 13 = .ok (.aload_n 2, 1) := by decide +kernel
theorem dX7_unword_14 : decode cX7_unword 14 = .ok (.getfield 120, 3) := by decide +kernel
theorem dX7_unword_17 : decode cX7_unword 17 = .ok (.iconst (-1), 1) := by decide +kernel
theorem dX7_unword_18 : decode cX7_unword 18 = .ok (.if_icmp .ne 7, 3) := by decide +kernel
theorem dX7_unword_21 : decode cX7_unword 21 = .ok (.iconst 0, 1) := by decide +kernel
theorem dX7_unword_22 : decode cX7_unword 22 = .ok (.goto 4, 3) := by decide +kernel
theorem dX7_unword_25 : decode cX7_unword 25 = .ok (.iconst 1, 1) := by decide +kernel
theorem dX7_unword_26 : decode cX7_unword 26 = .ok (.istore_n 3, 1) := by decide +kernel
theorem dX7_unword_27 : decode cX7_unword 27 = .ok (.aload_n 2, 1) := by decide +kernel
theorem dX7_unword_28 : decode cX7_unword 28 = .ok (.iconst (-1), 1) := by decide +kernel
theorem dX7_unword_29 : decode cX7_unword 29 = .ok (.putfield 120, 3) := by decide +kernel
theorem dX7_unword_32 : decode cX7_unword 32 = .ok (.iload_n 3, 1) := by decide +kernel
theorem dX7_unword_33 : decode cX7_unword 33 = .ok (.ireturn, 1) := by decide +kernel
set_option maxRecDepth 20000 in
theorem ggX7_differ_X7_known : GoodIn wsX7_differ wsX7_known := goodIn_r _ [6, 7, 8, 52, 53, 54, 55, 56, 57, 58, 59, 60, 61, 62, 63, 64, 65, 66, 67] (by decide +kernel) (by decide +kernel)
set_option maxRecDepth 20000 in
theorem gX7_differ_X7_known : GoodIn wsX7_differ (wsV RX7 113 RX7 yX7_known wsX7_known) := goodIn_app (goodIn_of _ (by decide +kernel)) ggX7_differ_X7_known
set_option maxRecDepth 20000 in
theorem ggX7_differ_X7_hueAt : GoodIn wsX7_differ wsX7_hueAt := goodIn_r _ [11] (by decide +kernel) (by decide +kernel)
set_option maxRecDepth 20000 in
theorem gX7_differ_X7_hueAt : GoodIn wsX7_differ (va_wsS RX7 85 yX7_hueAt wsX7_hueAt) := goodIn_app (goodIn_of _ (by decide +kernel)) ggX7_differ_X7_hueAt
set_option maxRecDepth 20000 in
theorem ggX7_differ_X0_glimpse : GoodIn wsX7_differ wsX0_glimpse := goodIn_r _ [18, 19, 20, 21, 22, 68, 69, 70, 71, 72, 73, 74, 75, 76, 77, 78, 79, 80, 81, 82, 83, 84, 85, 86, 87, 88, 89, 90, 91, 92, 93, 94, 95, 96, 97] (by decide +kernel) (by decide +kernel)
set_option maxRecDepth 20000 in
theorem gX7_differ_X0_glimpse_u116X0 : GoodIn wsX7_differ (va_wsO RX7 116 RX0 "EachEye$Person" ⟨"EachEye$Person", "glimpse", "(I)I"⟩ yX0_glimpse wsX0_glimpse) := goodIn_app (goodIn_of _ (by decide +kernel)) ggX7_differ_X0_glimpse
set_option maxRecDepth 20000 in
theorem ggX7_differ_X2_glimpse : GoodIn wsX7_differ wsX2_glimpse := goodIn_r _ [27, 28, 29, 30, 31, 68, 69, 70, 71, 72, 73, 74, 75, 76, 77, 78, 79, 80, 81, 82, 83, 84, 85, 86, 87, 88, 89, 90, 91, 92, 93, 94, 95, 96, 97] (by decide +kernel) (by decide +kernel)
set_option maxRecDepth 20000 in
theorem gX7_differ_X2_glimpse_u116X2 : GoodIn wsX7_differ (va_wsO RX7 116 RX2 "EachEye$Person" ⟨"EachEye$Person", "glimpse", "(I)I"⟩ yX2_glimpse wsX2_glimpse) := goodIn_app (goodIn_of _ (by decide +kernel)) ggX7_differ_X2_glimpse
set_option maxRecDepth 20000 in
theorem ggX7_differ_X4_glimpse : GoodIn wsX7_differ wsX4_glimpse := goodIn_r _ [23, 36, 37, 68, 69, 70, 71, 72, 73, 74, 75, 76, 77, 78, 79, 80, 81, 82, 83, 84, 85, 86, 87, 88, 89, 90, 91, 92, 93, 94, 95, 96, 97] (by decide +kernel) (by decide +kernel)
set_option maxRecDepth 20000 in
theorem gX7_differ_X4_glimpse : GoodIn wsX7_differ (wsV RX7 116 RX4 yX4_glimpse wsX4_glimpse) := goodIn_app (goodIn_of _ (by decide +kernel)) ggX7_differ_X4_glimpse
set_option maxRecDepth 20000 in
theorem ggX7_differ_X5_glimpse : GoodIn wsX7_differ wsX5_glimpse := goodIn_r _ [41, 42, 43, 68, 69, 70, 71, 72, 73, 74, 75, 76, 77, 78, 79, 80, 81, 82, 83, 84, 85, 86, 87, 88, 89, 90, 91, 92, 93, 94, 95, 96, 97] (by decide +kernel) (by decide +kernel)
set_option maxRecDepth 20000 in
theorem gX7_differ_X5_glimpse_u116X5 : GoodIn wsX7_differ (va_wsO RX7 116 RX5 "EachEye$Person" ⟨"EachEye$Person", "glimpse", "(I)I"⟩ yX5_glimpse wsX5_glimpse) := goodIn_app (goodIn_of _ (by decide +kernel)) ggX7_differ_X5_glimpse
set_option maxRecDepth 20000 in
theorem ggX7_differ_X6_glimpse : GoodIn wsX7_differ wsX6_glimpse := goodIn_r _ [47, 48, 49, 50, 51, 68, 69, 70, 71, 72, 73, 74, 75, 76, 77, 78, 79, 80, 81, 82, 83, 84, 85, 86, 87, 88, 89, 90, 91, 92, 93, 94, 95, 96, 97] (by decide +kernel) (by decide +kernel)
set_option maxRecDepth 20000 in
theorem gX7_differ_X6_glimpse_u116X6 : GoodIn wsX7_differ (va_wsO RX7 116 RX6 "EachEye$Person" ⟨"EachEye$Person", "glimpse", "(I)I"⟩ yX6_glimpse wsX6_glimpse) := goodIn_app (goodIn_of _ (by decide +kernel)) ggX7_differ_X6_glimpse
theorem dX7_differ_0 : decode cX7_differ 0 = .ok (.aload_n 0, 1) := by decide +kernel
end
section
theorem dX7_differ_1 : decode cX7_differ 1 = .ok (.iload_n 1, 1) := by decide +kernel
theorem dX7_differ_2 : decode cX7_differ 2 = .ok (.invokevirtual 113, 3) := by decide +kernel
theorem dX7_differ_5 : decode cX7_differ 5 = .ok (.astore_n 3, 1) := by decide +kernel
theorem dX7_differ_6 : decode cX7_differ 6 = .ok (.aload_n 0, 1) := by decide +kernel
theorem dX7_differ_7 : decode cX7_differ 7 = .ok (.iload_n 2, 1) := by decide +kernel
theorem dX7_differ_8 : decode cX7_differ 8 = .ok (.invokevirtual 113, 3) := by decide +kernel
theorem dX7_differ_11 : decode cX7_differ 11 = .ok (.astore 4, 2) := by decide +kernel
theorem dX7_differ_13 : decode cX7_differ 13 = .ok (.aload_n 3, 1) := by decide +kernel
theorem dX7_differ_14 : decode cX7_differ 14 = .ok (.ifnull 8, 3) := by decide +kernel
theorem dX7_differ_17 : decode cX7_differ 17 = .ok (.aload 4, 2) := by decide +kernel
theorem dX7_differ_19 : decode cX7_differ 19 = .ok (.ifnonnull 6, 3) := by decide +kernel
theorem dX7_differ_22 : decode cX7_differ 22 = .ok (.bipush (-101), 2) := by decide +kernel
theorem dX7_differ_24 : decode cX7_differ 24 = .ok (.ireturn, 1) := by decide +kernel
theorem dX7_differ_25 : decode cX7_differ 25 = .ok (.iconst 0, 1) := by decide +kernel
theorem dX7_differ_26 : decode cX7_differ 26 = .ok (.istore 5, 2) := by decide +kernel
theorem dX7_differ_28 : decode cX7_differ 28 = .ok (.iload 5, 2) := by decide +kernel
theorem dX7_differ_30 : decode cX7_differ 30 = .ok (.bipush 6, 2) := by decide +kernel
theorem dX7_differ_32 : decode cX7_differ 32 = .ok (.if_icmp .ge 39, 3) := by decide +kernel
theorem dX7_differ_35 : decode cX7_differ 35 = .ok (.aload_n 0, 1) := by decide +kernel
theorem dX7_differ_36 : decode cX7_differ 36 = .ok (.getfield 39, 3) := by decide +kernel
theorem dX7_differ_39 : decode cX7_differ 39 = .ok (.iload 5, 2) := by decide +kernel
theorem dX7_differ_41 : decode cX7_differ 41 = .ok (.invokestatic 85, 3) := by decide +kernel
theorem dX7_differ_44 : decode cX7_differ 44 = .ok (.istore 6, 2) := by decide +kernel
theorem dX7_differ_46 : decode cX7_differ 46 = .ok (.aload_n 3, 1) := by decide +kernel
theorem dX7_differ_47 : decode cX7_differ 47 = .ok (.iload 6, 2) := by decide +kernel
theorem dX7_differ_49 : decode cX7_differ 49 = .ok (.invokevirtual 116, 3) := by decide +kernel
theorem dX7_differ_52 : decode cX7_differ 52 = .ok (.aload 4, 2) := by decide +kernel
theorem dX7_differ_54 : decode cX7_differ 54 = .ok (.iload 6, 2) := by decide +kernel
theorem dX7_differ_56 : decode cX7_differ 56 = .ok (.invokevirtual 116, 3) := by decide +kernel
theorem dX7_differ_59 : decode cX7_differ 59 = .ok (.if_icmp .eq 6, 3) := by decide +kernel
theorem dX7_differ_62 : decode cX7_differ 62 = .ok (.iload 5, 2) := by decide +kernel
theorem dX7_differ_64 : decode cX7_differ 64 = .ok (.ireturn, 1) := by decide +kernel
theorem dX7_differ_65 : decode cX7_differ 65 = .ok (.iinc 5 1, 3) := by decide +kernel
theorem dX7_differ_68 : decode cX7_differ 68 = .ok (.goto (-40), 3) := by decide +kernel
theorem dX7_differ_71 : decode cX7_differ 71 = .ok (.iconst (-1), 1) := by decide +kernel
theorem dX7_differ_72 : decode cX7_differ 72 = .ok (.ireturn, 1) := by decide +kernel
set_option maxRecDepth 20000 in
theorem ggX7_alike_X7_known : GoodIn wsX7_alike wsX7_known := goodIn_r _ [5, 6, 7, 48, 49, 50, 51, 52, 53, 54, 55, 56, 57, 58, 59, 60, 61, 62, 63] (by decide +kernel) (by decide +kernel)
set_option maxRecDepth 20000 in
theorem gX7_alike_X7_known : GoodIn wsX7_alike (wsV RX7 113 RX7 yX7_known wsX7_known) := goodIn_app (goodIn_of _ (by decide +kernel)) ggX7_alike_X7_known
set_option maxRecDepth 20000 in
theorem ggX7_alike_X0_glimpse : GoodIn wsX7_alike wsX0_glimpse := goodIn_r _ [14, 15, 16, 17, 18, 64, 65, 66, 67, 68, 69, 70, 71, 72, 73, 74, 75, 76, 77, 78, 79, 80, 81, 82, 83, 84, 85, 86, 87, 88, 89, 90, 91, 92, 93] (by decide +kernel) (by decide +kernel)
set_option maxRecDepth 20000 in
theorem gX7_alike_X0_glimpse_u116X0 : GoodIn wsX7_alike (va_wsO RX7 116 RX0 "EachEye$Person" ⟨"EachEye$Person", "glimpse", "(I)I"⟩ yX0_glimpse wsX0_glimpse) := goodIn_app (goodIn_of _ (by decide +kernel)) ggX7_alike_X0_glimpse
set_option maxRecDepth 20000 in
theorem ggX7_alike_X2_glimpse : GoodIn wsX7_alike wsX2_glimpse := goodIn_r _ [23, 24, 25, 26, 27, 64, 65, 66, 67, 68, 69, 70, 71, 72, 73, 74, 75, 76, 77, 78, 79, 80, 81, 82, 83, 84, 85, 86, 87, 88, 89, 90, 91, 92, 93] (by decide +kernel) (by decide +kernel)
set_option maxRecDepth 20000 in
theorem gX7_alike_X2_glimpse_u116X2 : GoodIn wsX7_alike (va_wsO RX7 116 RX2 "EachEye$Person" ⟨"EachEye$Person", "glimpse", "(I)I"⟩ yX2_glimpse wsX2_glimpse) := goodIn_app (goodIn_of _ (by decide +kernel)) ggX7_alike_X2_glimpse
set_option maxRecDepth 20000 in
theorem ggX7_alike_X4_glimpse : GoodIn wsX7_alike wsX4_glimpse := goodIn_r _ [19, 32, 33, 64, 65, 66, 67, 68, 69, 70, 71, 72, 73, 74, 75, 76, 77, 78, 79, 80, 81, 82, 83, 84, 85, 86, 87, 88, 89, 90, 91, 92, 93] (by decide +kernel) (by decide +kernel)
set_option maxRecDepth 20000 in
theorem gX7_alike_X4_glimpse : GoodIn wsX7_alike (wsV RX7 116 RX4 yX4_glimpse wsX4_glimpse) := goodIn_app (goodIn_of _ (by decide +kernel)) ggX7_alike_X4_glimpse
set_option maxRecDepth 20000 in
theorem ggX7_alike_X5_glimpse : GoodIn wsX7_alike wsX5_glimpse := goodIn_r _ [37, 38, 39, 64, 65, 66, 67, 68, 69, 70, 71, 72, 73, 74, 75, 76, 77, 78, 79, 80, 81, 82, 83, 84, 85, 86, 87, 88, 89, 90, 91, 92, 93] (by decide +kernel) (by decide +kernel)
set_option maxRecDepth 20000 in
theorem gX7_alike_X5_glimpse_u116X5 : GoodIn wsX7_alike (va_wsO RX7 116 RX5 "EachEye$Person" ⟨"EachEye$Person", "glimpse", "(I)I"⟩ yX5_glimpse wsX5_glimpse) := goodIn_app (goodIn_of _ (by decide +kernel)) ggX7_alike_X5_glimpse
set_option maxRecDepth 20000 in
theorem ggX7_alike_X6_glimpse : GoodIn wsX7_alike wsX6_glimpse := goodIn_r _ [43, 44, 45, 46, 47, 64, 65, 66, 67, 68, 69, 70, 71, 72, 73, 74, 75, 76, 77, 78, 79, 80, 81, 82, 83, 84, 85, 86, 87, 88, 89, 90, 91, 92, 93] (by decide +kernel) (by decide +kernel)
set_option maxRecDepth 20000 in
theorem gX7_alike_X6_glimpse_u116X6 : GoodIn wsX7_alike (va_wsO RX7 116 RX6 "EachEye$Person" ⟨"EachEye$Person", "glimpse", "(I)I"⟩ yX6_glimpse wsX6_glimpse) := goodIn_app (goodIn_of _ (by decide +kernel)) ggX7_alike_X6_glimpse
theorem dX7_alike_0 : decode cX7_alike 0 = .ok (.aload_n 0, 1) := by decide +kernel
theorem dX7_alike_1 : decode cX7_alike 1 = .ok (.iload_n 1, 1) := by decide +kernel
theorem dX7_alike_2 : decode cX7_alike 2 = .ok (.invokevirtual 113, 3) := by decide +kernel
theorem dX7_alike_5 : decode cX7_alike 5 = .ok (.astore_n 3, 1) := by decide +kernel
theorem dX7_alike_6 : decode cX7_alike 6 = .ok (.aload_n 0, 1) := by decide +kernel
theorem dX7_alike_7 : decode cX7_alike 7 = .ok (.iload_n 2, 1) := by decide +kernel
theorem dX7_alike_8 : decode cX7_alike 8 = .ok (.invokevirtual 113, 3) := by decide +kernel
theorem dX7_alike_11 : decode cX7_alike 11 = .ok (.astore 4, 2) := by decide +kernel
theorem dX7_alike_13 : decode cX7_alike 13 = .ok (.aload_n 3, 1) := by decide +kernel
theorem dX7_alike_14 : decode cX7_alike 14 = .ok (.ifnull 8, 3) := by decide +kernel
theorem dX7_alike_17 : decode cX7_alike 17 = .ok (.aload 4, 2) := by decide +kernel
theorem dX7_alike_19 : decode cX7_alike 19 = .ok (.ifnonnull 6, 3) := by decide +kernel
theorem dX7_alike_22 : decode cX7_alike 22 = .ok (.bipush (-101), 2) := by decide +kernel
theorem dX7_alike_24 : decode cX7_alike 24 = .ok (.ireturn, 1) := by decide +kernel
theorem dX7_alike_25 : decode cX7_alike 25 = .ok (.iconst 0, 1) := by decide +kernel
theorem dX7_alike_26 : decode cX7_alike 26 = .ok (.istore 5, 2) := by decide +kernel
theorem dX7_alike_28 : decode cX7_alike 28 = .ok (.iconst 0, 1) := by decide +kernel
theorem dX7_alike_29 : decode cX7_alike 29 = .ok (.istore 6, 2) := by decide +kernel
theorem dX7_alike_31 : decode cX7_alike 31 = .ok (.iload 6, 2) := by decide +kernel
theorem dX7_alike_33 : decode cX7_alike 33 = .ok (.bipush 8, 2) := by decide +kernel
theorem dX7_alike_35 : decode cX7_alike 35 = .ok (.if_icmp .ge 28, 3) := by decide +kernel
theorem dX7_alike_38 : decode cX7_alike 38 = .ok (.aload_n 3, 1) := by decide +kernel
theorem dX7_alike_39 : decode cX7_alike 39 = .ok (.iload 6, 2) := by decide +kernel
theorem dX7_alike_41 : decode cX7_alike 41 = .ok (.invokevirtual 116, 3) := by decide +kernel
theorem dX7_alike_44 : decode cX7_alike 44 = .ok (.aload 4, 2) := by decide +kernel
theorem dX7_alike_46 : decode cX7_alike 46 = .ok (.iload 6, 2) := by decide +kernel
theorem dX7_alike_48 : decode cX7_alike 48 = .ok (.invokevirtual 116, 3) := by decide +kernel
theorem dX7_alike_51 : decode cX7_alike 51 = .ok (.if_icmp .ne 6, 3) := by decide +kernel
theorem dX7_alike_54 : decode cX7_alike 54 = .ok (.iinc 5 1, 3) := by decide +kernel
theorem dX7_alike_57 : decode cX7_alike 57 = .ok (.iinc 6 1, 3) := by decide +kernel
theorem dX7_alike_60 : decode cX7_alike 60 = .ok (.goto (-29), 3) := by decide +kernel
theorem dX7_alike_63 : decode cX7_alike 63 = .ok (.iload 5, 2) := by decide +kernel
theorem dX7_alike_65 : decode cX7_alike 65 = .ok (.ireturn, 1) := by decide +kernel
set_option maxRecDepth 20000 in
theorem ggX7_few_X7_fewestInks : GoodIn wsX7_few wsX7_fewestInks := goodIn_r _ [6, 7, 8, 9, 10, 11, 12, 13, 14, 15, 16, 17, 5, 18, 19, 20, 21, 22, 1, 23, 24, 25, 26, 27, 28, 29, 30, 31, 32, 33, 34, 35, 36, 37, 38, 39, 40, 41, 42, 43, 44, 45, 46, 47, 48, 49, 50, 51, 52, 53, 54, 55, 56, 57, 58, 59, 60, 61, 62, 63, 64, 65, 66, 67, 68, 69, 70, 71, 72, 73, 74, 75, 76, 77, 78, 79, 80, 81, 82, 83, 84, 85, 86, 87, 88, 89, 90, 91, 92, 93, 94, 95, 96, 97, 98, 99, 100, 101, 102, 103, 104, 105, 106, 107, 108, 109, 110, 111, 112, 113, 114, 115, 116, 117, 118, 119, 120, 121, 122, 123, 124, 125, 126, 127, 128, 129, 130] (by decide +kernel) (by decide +kernel)
set_option maxRecDepth 20000 in
theorem gX7_few_X7_fewestInks : GoodIn wsX7_few (wsV RX7 136 RX7 yX7_fewestInks wsX7_fewestInks) := goodIn_app (goodIn_of _ (by decide +kernel)) ggX7_few_X7_fewestInks
set_option maxRecDepth 20000 in
theorem ggX7_few_J6_bitCount_0f7a4 : GoodIn wsX7_few wsJ6_bitCount_0f7a4 := goodIn_r _ [11, 12, 13, 14] (by decide +kernel) (by decide +kernel)
set_option maxRecDepth 20000 in
theorem gX7_few_J6_bitCount_0f7a4 : GoodIn wsX7_few (va_wsS RX7 139 yJ6_bitCount_0f7a4 wsJ6_bitCount_0f7a4) := goodIn_app (goodIn_of _ (by decide +kernel)) ggX7_few_J6_bitCount_0f7a4
theorem dX7_few_0 : decode cX7_few 0 = .ok (.iload_n 1, 1) := by decide +kernel
theorem dX7_few_1 : decode cX7_few 1 = .ok (.ifCond .lt 8, 3) := by decide +kernel
theorem dX7_few_4 : decode cX7_few 4 = .ok (.iload_n 1, 1) := by decide +kernel
theorem dX7_few_5 : decode cX7_few 5 = .ok (.iconst 1, 1) := by decide +kernel
theorem dX7_few_6 : decode cX7_few 6 = .ok (.if_icmp .le 6, 3) := by decide +kernel
theorem dX7_few_9 : decode cX7_few 9 = .ok (.bipush (-102), 2) := by decide +kernel
theorem dX7_few_11 : decode cX7_few 11 = .ok (.ireturn, 1) := by decide +kernel
theorem dX7_few_12 : decode cX7_few 12 = .ok (.aload_n 0, 1) := by decide +kernel
theorem dX7_few_13 : decode cX7_few 13 = .ok (.getfield 39, 3) := by decide +kernel
theorem dX7_few_16 : decode cX7_few 16 = .ok (.iconst (-1), 1) := by decide +kernel
theorem dX7_few_17 : decode cX7_few 17 = .ok (.if_icmp .ne 6, 3) := by decide +kernel
theorem dX7_few_20 : decode cX7_few 20 = .ok (.bipush (-103), 2) := by decide +kernel
theorem dX7_few_22 : decode cX7_few 22 = .ok (.ireturn, 1) := by decide +kernel
theorem dX7_few_23 : decode cX7_few 23 = .ok (.aload_n 0, 1) := by decide +kernel
theorem dX7_few_24 : decode cX7_few 24 = .ok (.invokevirtual 136, 3) := by decide +kernel
theorem dX7_few_27 : decode cX7_few 27 = .ok (.istore_n 2, 1) := by decide +kernel
theorem dX7_few_28 : decode cX7_few 28 = .ok (.iload_n 2, 1) := by decide +kernel
theorem dX7_few_29 : decode cX7_few 29 = .ok (.iconst (-1), 1) := by decide +kernel
theorem dX7_few_30 : decode cX7_few 30 = .ok (.if_icmp .ne 5, 3) := by decide +kernel
theorem dX7_few_33 : decode cX7_few 33 = .ok (.iconst (-1), 1) := by decide +kernel
theorem dX7_few_34 : decode cX7_few 34 = .ok (.ireturn, 1) := by decide +kernel
theorem dX7_few_35 : decode cX7_few 35 = .ok (.iload_n 1, 1) := by decide +kernel
theorem dX7_few_36 : decode cX7_few 36 = .ok (.ifCond .ne 10, 3) := by decide +kernel
theorem dX7_few_39 : decode cX7_few 39 = .ok (.iload_n 2, 1) := by decide +kernel
theorem dX7_few_40 : decode cX7_few 40 = .ok (.invokestatic 139, 3) := by decide +kernel
theorem dX7_few_43 : decode cX7_few 43 = .ok (.goto 4, 3) := by decide +kernel
theorem dX7_few_46 : decode cX7_few 46 = .ok (.iload_n 2, 1) := by decide +kernel
theorem dX7_few_47 : decode cX7_few 47 = .ok (.ireturn, 1) := by decide +kernel
set_option maxRecDepth 20000 in
theorem ggX7_card_X7_isHue : GoodIn wsX7_card wsX7_isHue := goodIn_r _ [5] (by decide +kernel) (by decide +kernel)
set_option maxRecDepth 20000 in
theorem gX7_card_X7_isHue : GoodIn wsX7_card (va_wsS RX7 104 yX7_isHue wsX7_isHue) := goodIn_app (goodIn_of _ (by decide +kernel)) ggX7_card_X7_isHue
set_option maxRecDepth 20000 in
theorem ggX7_card_X1_put : GoodIn wsX7_card wsX1_put := goodIn_r _ [10, 11, 12, 13, 30, 31, 32, 33, 34, 35] (by decide +kernel) (by decide +kernel)
set_option maxRecDepth 20000 in
theorem gX7_card_X1_put : GoodIn wsX7_card (wsV RX7 145 RX1 yX1_put wsX1_put) := goodIn_app (goodIn_of _ (by decide +kernel)) ggX7_card_X1_put
theorem dX7_card_0 : decode cX7_card 0 = .ok (.iload_n 1, 1) := by decide +kernel
theorem dX7_card_1 : decode cX7_card 1 = .ok (.invokestatic 104, 3) := by decide +kernel
theorem dX7_card_4 : decode cX7_card 4 = .ok (.ifCond .eq 10, 3) := by decide +kernel
theorem dX7_card_7 : decode cX7_card 7 = .ok (.iload_n 2, 1) := by decide +kernel
theorem dX7_card_8 : decode cX7_card 8 = .ok (.invokestatic 104, 3) := by decide +kernel
theorem dX7_card_11 : decode cX7_card 11 = .ok (.ifCond .ne 6, 3) := by decide +kernel
theorem dX7_card_14 : decode cX7_card 14 = .ok (.bipush (-102), 2) := by decide +kernel
theorem dX7_card_16 : decode cX7_card 16 = .ok (.ireturn, 1) := by decide +kernel
theorem dX7_card_17 : decode cX7_card 17 = .ok (.aload_n 0, 1) := by decide +kernel
theorem dX7_card_18 : decode cX7_card 18 = .ok (.getfield 29, 3) := by decide +kernel
theorem dX7_card_21 : decode cX7_card 21 = .ok (.getfield 144, 3) := by decide +kernel
theorem dX7_card_24 : decode cX7_card 24 = .ok (.bipush 8, 2) := by decide +kernel
theorem dX7_card_26 : decode cX7_card 26 = .ok (.if_icmp .lt 6, 3) := by decide +kernel
theorem dX7_card_29 : decode cX7_card 29 = .ok (.bipush (-104), 2) := by decide +kernel
theorem dX7_card_31 : decode cX7_card 31 = .ok (.ireturn, 1) := by decide +kernel
theorem dX7_card_32 : decode cX7_card 32 = .ok (.aload_n 0, 1) := by decide +kernel
theorem dX7_card_33 : decode cX7_card 33 = .ok (.getfield 29, 3) := by decide +kernel
theorem dX7_card_36 : decode cX7_card 36 = .ok (.iload_n 1, 1) := by decide +kernel
theorem dX7_card_37 : decode cX7_card 37 = .ok (.iload_n 2, 1) := by decide +kernel
theorem dX7_card_38 : decode cX7_card 38 = .ok (.invokevirtual 145, 3) := by decide +kernel
theorem dX7_card_41 : decode cX7_card 41 = .ok (.aload_n 0, 1) := by decide +kernel
theorem dX7_card_42 : decode cX7_card 42 = .ok (.getfield 29, 3) := by decide +kernel
theorem dX7_card_45 : decode cX7_card 45 = .ok (.getfield 144, 3) := by decide +kernel
theorem dX7_card_48 : decode cX7_card 48 = .ok (.ireturn, 1) := by decide +kernel
set_option maxRecDepth 20000 in
theorem ggX7_forget_X1_clear : GoodIn wsX7_forget wsX1_clear := goodIn_r _ [6, 7, 24, 25, 26, 27, 28, 29] (by decide +kernel) (by decide +kernel)
set_option maxRecDepth 20000 in
theorem gX7_forget_X1_clear : GoodIn wsX7_forget (wsV RX7 76 RX1 yX1_clear wsX1_clear) := goodIn_app (goodIn_of _ (by decide +kernel)) ggX7_forget_X1_clear
theorem dX7_forget_0 : decode cX7_forget 0 = .ok (.aload_n 0, 1) := by decide +kernel
theorem dX7_forget_1 : decode cX7_forget 1 = .ok (.getfield 29, 3) := by decide +kernel
theorem dX7_forget_4 : decode cX7_forget 4 = .ok (.getfield 144, 3) := by decide +kernel
theorem dX7_forget_7 : decode cX7_forget 7 = .ok (.istore_n 1, 1) := by decide +kernel
theorem dX7_forget_8 : decode cX7_forget 8 = .ok (.aload_n 0, 1) := by decide +kernel
theorem dX7_forget_9 : decode cX7_forget 9 = .ok (.getfield 29, 3) := by decide +kernel
theorem dX7_forget_12 : decode cX7_forget 12 = .ok (.invokevirtual 76, 3) := by decide +kernel
theorem dX7_forget_15 : decode cX7_forget 15 = .ok (.iload_n 1, 1) := by decide +kernel
theorem dX7_forget_16 : decode cX7_forget 16 = .ok (.ireturn, 1) := by decide +kernel
set_option maxRecDepth 20000 in
theorem ggX7_who_X7_candidate : GoodIn wsX7_who wsX7_candidate := goodIn_r _ [7, 8, 9, 10, 6, 11, 12, 13, 14, 63, 64, 65, 66, 67, 68, 69, 70, 71, 72, 73, 74, 75, 76, 77, 78, 79, 80, 81, 82, 83, 84, 85, 86, 87, 88, 89, 90, 91, 92, 93, 94, 95, 96, 97, 98, 99, 100, 101, 102, 103, 104, 105, 106, 107, 108] (by decide +kernel) (by decide +kernel)
set_option maxRecDepth 20000 in
theorem gX7_who_X7_candidate : GoodIn wsX7_who (wsV RX7 151 RX7 yX7_candidate wsX7_candidate) := goodIn_app (goodIn_of _ (by decide +kernel)) ggX7_who_X7_candidate
set_option maxRecDepth 20000 in
theorem ggX7_who_X1_fit : GoodIn wsX7_who wsX1_fit := goodIn_r _ [19, 20, 21, 22, 23, 24, 25, 26, 27, 28, 29, 30, 31, 32, 33, 34, 35, 36, 37, 38, 39, 40, 41, 42, 43, 44, 45, 46, 47, 48, 49, 50, 51, 52, 53, 54, 55, 56, 57, 58, 59, 60, 61, 62, 109, 110, 111, 112, 113, 114, 79, 80, 81, 82, 83, 84, 85, 86, 87, 88, 89, 90, 91, 92, 93, 94, 95, 96, 97, 98, 99, 100, 101, 102, 103, 104, 105, 106, 107, 108] (by decide +kernel) (by decide +kernel)
set_option maxRecDepth 20000 in
theorem gX7_who_X1_fit : GoodIn wsX7_who (wsV RX7 154 RX1 yX1_fit wsX1_fit) := goodIn_app (goodIn_of _ (by decide +kernel)) ggX7_who_X1_fit
theorem dX7_who_0 : decode cX7_who 0 = .ok (.iload_n 1, 1) := by decide +kernel
theorem dX7_who_1 : decode cX7_who 1 = .ok (.ifCond .lt 8, 3) := by decide +kernel
theorem dX7_who_4 : decode cX7_who 4 = .ok (.iload_n 1, 1) := by decide +kernel
theorem dX7_who_5 : decode cX7_who 5 = .ok (.iconst 1, 1) := by decide +kernel
theorem dX7_who_6 : decode cX7_who 6 = .ok (.if_icmp .le 6, 3) := by decide +kernel
theorem dX7_who_9 : decode cX7_who 9 = .ok (.bipush (-102), 2) := by decide +kernel
theorem dX7_who_11 : decode cX7_who 11 = .ok (.ireturn, 1) := by decide +kernel
theorem dX7_who_12 : decode cX7_who 12 = .ok (.aload_n 0, 1) := by decide +kernel
theorem dX7_who_13 : decode cX7_who 13 = .ok (.getfield 148, 3) := by decide +kernel
theorem dX7_who_16 : decode cX7_who 16 = .ok (.bipush 60, 2) := by decide +kernel
theorem dX7_who_18 : decode cX7_who 18 = .ok (.if_icmp .lt 6, 3) := by decide +kernel
theorem dX7_who_21 : decode cX7_who 21 = .ok (.bipush (-103), 2) := by decide +kernel
theorem dX7_who_23 : decode cX7_who 23 = .ok (.ireturn, 1) := by decide +kernel
theorem dX7_who_24 : decode cX7_who 24 = .ok (.aload_n 0, 1) := by decide +kernel
theorem dX7_who_25 : decode cX7_who 25 = .ok (.dup, 1) := by decide +kernel
theorem dX7_who_26 : decode cX7_who 26 = .ok (.getfield 148, 3) := by decide +kernel
theorem dX7_who_29 : decode cX7_who 29 = .ok (.iconst 1, 1) := by decide +kernel
theorem dX7_who_30 : decode cX7_who 30 = .ok (.iadd, 1) := by decide +kernel
theorem dX7_who_31 : decode cX7_who 31 = .ok (.putfield 148, 3) := by decide +kernel
theorem dX7_who_34 : decode cX7_who 34 = .ok (.iconst 0, 1) := by decide +kernel
theorem dX7_who_35 : decode cX7_who 35 = .ok (.istore_n 2, 1) := by decide +kernel
theorem dX7_who_36 : decode cX7_who 36 = .ok (.iconst (-1), 1) := by decide +kernel
theorem dX7_who_37 : decode cX7_who 37 = .ok (.istore_n 3, 1) := by decide +kernel
theorem dX7_who_38 : decode cX7_who 38 = .ok (.sipush 319, 3) := by decide +kernel
theorem dX7_who_41 : decode cX7_who 41 = .ok (.istore 4, 2) := by decide +kernel
theorem dX7_who_43 : decode cX7_who 43 = .ok (.iload 4, 2) := by decide +kernel
theorem dX7_who_45 : decode cX7_who 45 = .ok (.ifCond .lt 31, 3) := by decide +kernel
theorem dX7_who_48 : decode cX7_who 48 = .ok (.aload_n 0, 1) := by decide +kernel
theorem dX7_who_49 : decode cX7_who 49 = .ok (.getfield 29, 3) := by decide +kernel
theorem dX7_who_52 : decode cX7_who 52 = .ok (.aload_n 0, 1) := by decide +kernel
theorem dX7_who_53 : decode cX7_who 53 = .ok (.iload 4, 2) := by decide +kernel
theorem dX7_who_55 : decode cX7_who 55 = .ok (.invokevirtual 151, 3) := by decide +kernel
theorem dX7_who_58 : decode cX7_who 58 = .ok (.invokevirtual 154, 3) := by decide +kernel
theorem dX7_who_61 : decode cX7_who 61 = .ok (.ifCond .eq 9, 3) := by decide +kernel
theorem dX7_who_64 : decode cX7_who 64 = .ok (.iinc 2 1, 3) := by decide +kernel
theorem dX7_who_67 : decode cX7_who 67 = .ok (.iload 4, 2) := by decide +kernel
theorem dX7_who_69 : decode cX7_who 69 = .ok (.istore_n 3, 1) := by decide +kernel
theorem dX7_who_70 : decode cX7_who 70 = .ok (.iinc 4 (-1), 3) := by decide +kernel
theorem dX7_who_73 : decode cX7_who 73 = .ok (.goto (-30), 3) := by decide +kernel
theorem dX7_who_76 : decode cX7_who 76 = .ok (.iload_n 1, 1) := by decide +kernel
theorem dX7_who_77 : decode cX7_who 77 = .ok (.ifCond .ne 7, 3) := by decide +kernel
theorem dX7_who_80 : decode cX7_who 80 = .ok (.iload_n 2, 1) := by decide +kernel
theorem dX7_who_81 : decode cX7_who 81 = .ok (.goto 4, 3) := by decide +kernel
theorem dX7_who_84 : decode cX7_who 84 = .ok (.iload_n 3, 1) := by decide +kernel
theorem dX7_who_85 : decode cX7_who 85 = .ok (.ireturn, 1) := by decide +kernel
set_option maxRecDepth 20000 in
theorem ggX7_next_X7_countSayings : GoodIn wsX7_next wsX7_countSayings := goodIn_r _ [6, 7, 8, 9, 10, 11, 5, 12, 13, 14, 15, 16, 17, 18, 19, 20, 21, 22, 23, 24, 25, 26, 27, 28, 29, 30, 31, 32, 33, 34, 35, 36, 37, 38, 39, 40, 41, 42, 43, 44, 45, 46, 47, 48, 49, 50, 51, 52, 53, 54, 55, 56, 57, 58, 59, 60, 61, 62, 63, 64, 65, 66, 67, 68, 69, 78, 79, 80, 81, 82, 83, 84, 85, 86, 87, 88, 89, 90, 91, 92, 93, 94, 95, 96, 97, 98, 99, 100, 101, 102, 103, 104, 105, 106, 107, 108, 109, 110, 111, 112, 113, 114, 115, 116, 117, 118, 119, 120, 121, 122, 123, 124, 125, 126, 127, 128, 129] (by decide +kernel) (by decide +kernel)
set_option maxRecDepth 20000 in
theorem gX7_next_X7_countSayings : GoodIn wsX7_next (wsV RX7 158 RX7 yX7_countSayings wsX7_countSayings) := goodIn_app (goodIn_of _ (by decide +kernel)) ggX7_next_X7_countSayings
set_option maxRecDepth 20000 in
theorem ggX7_next_X7_worstLeft : GoodIn wsX7_next wsX7_worstLeft := goodIn_r _ [73, 7, 74, 75, 76, 77, 78, 79, 80, 81, 82, 83, 84, 85, 86, 87, 88, 89, 90, 91, 92, 93] (by decide +kernel) (by decide +kernel)
set_option maxRecDepth 20000 in
theorem gX7_next_X7_worstLeft : GoodIn wsX7_next (wsV RX7 161 RX7 yX7_worstLeft wsX7_worstLeft) := goodIn_app (goodIn_of _ (by decide +kernel)) ggX7_next_X7_worstLeft
theorem dX7_next_0 : decode cX7_next 0 = .ok (.aload_n 0, 1) := by decide +kernel
theorem dX7_next_1 : decode cX7_next 1 = .ok (.getfield 148, 3) := by decide +kernel
theorem dX7_next_4 : decode cX7_next 4 = .ok (.bipush 60, 2) := by decide +kernel
theorem dX7_next_6 : decode cX7_next 6 = .ok (.if_icmp .lt 6, 3) := by decide +kernel
theorem dX7_next_9 : decode cX7_next 9 = .ok (.bipush (-103), 2) := by decide +kernel
theorem dX7_next_11 : decode cX7_next 11 = .ok (.ireturn, 1) := by decide +kernel
theorem dX7_next_12 : decode cX7_next 12 = .ok (.aload_n 0, 1) := by decide +kernel
theorem dX7_next_13 : decode cX7_next 13 = .ok (.dup, 1) := by decide +kernel
theorem dX7_next_14 : decode cX7_next 14 = .ok (.getfield 148, 3) := by decide +kernel
theorem dX7_next_17 : decode cX7_next 17 = .ok (.iconst 1, 1) := by decide +kernel
theorem dX7_next_18 : decode cX7_next 18 = .ok (.iadd, 1) := by decide +kernel
theorem dX7_next_19 : decode cX7_next 19 = .ok (.putfield 148, 3) := by decide +kernel
theorem dX7_next_22 : decode cX7_next 22 = .ok (.aload_n 0, 1) := by decide +kernel
theorem dX7_next_23 : decode cX7_next 23 = .ok (.invokevirtual 158, 3) := by decide +kernel
theorem dX7_next_26 : decode cX7_next 26 = .ok (.ifCond .ne 5, 3) := by decide +kernel
theorem dX7_next_29 : decode cX7_next 29 = .ok (.iconst (-1), 1) := by decide +kernel
theorem dX7_next_30 : decode cX7_next 30 = .ok (.ireturn, 1) := by decide +kernel
theorem dX7_next_31 : decode cX7_next 31 = .ok (.iconst 0, 1) := by decide +kernel
theorem dX7_next_32 : decode cX7_next 32 = .ok (.istore_n 1, 1) := by decide +kernel
theorem dX7_next_33 : decode cX7_next 33 = .ok (.aload_n 0, 1) := by decide +kernel
theorem dX7_next_34 : decode cX7_next 34 = .ok (.iconst 0, 1) := by decide +kernel
theorem dX7_next_35 : decode cX7_next 35 = .ok (.invokevirtual 161, 3) := by decide +kernel
theorem dX7_next_38 : decode cX7_next 38 = .ok (.istore_n 2, 1) := by decide +kernel
theorem dX7_next_39 : decode cX7_next 39 = .ok (.iconst 1, 1) := by decide +kernel
theorem dX7_next_40 : decode cX7_next 40 = .ok (.istore_n 3, 1) := by decide +kernel
theorem dX7_next_41 : decode cX7_next 41 = .ok (.iload_n 3, 1) := by decide +kernel
theorem dX7_next_42 : decode cX7_next 42 = .ok (.bipush 8, 2) := by decide +kernel
theorem dX7_next_44 : decode cX7_next 44 = .ok (.if_icmp .ge 27, 3) := by decide +kernel
theorem dX7_next_47 : decode cX7_next 47 = .ok (.aload_n 0, 1) := by decide +kernel
theorem dX7_next_48 : decode cX7_next 48 = .ok (.iload_n 3, 1) := by decide +kernel
theorem dX7_next_49 : decode cX7_next 49 = .ok (.invokevirtual 161, 3) := by decide +kernel
theorem dX7_next_52 : decode cX7_next 52 = .ok (.istore 4, 2) := by decide +kernel
theorem dX7_next_54 : decode cX7_next 54 = .ok (.iload 4, 2) := by decide +kernel
theorem dX7_next_56 : decode cX7_next 56 = .ok (.iload_n 2, 1) := by decide +kernel
theorem dX7_next_57 : decode cX7_next 57 = .ok (.if_icmp .ge 8, 3) := by decide +kernel
theorem dX7_next_60 : decode cX7_next 60 = .ok (.iload_n 3, 1) := by decide +kernel
theorem dX7_next_61 : decode cX7_next 61 = .ok (.istore_n 1, 1) := by decide +kernel
theorem dX7_next_62 : decode cX7_next 62 = .ok (.iload 4, 2) := by decide +kernel
theorem dX7_next_64 : decode cX7_next 64 = .ok (.istore_n 2, 1) := by decide +kernel
theorem dX7_next_65 : decode cX7_next 65 = .ok (.iinc 3 1, 3) := by decide +kernel
theorem dX7_next_68 : decode cX7_next 68 = .ok (.goto (-27), 3) := by decide +kernel
theorem dX7_next_71 : decode cX7_next 71 = .ok (.iload_n 1, 1) := by decide +kernel
theorem dX7_next_72 : decode cX7_next 72 = .ok (.ireturn, 1) := by decide +kernel
set_option maxRecDepth 20000 in
theorem ggX7_ageing_X7_known : GoodIn wsX7_ageing wsX7_known := goodIn_r _ [8, 9, 10, 145, 146, 147, 148, 149, 150, 151, 152, 153, 154, 155, 156, 157, 158, 159, 160] (by decide +kernel) (by decide +kernel)
set_option maxRecDepth 20000 in
theorem gX7_ageing_X7_known : GoodIn wsX7_ageing (wsV RX7 113 RX7 yX7_known wsX7_known) := goodIn_app (goodIn_of _ (by decide +kernel)) ggX7_ageing_X7_known
set_option maxRecDepth 20000 in
theorem ggX7_ageing_X0_kind : GoodIn wsX7_ageing wsX0_kind := goodIn_r _ [17] (by decide +kernel) (by decide +kernel)
set_option maxRecDepth 20000 in
theorem gX7_ageing_X0_kind_u123X0 : GoodIn wsX7_ageing (va_wsO RX7 123 RX0 "EachEye$Person" ⟨"EachEye$Person", "kind", "()I"⟩ yX0_kind wsX0_kind) := goodIn_app (goodIn_of _ (by decide +kernel)) ggX7_ageing_X0_kind
set_option maxRecDepth 20000 in
theorem ggX7_ageing_X2_kind : GoodIn wsX7_ageing wsX2_kind := goodIn_r _ [22] (by decide +kernel) (by decide +kernel)
set_option maxRecDepth 20000 in
theorem gX7_ageing_X2_kind_u123X2 : GoodIn wsX7_ageing (va_wsO RX7 123 RX2 "EachEye$Person" ⟨"EachEye$Person", "kind", "()I"⟩ yX2_kind wsX2_kind) := goodIn_app (goodIn_of _ (by decide +kernel)) ggX7_ageing_X2_kind
set_option maxRecDepth 20000 in
theorem ggX7_ageing_X4_kind : GoodIn wsX7_ageing wsX4_kind := goodIn_r _ [18] (by decide +kernel) (by decide +kernel)
set_option maxRecDepth 20000 in
theorem gX7_ageing_X4_kind : GoodIn wsX7_ageing (wsV RX7 123 RX4 yX4_kind wsX4_kind) := goodIn_app (goodIn_of _ (by decide +kernel)) ggX7_ageing_X4_kind
set_option maxRecDepth 20000 in
theorem ggX7_ageing_X5_kind : GoodIn wsX7_ageing wsX5_kind := goodIn_r _ [30] (by decide +kernel) (by decide +kernel)
set_option maxRecDepth 20000 in
theorem gX7_ageing_X5_kind_u123X5 : GoodIn wsX7_ageing (va_wsO RX7 123 RX5 "EachEye$Person" ⟨"EachEye$Person", "kind", "()I"⟩ yX5_kind wsX5_kind) := goodIn_app (goodIn_of _ (by decide +kernel)) ggX7_ageing_X5_kind
set_option maxRecDepth 20000 in
theorem ggX7_ageing_X6_kind : GoodIn wsX7_ageing wsX6_kind := goodIn_r _ [34] (by decide +kernel) (by decide +kernel)
set_option maxRecDepth 20000 in
theorem gX7_ageing_X6_kind_u123X6 : GoodIn wsX7_ageing (va_wsO RX7 123 RX6 "EachEye$Person" ⟨"EachEye$Person", "kind", "()I"⟩ yX6_kind wsX6_kind) := goodIn_app (goodIn_of _ (by decide +kernel)) ggX7_ageing_X6_kind
set_option maxRecDepth 20000 in
theorem ggX7_ageing_X7_trial : GoodIn wsX7_ageing wsX7_trial := goodIn_r _ [38, 39, 1, 2, 145, 146, 147, 148, 149, 150, 151, 152, 153, 154, 155, 156, 157, 158, 159, 160, 115, 116, 117, 118, 119, 120, 121, 122, 123, 124, 125, 126, 127, 128, 129, 130, 131, 132, 133, 134, 135, 136, 137, 138, 139, 140, 141, 142, 143, 144] (by decide +kernel) (by decide +kernel)
set_option maxRecDepth 20000 in
theorem gX7_ageing_X7_trial : GoodIn wsX7_ageing (wsV RX7 164 RX7 yX7_trial wsX7_trial) := goodIn_app (goodIn_of _ (by decide +kernel)) ggX7_ageing_X7_trial
set_option maxRecDepth 20000 in
theorem ggX7_ageing_X4_reading : GoodIn wsX7_ageing wsX4_reading := goodIn_r _ [44, 45, 7, 46, 47, 48, 49, 50, 51, 16, 52, 53, 54, 55, 56, 57, 58, 59, 21, 60, 61, 62, 63, 64, 65, 66, 67, 26, 68, 69, 70, 71, 29, 72, 73, 74, 75, 76, 33, 77, 78, 79, 80, 81, 82, 83, 115, 116, 117, 118, 119, 120, 121, 122, 123, 124, 125, 126, 127, 128, 129, 130, 131, 132, 133, 134, 135, 136, 137, 138, 139, 140, 141, 142, 143, 144] (by decide +kernel) (by decide +kernel)
set_option maxRecDepth 20000 in
theorem gX7_ageing_X4_reading_u168X0 : GoodIn wsX7_ageing (va_wsU RX7 168 RX0 "EachEye$Person" ⟨"EachEye$Person", "reading", "(I)I"⟩ yX4_reading wsX4_reading) := goodIn_app (goodIn_of _ (by decide +kernel)) ggX7_ageing_X4_reading
set_option maxRecDepth 20000 in
theorem gX7_ageing_X4_reading_u168X2 : GoodIn wsX7_ageing (va_wsU RX7 168 RX2 "EachEye$Person" ⟨"EachEye$Person", "reading", "(I)I"⟩ yX4_reading wsX4_reading) := goodIn_app (goodIn_of _ (by decide +kernel)) ggX7_ageing_X4_reading
set_option maxRecDepth 20000 in
theorem gX7_ageing_X4_reading : GoodIn wsX7_ageing (wsV RX7 168 RX4 yX4_reading wsX4_reading) := goodIn_app (goodIn_of _ (by decide +kernel)) ggX7_ageing_X4_reading
set_option maxRecDepth 20000 in
theorem gX7_ageing_X4_reading_u168X5 : GoodIn wsX7_ageing (va_wsU RX7 168 RX5 "EachEye$Person" ⟨"EachEye$Person", "reading", "(I)I"⟩ yX4_reading wsX4_reading) := goodIn_app (goodIn_of _ (by decide +kernel)) ggX7_ageing_X4_reading
set_option maxRecDepth 20000 in
theorem gX7_ageing_X4_reading_u168X6 : GoodIn wsX7_ageing (va_wsU RX7 168 RX6 "EachEye$Person" ⟨"EachEye$Person", "reading", "(I)I"⟩ yX4_reading wsX4_reading) := goodIn_app (goodIn_of _ (by decide +kernel)) ggX7_ageing_X4_reading
set_option maxRecDepth 20000 in
theorem ggX7_ageing_X7_nextSeed : GoodIn wsX7_ageing wsX7_nextSeed := goodIn_r _ [91, 92, 93, 94] (by decide +kernel) (by decide +kernel)
set_option maxRecDepth 20000 in
theorem gX7_ageing_X7_nextSeed : GoodIn wsX7_ageing (va_wsS RX7 171 yX7_nextSeed wsX7_nextSeed) := goodIn_app (goodIn_of _ (by decide +kernel)) ggX7_ageing_X7_nextSeed
set_option maxRecDepth 20000 in
theorem ggX7_ageing_X7_drawn : GoodIn wsX7_ageing wsX7_drawn := goodIn_r _ [97] (by decide +kernel) (by decide +kernel)
set_option maxRecDepth 20000 in
theorem gX7_ageing_X7_drawn : GoodIn wsX7_ageing (va_wsS RX7 174 yX7_drawn wsX7_drawn) := goodIn_app (goodIn_of _ (by decide +kernel)) ggX7_ageing_X7_drawn
set_option maxRecDepth 20000 in
theorem ggX7_ageing_X4_lose : GoodIn wsX7_ageing wsX4_lose := goodIn_r _ [102, 68, 69, 115, 116, 117, 118, 119, 120, 121, 122, 123, 124, 125, 126, 127, 128, 129, 130, 131, 132, 133, 134, 135, 136, 137, 138, 139, 140, 141, 142, 143, 144] (by decide +kernel) (by decide +kernel)
set_option maxRecDepth 20000 in
theorem gX7_ageing_X4_lose_u177X0 : GoodIn wsX7_ageing (va_wsU RX7 177 RX0 "EachEye$Person" ⟨"EachEye$Person", "lose", "(II)V"⟩ yX4_lose wsX4_lose) := goodIn_app (goodIn_of _ (by decide +kernel)) ggX7_ageing_X4_lose
set_option maxRecDepth 20000 in
theorem gX7_ageing_X4_lose_u177X2 : GoodIn wsX7_ageing (va_wsU RX7 177 RX2 "EachEye$Person" ⟨"EachEye$Person", "lose", "(II)V"⟩ yX4_lose wsX4_lose) := goodIn_app (goodIn_of _ (by decide +kernel)) ggX7_ageing_X4_lose
set_option maxRecDepth 20000 in
theorem gX7_ageing_X4_lose : GoodIn wsX7_ageing (wsV RX7 177 RX4 yX4_lose wsX4_lose) := goodIn_app (goodIn_of _ (by decide +kernel)) ggX7_ageing_X4_lose
set_option maxRecDepth 20000 in
theorem gX7_ageing_X4_lose_u177X5 : GoodIn wsX7_ageing (va_wsU RX7 177 RX5 "EachEye$Person" ⟨"EachEye$Person", "lose", "(II)V"⟩ yX4_lose wsX4_lose) := goodIn_app (goodIn_of _ (by decide +kernel)) ggX7_ageing_X4_lose
set_option maxRecDepth 20000 in
theorem gX7_ageing_X4_lose_u177X6 : GoodIn wsX7_ageing (va_wsU RX7 177 RX6 "EachEye$Person" ⟨"EachEye$Person", "lose", "(II)V"⟩ yX4_lose wsX4_lose) := goodIn_app (goodIn_of _ (by decide +kernel)) ggX7_ageing_X4_lose
set_option maxRecDepth 20000 in
theorem ggX7_ageing_J6_bitCount_0f7a4 : GoodIn wsX7_ageing wsJ6_bitCount_0f7a4 := goodIn_r _ [111, 112, 113, 114] (by decide +kernel) (by decide +kernel)
set_option maxRecDepth 20000 in
theorem gX7_ageing_J6_bitCount_0f7a4 : GoodIn wsX7_ageing (va_wsS RX7 139 yJ6_bitCount_0f7a4 wsJ6_bitCount_0f7a4) := goodIn_app (goodIn_of _ (by decide +kernel)) ggX7_ageing_J6_bitCount_0f7a4
theorem dX7_ageing_0 : decode cX7_ageing 0 = .ok (.aload_n 0, 1) := by decide +kernel
theorem dX7_ageing_1 : decode cX7_ageing 1 = .ok (.iload_n 1, 1) := by decide +kernel
theorem dX7_ageing_2 : decode cX7_ageing 2 = .ok (.invokevirtual 113, 3) := by decide +kernel
theorem dX7_ageing_5 : decode cX7_ageing 5 = .ok (.astore 5, 2) := by decide +kernel
theorem dX7_ageing_7 : decode cX7_ageing 7 = .ok (.aload 5, 2) := by decide +kernel
theorem dX7_ageing_9 : decode cX7_ageing 9 = .ok (.ifnonnull 6, 3) := by decide +kernel
theorem dX7_ageing_12 : decode cX7_ageing 12 = .ok (.bipush (-101), 2) := by decide +kernel
theorem dX7_ageing_14 : decode cX7_ageing 14 = .ok (.ireturn, 1) := by decide +kernel
theorem dX7_ageing_15 : decode cX7_ageing 15 = .ok (.iload_n 2, 1) := by decide +kernel
theorem dX7_ageing_16 : decode cX7_ageing 16 = .ok (.iconst 1, 1) := by decide +kernel
theorem dX7_ageing_17 : decode cX7_ageing 17 = .ok (.if_icmp .lt 24, 3) := by decide +kernel
theorem dX7_ageing_20 : decode cX7_ageing 20 = .ok (.iload_n 2, 1) := by decide +kernel
theorem dX7_ageing_21 : decode cX7_ageing 21 = .ok (.bipush 60, 2) := by decide +kernel
theorem dX7_ageing_23 : decode cX7_ageing 23 = .ok (.if_icmp .gt 18, 3) := by decide +kernel
theorem dX7_ageing_26 : decode cX7_ageing 26 = .ok (.iload_n 3, 1) := by decide +kernel
theorem dX7_ageing_27 : decode cX7_ageing 27 = .ok (.ifCond .lt 14, 3) := by decide +kernel
theorem dX7_ageing_30 : decode cX7_ageing 30 = .ok (.iload 4, 2) := by decide +kernel
theorem dX7_ageing_32 : decode cX7_ageing 32 = .ok (.ifCond .lt 9, 3) := by decide +kernel
theorem dX7_ageing_35 : decode cX7_ageing 35 = .ok (.iload 4, 2) := by decide +kernel
theorem dX7_ageing_37 : decode cX7_ageing 37 = .ok (.iconst 2, 1) := by decide +kernel
theorem dX7_ageing_38 : decode cX7_ageing 38 = .ok (.if_icmp .le 6, 3) := by decide +kernel
theorem dX7_ageing_41 : decode cX7_ageing 41 = .ok (.bipush (-102), 2) := by decide +kernel
theorem dX7_ageing_43 : decode cX7_ageing 43 = .ok (.ireturn, 1) := by decide +kernel
theorem dX7_ageing_44 : decode cX7_ageing 44 = .ok (.aload_n 0, 1) := by decide +kernel
theorem dX7_ageing_45 : decode cX7_ageing 45 = .ok (.aload 5, 2) := by decide +kernel
theorem dX7_ageing_47 : decode cX7_ageing 47 = .ok (.invokevirtual 123, 3) := by decide +kernel
theorem dX7_ageing_50 : decode cX7_ageing 50 = .ok (.aload 5, 2) := by decide +kernel
theorem dX7_ageing_52 : decode cX7_ageing 52 = .ok (.getfield 107, 3) := by decide +kernel
theorem dX7_ageing_55 : decode cX7_ageing 55 = .ok (.aload 5, 2) := by decide +kernel
theorem dX7_ageing_57 : decode cX7_ageing 57 = .ok (.getfield 110, 3) := by decide +kernel
theorem dX7_ageing_60 : decode cX7_ageing 60 = .ok (.invokevirtual 164, 3) := by decide +kernel
theorem dX7_ageing_63 : decode cX7_ageing 63 = .ok (.astore 6, 2) := by decide +kernel
theorem dX7_ageing_65 : decode cX7_ageing 65 = .ok (.aload 5, 2) := by decide +kernel
theorem dX7_ageing_67 : decode cX7_ageing 67 = .ok (.aload_n 0, 1) := by decide +kernel
theorem dX7_ageing_68 : decode cX7_ageing 68 = .ok (.getfield 39, 3) := by decide +kernel
theorem dX7_ageing_71 : decode cX7_ageing 71 = .ok (.invokevirtual 168, 3) := by decide +kernel
theorem dX7_ageing_74 : decode cX7_ageing 74 = .ok (.istore 7, 2) := by decide +kernel
theorem dX7_ageing_76 : decode cX7_ageing 76 = .ok (.iconst (-1), 1) := by decide +kernel
theorem dX7_ageing_77 : decode cX7_ageing 77 = .ok (.istore 8, 2) := by decide +kernel
theorem dX7_ageing_79 : decode cX7_ageing 79 = .ok (.iload_n 3, 1) := by decide +kernel
theorem dX7_ageing_80 : decode cX7_ageing 80 = .ok (.istore 9, 2) := by decide +kernel
theorem dX7_ageing_82 : decode cX7_ageing 82 = .ok (.iconst 1, 1) := by decide +kernel
theorem dX7_ageing_83 : decode cX7_ageing 83 = .ok (.istore 10, 2) := by decide +kernel
theorem dX7_ageing_85 : decode cX7_ageing 85 = .ok (.iload 10, 2) := by decide +kernel
theorem dX7_ageing_87 : decode cX7_ageing 87 = .ok (.iload_n 2, 1) := by decide +kernel
theorem dX7_ageing_88 : decode cX7_ageing 88 = .ok (.if_icmp .gt 69, 3) := by decide +kernel
theorem dX7_ageing_91 : decode cX7_ageing 91 = .ok (.iload 9, 2) := by decide +kernel
theorem dX7_ageing_93 : decode cX7_ageing 93 = .ok (.invokestatic 171, 3) := by decide +kernel
theorem dX7_ageing_96 : decode cX7_ageing 96 = .ok (.istore 9, 2) := by decide +kernel
theorem dX7_ageing_98 : decode cX7_ageing 98 = .ok (.iload 9, 2) := by decide +kernel
theorem dX7_ageing_100 : decode cX7_ageing 100 = .ok (.iconst 2, 1) := by decide +kernel
theorem dX7_ageing_101 : decode cX7_ageing 101 = .ok (.invokestatic 174, 3) := by decide +kernel
theorem dX7_ageing_104 : decode cX7_ageing 104 = .ok (.istore 11, 2) := by decide +kernel
theorem dX7_ageing_106 : decode cX7_ageing 106 = .ok (.iload 9, 2) := by decide +kernel
theorem dX7_ageing_108 : decode cX7_ageing 108 = .ok (.invokestatic 171, 3) := by decide +kernel
theorem dX7_ageing_111 : decode cX7_ageing 111 = .ok (.istore 9, 2) := by decide +kernel
theorem dX7_ageing_113 : decode cX7_ageing 113 = .ok (.aload 6, 2) := by decide +kernel
theorem dX7_ageing_115 : decode cX7_ageing 115 = .ok (.iload 11, 2) := by decide +kernel
theorem dX7_ageing_117 : decode cX7_ageing 117 = .ok (.iload 9, 2) := by decide +kernel
theorem dX7_ageing_119 : decode cX7_ageing 119 = .ok (.bipush 8, 2) := by decide +kernel
theorem dX7_ageing_121 : decode cX7_ageing 121 = .ok (.invokestatic 174, 3) := by decide +kernel
theorem dX7_ageing_124 : decode cX7_ageing 124 = .ok (.invokevirtual 177, 3) := by decide +kernel
theorem dX7_ageing_127 : decode cX7_ageing 127 = .ok (.iload 8, 2) := by decide +kernel
theorem dX7_ageing_129 : decode cX7_ageing 129 = .ok (.iconst (-1), 1) := by decide +kernel
theorem dX7_ageing_130 : decode cX7_ageing 130 = .ok (.if_icmp .ne 21, 3) := by decide +kernel
theorem dX7_ageing_133 : decode cX7_ageing 133 = .ok (.aload 6, 2) := by decide +kernel
theorem dX7_ageing_135 : decode cX7_ageing 135 = .ok (.aload_n 0, 1) := by decide +kernel
theorem dX7_ageing_136 : decode cX7_ageing 136 = .ok (.getfield 39, 3) := by decide +kernel
theorem dX7_ageing_139 : decode cX7_ageing 139 = .ok (.invokevirtual 168, 3) := by decide +kernel
theorem dX7_ageing_142 : decode cX7_ageing 142 = .ok (.iload 7, 2) := by decide +kernel
theorem dX7_ageing_144 : decode cX7_ageing 144 = .ok (.if_icmp .eq 7, 3) := by decide +kernel
theorem dX7_ageing_147 : decode cX7_ageing 147 = .ok (.iload 10, 2) := by decide +kernel
theorem dX7_ageing_149 : decode cX7_ageing 149 = .ok (.istore 8, 2) := by decide +kernel
theorem dX7_ageing_151 : decode cX7_ageing 151 = .ok (.iinc 10 1, 3) := by decide +kernel
theorem dX7_ageing_154 : decode cX7_ageing 154 = .ok (.goto (-69), 3) := by decide +kernel
theorem dX7_ageing_157 : decode cX7_ageing 157 = .ok (.iload 4, 2) := by decide +kernel
theorem dX7_ageing_159 : decode cX7_ageing 159 = .ok (.lookupswitch 46 #[(0, 25), (1, 28)], 25) := by decide +kernel
theorem dX7_ageing_184 : decode cX7_ageing 184 = .ok (.iload 8, 2) := by decide +kernel
theorem dX7_ageing_186 : decode cX7_ageing 186 = .ok (.ireturn, 1) := by decide +kernel
theorem dX7_ageing_187 : decode cX7_ageing 187 = .ok (.aload 6, 2) := by decide +kernel
theorem dX7_ageing_189 : decode cX7_ageing 189 = .ok (.getfield 107, 3) := by decide +kernel
theorem dX7_ageing_192 : decode cX7_ageing 192 = .ok (.invokestatic 139, 3) := by decide +kernel
theorem dX7_ageing_195 : decode cX7_ageing 195 = .ok (.aload 6, 2) := by decide +kernel
theorem dX7_ageing_197 : decode cX7_ageing 197 = .ok (.getfield 110, 3) := by decide +kernel
theorem dX7_ageing_200 : decode cX7_ageing 200 = .ok (.invokestatic 139, 3) := by decide +kernel
theorem dX7_ageing_203 : decode cX7_ageing 203 = .ok (.iadd, 1) := by decide +kernel
theorem dX7_ageing_204 : decode cX7_ageing 204 = .ok (.ireturn, 1) := by decide +kernel
theorem dX7_ageing_205 : decode cX7_ageing 205 = .ok (.iload 9, 2) := by decide +kernel
theorem dX7_ageing_207 : decode cX7_ageing 207 = .ok (.ireturn, 1) := by decide +kernel
set_option maxRecDepth 20000 in
theorem ggX7_image_X7_known : GoodIn wsX7_image wsX7_known := goodIn_r _ [14, 3, 15, 48, 49, 50, 51, 52, 53, 54, 55, 56, 57, 58, 59, 60, 61, 62, 63] (by decide +kernel) (by decide +kernel)
set_option maxRecDepth 20000 in
theorem gX7_image_X7_known : GoodIn wsX7_image (wsV RX7 113 RX7 yX7_known wsX7_known) := goodIn_app (goodIn_of _ (by decide +kernel)) ggX7_image_X7_known
set_option maxRecDepth 20000 in
theorem ggX7_image_X4_keep : GoodIn wsX7_image wsX4_keep := goodIn_r _ [21, 22, 23, 24, 25, 26, 27, 64, 65, 66, 67, 68, 69, 70, 71, 72, 73, 74, 75, 76, 77, 78, 79, 80, 81, 82, 83, 84, 85, 86, 87, 88, 89, 90, 91, 92, 93] (by decide +kernel) (by decide +kernel)
set_option maxRecDepth 20000 in
theorem gX7_image_X4_keep_u189X0 : GoodIn wsX7_image (va_wsU RX7 189 RX0 "EachEye$Person" ⟨"EachEye$Person", "keep", "()V"⟩ yX4_keep wsX4_keep) := goodIn_app (goodIn_of _ (by decide +kernel)) ggX7_image_X4_keep
set_option maxRecDepth 20000 in
theorem gX7_image_X4_keep_u189X2 : GoodIn wsX7_image (va_wsU RX7 189 RX2 "EachEye$Person" ⟨"EachEye$Person", "keep", "()V"⟩ yX4_keep wsX4_keep) := goodIn_app (goodIn_of _ (by decide +kernel)) ggX7_image_X4_keep
set_option maxRecDepth 20000 in
theorem gX7_image_X4_keep : GoodIn wsX7_image (wsV RX7 189 RX4 yX4_keep wsX4_keep) := goodIn_app (goodIn_of _ (by decide +kernel)) ggX7_image_X4_keep
set_option maxRecDepth 20000 in
theorem gX7_image_X4_keep_u189X5 : GoodIn wsX7_image (va_wsU RX7 189 RX5 "EachEye$Person" ⟨"EachEye$Person", "keep", "()V"⟩ yX4_keep wsX4_keep) := goodIn_app (goodIn_of _ (by decide +kernel)) ggX7_image_X4_keep
set_option maxRecDepth 20000 in
theorem gX7_image_X4_keep_u189X6 : GoodIn wsX7_image (va_wsU RX7 189 RX6 "EachEye$Person" ⟨"EachEye$Person", "keep", "()V"⟩ yX4_keep wsX4_keep) := goodIn_app (goodIn_of _ (by decide +kernel)) ggX7_image_X4_keep
set_option maxRecDepth 20000 in
theorem ggX7_image_X1_keep : GoodIn wsX7_image wsX1_keep := goodIn_r _ [37, 38, 39, 40, 41, 42, 43, 44, 45, 46, 47, 94, 95, 96, 97, 98, 99] (by decide +kernel) (by decide +kernel)
set_option maxRecDepth 20000 in
theorem gX7_image_X1_keep : GoodIn wsX7_image (wsV RX7 192 RX1 yX1_keep wsX1_keep) := goodIn_app (goodIn_of _ (by decide +kernel)) ggX7_image_X1_keep
theorem dX7_image_0 : decode cX7_image 0 = .ok (.aload_n 0, 1) := by decide +kernel
theorem dX7_image_1 : decode cX7_image 1 = .ok (.getfield 39, 3) := by decide +kernel
theorem dX7_image_4 : decode cX7_image 4 = .ok (.iconst (-1), 1) := by decide +kernel
theorem dX7_image_5 : decode cX7_image 5 = .ok (.if_icmp .ne 6, 3) := by decide +kernel
theorem dX7_image_8 : decode cX7_image 8 = .ok (.bipush (-103), 2) := by decide +kernel
theorem dX7_image_10 : decode cX7_image 10 = .ok (.ireturn, 1) := by decide +kernel
theorem dX7_image_11 : decode cX7_image 11 = .ok (.aload_n 0, 1) := by decide +kernel
theorem dX7_image_12 : decode cX7_image 12 = .ok (.aload_n 0, 1) := by decide +kernel
theorem dX7_image_13 : decode cX7_image 13 = .ok (.getfield 39, 3) := by decide +kernel
theorem dX7_image_16 : decode cX7_image 16 = .ok (.putfield 43, 3) := by decide +kernel
theorem dX7_image_19 : decode cX7_image 19 = .ok (.aload_n 0, 1) := by decide +kernel
theorem dX7_image_20 : decode cX7_image 20 = .ok (.aload_n 0, 1) := by decide +kernel
theorem dX7_image_21 : decode cX7_image 21 = .ok (.getfield 67, 3) := by decide +kernel
theorem dX7_image_24 : decode cX7_image 24 = .ok (.putfield 180, 3) := by decide +kernel
theorem dX7_image_27 : decode cX7_image 27 = .ok (.aload_n 0, 1) := by decide +kernel
theorem dX7_image_28 : decode cX7_image 28 = .ok (.aload_n 0, 1) := by decide +kernel
theorem dX7_image_29 : decode cX7_image 29 = .ok (.getfield 70, 3) := by decide +kernel
theorem dX7_image_32 : decode cX7_image 32 = .ok (.putfield 183, 3) := by decide +kernel
theorem dX7_image_35 : decode cX7_image 35 = .ok (.aload_n 0, 1) := by decide +kernel
theorem dX7_image_36 : decode cX7_image 36 = .ok (.aload_n 0, 1) := by decide +kernel
theorem dX7_image_37 : decode cX7_image 37 = .ok (.getfield 73, 3) := by decide +kernel
theorem dX7_image_40 : decode cX7_image 40 = .ok (.putfield 186, 3) := by decide +kernel
theorem dX7_image_43 : decode cX7_image 43 = .ok (.iconst 0, 1) := by decide +kernel
theorem dX7_image_44 : decode cX7_image 44 = .ok (.istore_n 1, 1) := by decide +kernel
theorem dX7_image_45 : decode cX7_image 45 = .ok (.iload_n 1, 1) := by decide +kernel
theorem dX7_image_46 : decode cX7_image 46 = .ok (.aload_n 0, 1) := by decide +kernel
theorem dX7_image_47 : decode cX7_image 47 = .ok (.getfield 67, 3) := by decide +kernel
theorem dX7_image_50 : decode cX7_image 50 = .ok (.if_icmp .ge 23, 3) := by decide +kernel
theorem dX7_image_53 : decode cX7_image 53 = .ok (.aload_n 0, 1) := by decide +kernel
theorem dX7_image_54 : decode cX7_image 54 = .ok (.iload_n 1, 1) := by decide +kernel
theorem dX7_image_55 : decode cX7_image 55 = .ok (.invokevirtual 113, 3) := by decide +kernel
theorem dX7_image_58 : decode cX7_image 58 = .ok (.astore_n 2, 1) := by decide +kernel
theorem dX7_image_59 : decode cX7_image 59 = .ok (.aload_n 2, 1) := by decide +kernel
theorem dX7_image_60 : decode cX7_image 60 = .ok (.ifnull 7, 3) := by decide +kernel
theorem dX7_image_63 : decode cX7_image 63 = .ok (.aload_n 2, 1) := by decide +kernel
theorem dX7_image_64 : decode cX7_image 64 = .ok (.invokevirtual 189, 3) := by decide +kernel
theorem dX7_image_67 : decode cX7_image 67 = .ok (.iinc 1 1, 3) := by decide +kernel
theorem dX7_image_70 : decode cX7_image 70 = .ok (.goto (-25), 3) := by decide +kernel
theorem dX7_image_73 : decode cX7_image 73 = .ok (.aload_n 0, 1) := by decide +kernel
theorem dX7_image_74 : decode cX7_image 74 = .ok (.getfield 29, 3) := by decide +kernel
theorem dX7_image_77 : decode cX7_image 77 = .ok (.invokevirtual 192, 3) := by decide +kernel
theorem dX7_image_80 : decode cX7_image 80 = .ok (.aload_n 0, 1) := by decide +kernel
theorem dX7_image_81 : decode cX7_image 81 = .ok (.getfield 67, 3) := by decide +kernel
theorem dX7_image_84 : decode cX7_image 84 = .ok (.ireturn, 1) := by decide +kernel
set_option maxRecDepth 20000 in
theorem ggX7_restore_X7_known : GoodIn wsX7_restore wsX7_known := goodIn_r _ [14, 4, 15, 48, 49, 50, 51, 52, 53, 54, 55, 56, 57, 58, 59, 60, 61, 62, 63] (by decide +kernel) (by decide +kernel)
set_option maxRecDepth 20000 in
theorem gX7_restore_X7_known : GoodIn wsX7_restore (wsV RX7 113 RX7 yX7_known wsX7_known) := goodIn_app (goodIn_of _ (by decide +kernel)) ggX7_restore_X7_known
set_option maxRecDepth 20000 in
theorem ggX7_restore_X4_goBack : GoodIn wsX7_restore wsX4_goBack := goodIn_r _ [21, 22, 23, 24, 25, 26, 27, 64, 65, 66, 67, 68, 69, 70, 71, 72, 73, 74, 75, 76, 77, 78, 79, 80, 81, 82, 83, 84, 85, 86, 87, 88, 89, 90, 91, 92, 93] (by decide +kernel) (by decide +kernel)
set_option maxRecDepth 20000 in
theorem gX7_restore_X4_goBack_u193X0 : GoodIn wsX7_restore (va_wsU RX7 193 RX0 "EachEye$Person" ⟨"EachEye$Person", "goBack", "()V"⟩ yX4_goBack wsX4_goBack) := goodIn_app (goodIn_of _ (by decide +kernel)) ggX7_restore_X4_goBack
set_option maxRecDepth 20000 in
theorem gX7_restore_X4_goBack_u193X2 : GoodIn wsX7_restore (va_wsU RX7 193 RX2 "EachEye$Person" ⟨"EachEye$Person", "goBack", "()V"⟩ yX4_goBack wsX4_goBack) := goodIn_app (goodIn_of _ (by decide +kernel)) ggX7_restore_X4_goBack
set_option maxRecDepth 20000 in
theorem gX7_restore_X4_goBack : GoodIn wsX7_restore (wsV RX7 193 RX4 yX4_goBack wsX4_goBack) := goodIn_app (goodIn_of _ (by decide +kernel)) ggX7_restore_X4_goBack
set_option maxRecDepth 20000 in
theorem gX7_restore_X4_goBack_u193X5 : GoodIn wsX7_restore (va_wsU RX7 193 RX5 "EachEye$Person" ⟨"EachEye$Person", "goBack", "()V"⟩ yX4_goBack wsX4_goBack) := goodIn_app (goodIn_of _ (by decide +kernel)) ggX7_restore_X4_goBack
set_option maxRecDepth 20000 in
theorem gX7_restore_X4_goBack_u193X6 : GoodIn wsX7_restore (va_wsU RX7 193 RX6 "EachEye$Person" ⟨"EachEye$Person", "goBack", "()V"⟩ yX4_goBack wsX4_goBack) := goodIn_app (goodIn_of _ (by decide +kernel)) ggX7_restore_X4_goBack
set_option maxRecDepth 20000 in
theorem ggX7_restore_X1_goBack : GoodIn wsX7_restore wsX1_goBack := goodIn_r _ [37, 38, 39, 40, 41, 42, 43, 44, 45, 46, 47, 94, 95, 96, 97, 98, 99] (by decide +kernel) (by decide +kernel)
set_option maxRecDepth 20000 in
theorem gX7_restore_X1_goBack : GoodIn wsX7_restore (wsV RX7 196 RX1 yX1_goBack wsX1_goBack) := goodIn_app (goodIn_of _ (by decide +kernel)) ggX7_restore_X1_goBack
theorem dX7_restore_0 : decode cX7_restore 0 = .ok (.aload_n 0, 1) := by decide +kernel
theorem dX7_restore_1 : decode cX7_restore 1 = .ok (.getfield 43, 3) := by decide +kernel
theorem dX7_restore_4 : decode cX7_restore 4 = .ok (.iconst (-1), 1) := by decide +kernel
theorem dX7_restore_5 : decode cX7_restore 5 = .ok (.if_icmp .ne 6, 3) := by decide +kernel
theorem dX7_restore_8 : decode cX7_restore 8 = .ok (.bipush (-103), 2) := by decide +kernel
theorem dX7_restore_10 : decode cX7_restore 10 = .ok (.ireturn, 1) := by decide +kernel
theorem dX7_restore_11 : decode cX7_restore 11 = .ok (.aload_n 0, 1) := by decide +kernel
theorem dX7_restore_12 : decode cX7_restore 12 = .ok (.aload_n 0, 1) := by decide +kernel
theorem dX7_restore_13 : decode cX7_restore 13 = .ok (.getfield 43, 3) := by decide +kernel
theorem dX7_restore_16 : decode cX7_restore 16 = .ok (.putfield 39, 3) := by decide +kernel
theorem dX7_restore_19 : decode cX7_restore 19 = .ok (.aload_n 0, 1) := by decide +kernel
theorem dX7_restore_20 : decode cX7_restore 20 = .ok (.aload_n 0, 1) := by decide +kernel
theorem dX7_restore_21 : decode cX7_restore 21 = .ok (.getfield 180, 3) := by decide +kernel
theorem dX7_restore_24 : decode cX7_restore 24 = .ok (.putfield 67, 3) := by decide +kernel
theorem dX7_restore_27 : decode cX7_restore 27 = .ok (.aload_n 0, 1) := by decide +kernel
theorem dX7_restore_28 : decode cX7_restore 28 = .ok (.aload_n 0, 1) := by decide +kernel
theorem dX7_restore_29 : decode cX7_restore 29 = .ok (.getfield 183, 3) := by decide +kernel
theorem dX7_restore_32 : decode cX7_restore 32 = .ok (.putfield 70, 3) := by decide +kernel
theorem dX7_restore_35 : decode cX7_restore 35 = .ok (.aload_n 0, 1) := by decide +kernel
theorem dX7_restore_36 : decode cX7_restore 36 = .ok (.aload_n 0, 1) := by decide +kernel
theorem dX7_restore_37 : decode cX7_restore 37 = .ok (.getfield 186, 3) := by decide +kernel
theorem dX7_restore_40 : decode cX7_restore 40 = .ok (.putfield 73, 3) := by decide +kernel
theorem dX7_restore_43 : decode cX7_restore 43 = .ok (.iconst 0, 1) := by decide +kernel
theorem dX7_restore_44 : decode cX7_restore 44 = .ok (.istore_n 1, 1) := by decide +kernel
theorem dX7_restore_45 : decode cX7_restore 45 = .ok (.iload_n 1, 1) := by decide +kernel
theorem dX7_restore_46 : decode cX7_restore 46 = .ok (.aload_n 0, 1) := by decide +kernel
theorem dX7_restore_47 : decode cX7_restore 47 = .ok (.getfield 67, 3) := by decide +kernel
theorem dX7_restore_50 : decode cX7_restore 50 = .ok (.if_icmp .ge 23, 3) := by decide +kernel
theorem dX7_restore_53 : decode cX7_restore 53 = .ok (.aload_n 0, 1) := by decide +kernel
theorem dX7_restore_54 : decode cX7_restore 54 = .ok (.iload_n 1, 1) := by decide +kernel
theorem dX7_restore_55 : decode cX7_restore 55 = .ok (.invokevirtual 113, 3) := by decide +kernel
theorem dX7_restore_58 : decode cX7_restore 58 = .ok (.astore_n 2, 1) := by decide +kernel
theorem dX7_restore_59 : decode cX7_restore 59 = .ok (.aload_n 2, 1) := by decide +kernel
theorem dX7_restore_60 : decode cX7_restore 60 = .ok (.ifnull 7, 3) := by decide +kernel
theorem dX7_restore_63 : decode cX7_restore 63 = .ok (.aload_n 2, 1) := by decide +kernel
theorem dX7_restore_64 : decode cX7_restore 64 = .ok (.invokevirtual 193, 3) := by decide +kernel
theorem dX7_restore_67 : decode cX7_restore 67 = .ok (.iinc 1 1, 3) := by decide +kernel
theorem dX7_restore_70 : decode cX7_restore 70 = .ok (.goto (-25), 3) := by decide +kernel
theorem dX7_restore_73 : decode cX7_restore 73 = .ok (.aload_n 0, 1) := by decide +kernel
theorem dX7_restore_74 : decode cX7_restore 74 = .ok (.getfield 29, 3) := by decide +kernel
theorem dX7_restore_77 : decode cX7_restore 77 = .ok (.invokevirtual 196, 3) := by decide +kernel
theorem dX7_restore_80 : decode cX7_restore 80 = .ok (.aload_n 0, 1) := by decide +kernel
theorem dX7_restore_81 : decode cX7_restore 81 = .ok (.getfield 67, 3) := by decide +kernel
theorem dX7_restore_84 : decode cX7_restore 84 = .ok (.ireturn, 1) := by decide +kernel
set_option maxRecDepth 20000 in
theorem ggX7_count_X7_colouredCells : GoodIn wsX7_count wsX7_colouredCells := goodIn_r _ [12, 13, 14, 15, 11, 16, 27, 28, 29, 30, 31, 32, 33, 34, 35, 36, 37, 38, 39, 40, 41, 42] (by decide +kernel) (by decide +kernel)
set_option maxRecDepth 20000 in
theorem gX7_count_X7_colouredCells : GoodIn wsX7_count (wsV RX7 82 RX7 yX7_colouredCells wsX7_colouredCells) := goodIn_app (goodIn_of _ (by decide +kernel)) ggX7_count_X7_colouredCells
set_option maxRecDepth 20000 in
theorem ggX7_count_X7_toldPeople : GoodIn wsX7_count wsX7_toldPeople := goodIn_r _ [20, 1, 21, 22, 23, 24, 11, 25, 26, 27, 28, 29, 30, 31, 32, 33, 34, 35, 36, 37, 38, 39, 40, 41, 42, 51, 52, 53, 54, 55, 56, 57, 58, 59, 60, 61, 62, 63, 64, 65, 66, 67, 68, 69, 70, 71, 72, 73, 74, 75, 76, 77, 78, 79, 80] (by decide +kernel) (by decide +kernel)
set_option maxRecDepth 20000 in
theorem gX7_count_X7_toldPeople : GoodIn wsX7_count (wsV RX7 133 RX7 yX7_toldPeople wsX7_toldPeople) := goodIn_app (goodIn_of _ (by decide +kernel)) ggX7_count_X7_toldPeople
theorem dX7_count_0 : decode cX7_count 0 = .ok (.iload_n 1, 1) := by decide +kernel
theorem dX7_count_1 : decode cX7_count 1 = .ok (.tableswitch 102 0 8 #[51, 56, 61, 66, 71, 76, 84, 92, 97], 51) := by decide +kernel
theorem dX7_count_52 : decode cX7_count 52 = .ok (.aload_n 0, 1) := by decide +kernel
theorem dX7_count_53 : decode cX7_count 53 = .ok (.invokevirtual 82, 3) := by decide +kernel
theorem dX7_count_56 : decode cX7_count 56 = .ok (.ireturn, 1) := by decide +kernel
theorem dX7_count_57 : decode cX7_count 57 = .ok (.aload_n 0, 1) := by decide +kernel
theorem dX7_count_58 : decode cX7_count 58 = .ok (.getfield 67, 3) := by decide +kernel
theorem dX7_count_61 : decode cX7_count 61 = .ok (.ireturn, 1) := by decide +kernel
theorem dX7_count_62 : decode cX7_count 62 = .ok (.aload_n 0, 1) := by decide +kernel
theorem dX7_count_63 : decode cX7_count 63 = .ok (.getfield 70, 3) := by decide +kernel
theorem dX7_count_66 : decode cX7_count 66 = .ok (.ireturn, 1) := by decide +kernel
theorem dX7_count_67 : decode cX7_count 67 = .ok (.aload_n 0, 1) := by decide +kernel
theorem dX7_count_68 : decode cX7_count 68 = .ok (.getfield 73, 3) := by decide +kernel
theorem dX7_count_71 : decode cX7_count 71 = .ok (.ireturn, 1) := by decide +kernel
theorem dX7_count_72 : decode cX7_count 72 = .ok (.aload_n 0, 1) := by decide +kernel
theorem dX7_count_73 : decode cX7_count 73 = .ok (.invokevirtual 133, 3) := by decide +kernel
theorem dX7_count_76 : decode cX7_count 76 = .ok (.ireturn, 1) := by decide +kernel
theorem dX7_count_77 : decode cX7_count 77 = .ok (.aload_n 0, 1) := by decide +kernel
theorem dX7_count_78 : decode cX7_count 78 = .ok (.getfield 29, 3) := by decide +kernel
theorem dX7_count_81 : decode cX7_count 81 = .ok (.getfield 144, 3) := by decide +kernel
theorem dX7_count_84 : decode cX7_count 84 = .ok (.ireturn, 1) := by decide +kernel
theorem dX7_count_85 : decode cX7_count 85 = .ok (.aload_n 0, 1) := by decide +kernel
theorem dX7_count_86 : decode cX7_count 86 = .ok (.getfield 12, 3) := by decide +kernel
theorem dX7_count_89 : decode cX7_count 89 = .ok (.getfield 50, 3) := by decide +kernel
theorem dX7_count_92 : decode cX7_count 92 = .ok (.ireturn, 1) := by decide +kernel
theorem dX7_count_93 : decode cX7_count 93 = .ok (.aload_n 0, 1) := by decide +kernel
theorem dX7_count_94 : decode cX7_count 94 = .ok (.getfield 79, 3) := by decide +kernel
theorem dX7_count_97 : decode cX7_count 97 = .ok (.ireturn, 1) := by decide +kernel
theorem dX7_count_98 : decode cX7_count 98 = .ok (.aload_n 0, 1) := by decide +kernel
theorem dX7_count_99 : decode cX7_count 99 = .ok (.getfield 148, 3) := by decide +kernel
theorem dX7_count_102 : decode cX7_count 102 = .ok (.ireturn, 1) := by decide +kernel
theorem dX7_count_103 : decode cX7_count 103 = .ok (.bipush (-102), 2) := by decide +kernel
theorem dX7_count_105 : decode cX7_count 105 = .ok (.ireturn, 1) := by decide +kernel
set_option maxRecDepth 20000 in
theorem ggX7_digest_X7_hueAt : GoodIn wsX7_digest wsX7_hueAt := goodIn_r _ [11] (by decide +kernel) (by decide +kernel)
set_option maxRecDepth 20000 in
theorem gX7_digest_X7_hueAt : GoodIn wsX7_digest (va_wsS RX7 85 yX7_hueAt wsX7_hueAt) := goodIn_app (goodIn_of _ (by decide +kernel)) ggX7_digest_X7_hueAt
set_option maxRecDepth 20000 in
theorem ggX7_digest_X7_few : GoodIn wsX7_digest wsX7_few := goodIn_r _ [15, 2, 16, 17, 18, 10, 19, 5, 20, 21, 22, 23, 24, 25, 26, 27, 28, 29, 30, 31, 32, 33, 34, 8, 9, 11, 35, 36, 37, 38, 6, 39, 40, 41, 42, 43, 44, 45, 4, 46, 47, 48, 49, 50, 51, 52, 53, 54, 55, 56, 57, 58, 59, 60, 61, 62, 63, 64, 65, 66, 67, 68, 69, 70, 71, 72, 73, 74, 75, 76, 77, 78, 79, 80, 81, 82, 83, 84, 85, 86, 87, 88, 89, 90, 91, 157, 158, 159, 160, 161, 162, 163, 164, 165, 166, 167, 168, 169, 170, 171, 172, 175, 176, 177, 178, 179, 180, 181, 182, 183, 184, 185, 186, 187, 188, 189, 190, 191, 192, 193, 194, 195, 196, 197, 198, 199, 200, 201, 202, 203, 204] (by decide +kernel) (by decide +kernel)
set_option maxRecDepth 20000 in
theorem gX7_digest_X7_few : GoodIn wsX7_digest (wsV RX7 201 RX7 yX7_few wsX7_few) := goodIn_app (goodIn_of _ (by decide +kernel)) ggX7_digest_X7_few
set_option maxRecDepth 20000 in
theorem ggX7_digest_X7_withPerson : GoodIn wsX7_digest wsX7_withPerson := goodIn_r _ [95, 3, 4, 96, 97, 98, 10, 99, 2, 46, 100, 101, 47, 48, 49, 50, 51, 8, 9, 11, 52, 53, 54, 55, 56, 57, 58, 59, 60, 61, 62, 63, 64, 65, 66, 67, 68, 69, 70, 71, 72, 73, 74, 75, 76, 77, 78, 79, 80, 81, 82, 83, 84, 85, 86, 87, 88, 89, 90, 91, 102, 103, 104, 105, 106, 107, 108, 109, 110, 111, 112, 113, 114, 115, 116, 117, 118, 119, 120, 121, 122, 123, 124, 125, 126, 127, 128, 129, 130, 131, 132, 133, 134, 135, 136, 137, 138, 139, 140, 157, 158, 159, 160, 161, 162, 163, 164, 165, 166, 167, 168, 169, 170, 171, 172, 175, 176, 177, 178, 179, 180, 181, 182, 183, 184, 185, 186, 187, 188, 189, 190, 191, 192, 193, 194, 195, 196, 197, 198, 199, 200, 201, 202, 203, 204] (by decide +kernel) (by decide +kernel)
set_option maxRecDepth 20000 in
theorem gX7_digest_X7_withPerson : GoodIn wsX7_digest (wsV RX7 204 RX7 yX7_withPerson wsX7_withPerson) := goodIn_app (goodIn_of _ (by decide +kernel)) ggX7_digest_X7_withPerson
set_option maxRecDepth 20000 in
theorem ggX7_digest_X7_count : GoodIn wsX7_digest wsX7_count := goodIn_r _ [144, 4, 5, 145, 146, 7, 147, 148, 149, 150, 151, 10, 152, 2, 8, 9, 11, 153, 154, 155, 156, 46, 47, 48, 49, 50, 51, 157, 158, 159, 160, 161, 162, 163, 164, 165, 166, 167, 168, 169, 170, 171, 172, 205, 206, 207, 208, 209, 210, 173, 174, 175, 176, 177, 178, 179, 180, 181, 182, 183, 184, 185, 186, 187, 188, 189, 190, 191, 192, 193, 194, 195, 196, 197, 198, 199, 200, 201, 202, 203, 204] (by decide +kernel) (by decide +kernel)
set_option maxRecDepth 20000 in
theorem gX7_digest_X7_count : GoodIn wsX7_digest (wsV RX7 211 RX7 yX7_count wsX7_count) := goodIn_app (goodIn_of _ (by decide +kernel)) ggX7_digest_X7_count
theorem dX7_digest_0 : decode cX7_digest 0 = .ok (.ldc2_w 197, 3) := by decide +kernel
theorem dX7_digest_3 : decode cX7_digest 3 = .ok (.lstore_n 1, 1) := by decide +kernel
theorem dX7_digest_4 : decode cX7_digest 4 = .ok (.aload_n 0, 1) := by decide +kernel
theorem dX7_digest_5 : decode cX7_digest 5 = .ok (.getfield 39, 3) := by decide +kernel
theorem dX7_digest_8 : decode cX7_digest 8 = .ok (.iconst (-1), 1) := by decide +kernel
theorem dX7_digest_9 : decode cX7_digest 9 = .ok (.if_icmp .eq 59, 3) := by decide +kernel
theorem dX7_digest_12 : decode cX7_digest 12 = .ok (.iconst 0, 1) := by decide +kernel
theorem dX7_digest_13 : decode cX7_digest 13 = .ok (.istore_n 3, 1) := by decide +kernel
theorem dX7_digest_14 : decode cX7_digest 14 = .ok (.iload_n 3, 1) := by decide +kernel
theorem dX7_digest_15 : decode cX7_digest 15 = .ok (.bipush 6, 2) := by decide +kernel
theorem dX7_digest_17 : decode cX7_digest 17 = .ok (.if_icmp .ge 25, 3) := by decide +kernel
theorem dX7_digest_20 : decode cX7_digest 20 = .ok (.ldc2_w 199, 3) := by decide +kernel
theorem dX7_digest_23 : decode cX7_digest 23 = .ok (.lload_n 1, 1) := by decide +kernel
theorem dX7_digest_24 : decode cX7_digest 24 = .ok (.lmul, 1) := by decide +kernel
theorem dX7_digest_25 : decode cX7_digest 25 = .ok (.aload_n 0, 1) := by decide +kernel
theorem dX7_digest_26 : decode cX7_digest 26 = .ok (.getfield 39, 3) := by decide +kernel
theorem dX7_digest_29 : decode cX7_digest 29 = .ok (.iload_n 3, 1) := by decide +kernel
theorem dX7_digest_30 : decode cX7_digest 30 = .ok (.invokestatic 85, 3) := by decide +kernel
theorem dX7_digest_33 : decode cX7_digest 33 = .ok (.i2l, 1) := by decide +kernel
theorem dX7_digest_34 : decode cX7_digest 34 = .ok (.ladd, 1) := by decide +kernel
theorem dX7_digest_35 : decode cX7_digest 35 = .ok (.lstore_n 1, 1) := by decide +kernel
theorem dX7_digest_36 : decode cX7_digest 36 = .ok (.iinc 3 1, 3) := by decide +kernel
theorem dX7_digest_39 : decode cX7_digest 39 = .ok (.goto (-25), 3) := by decide +kernel
theorem dX7_digest_42 : decode cX7_digest 42 = .ok (.ldc2_w 199, 3) := by decide +kernel
theorem dX7_digest_45 : decode cX7_digest 45 = .ok (.lload_n 1, 1) := by decide +kernel
theorem dX7_digest_46 : decode cX7_digest 46 = .ok (.lmul, 1) := by decide +kernel
theorem dX7_digest_47 : decode cX7_digest 47 = .ok (.aload_n 0, 1) := by decide +kernel
theorem dX7_digest_48 : decode cX7_digest 48 = .ok (.iconst 0, 1) := by decide +kernel
theorem dX7_digest_49 : decode cX7_digest 49 = .ok (.invokevirtual 201, 3) := by decide +kernel
theorem dX7_digest_52 : decode cX7_digest 52 = .ok (.i2l, 1) := by decide +kernel
theorem dX7_digest_53 : decode cX7_digest 53 = .ok (.ladd, 1) := by decide +kernel
theorem dX7_digest_54 : decode cX7_digest 54 = .ok (.lstore_n 1, 1) := by decide +kernel
theorem dX7_digest_55 : decode cX7_digest 55 = .ok (.ldc2_w 199, 3) := by decide +kernel
theorem dX7_digest_58 : decode cX7_digest 58 = .ok (.lload_n 1, 1) := by decide +kernel
theorem dX7_digest_59 : decode cX7_digest 59 = .ok (.lmul, 1) := by decide +kernel
theorem dX7_digest_60 : decode cX7_digest 60 = .ok (.aload_n 0, 1) := by decide +kernel
theorem dX7_digest_61 : decode cX7_digest 61 = .ok (.iconst 1, 1) := by decide +kernel
theorem dX7_digest_62 : decode cX7_digest 62 = .ok (.invokevirtual 201, 3) := by decide +kernel
theorem dX7_digest_65 : decode cX7_digest 65 = .ok (.i2l, 1) := by decide +kernel
theorem dX7_digest_66 : decode cX7_digest 66 = .ok (.ladd, 1) := by decide +kernel
theorem dX7_digest_67 : decode cX7_digest 67 = .ok (.lstore_n 1, 1) := by decide +kernel
theorem dX7_digest_68 : decode cX7_digest 68 = .ok (.iconst 0, 1) := by decide +kernel
theorem dX7_digest_69 : decode cX7_digest 69 = .ok (.istore_n 3, 1) := by decide +kernel
theorem dX7_digest_70 : decode cX7_digest 70 = .ok (.iload_n 3, 1) := by decide +kernel
theorem dX7_digest_71 : decode cX7_digest 71 = .ok (.aload_n 0, 1) := by decide +kernel
theorem dX7_digest_72 : decode cX7_digest 72 = .ok (.getfield 67, 3) := by decide +kernel
theorem dX7_digest_75 : decode cX7_digest 75 = .ok (.if_icmp .ge 16, 3) := by decide +kernel
end
section
theorem dX7_digest_78 : decode cX7_digest 78 = .ok (.aload_n 0, 1) := by decide +kernel
theorem dX7_digest_79 : decode cX7_digest 79 = .ok (.lload_n 1, 1) := by decide +kernel
theorem dX7_digest_80 : decode cX7_digest 80 = .ok (.iload_n 3, 1) := by decide +kernel
theorem dX7_digest_81 : decode cX7_digest 81 = .ok (.invokevirtual 204, 3) := by decide +kernel
theorem dX7_digest_84 : decode cX7_digest 84 = .ok (.lstore_n 1, 1) := by decide +kernel
theorem dX7_digest_85 : decode cX7_digest 85 = .ok (.iinc 3 1, 3) := by decide +kernel
theorem dX7_digest_88 : decode cX7_digest 88 = .ok (.goto (-18), 3) := by decide +kernel
theorem dX7_digest_91 : decode cX7_digest 91 = .ok (.iconst 0, 1) := by decide +kernel
theorem dX7_digest_92 : decode cX7_digest 92 = .ok (.istore_n 3, 1) := by decide +kernel
theorem dX7_digest_93 : decode cX7_digest 93 = .ok (.iload_n 3, 1) := by decide +kernel
theorem dX7_digest_94 : decode cX7_digest 94 = .ok (.aload_n 0, 1) := by decide +kernel
theorem dX7_digest_95 : decode cX7_digest 95 = .ok (.getfield 70, 3) := by decide +kernel
theorem dX7_digest_98 : decode cX7_digest 98 = .ok (.if_icmp .ge 23, 3) := by decide +kernel
theorem dX7_digest_101 : decode cX7_digest 101 = .ok (.ldc2_w 199, 3) := by decide +kernel
theorem dX7_digest_104 : decode cX7_digest 104 = .ok (.lload_n 1, 1) := by decide +kernel
theorem dX7_digest_105 : decode cX7_digest 105 = .ok (.lmul, 1) := by decide +kernel
theorem dX7_digest_106 : decode cX7_digest 106 = .ok (.aload_n 0, 1) := by decide +kernel
theorem dX7_digest_107 : decode cX7_digest 107 = .ok (.getfield 22, 3) := by decide +kernel
theorem dX7_digest_110 : decode cX7_digest 110 = .ok (.iload_n 3, 1) := by decide +kernel
theorem dX7_digest_111 : decode cX7_digest 111 = .ok (.iaload, 1) := by decide +kernel
theorem dX7_digest_112 : decode cX7_digest 112 = .ok (.i2l, 1) := by decide +kernel
theorem dX7_digest_113 : decode cX7_digest 113 = .ok (.ladd, 1) := by decide +kernel
theorem dX7_digest_114 : decode cX7_digest 114 = .ok (.lstore_n 1, 1) := by decide +kernel
theorem dX7_digest_115 : decode cX7_digest 115 = .ok (.iinc 3 1, 3) := by decide +kernel
theorem dX7_digest_118 : decode cX7_digest 118 = .ok (.goto (-25), 3) := by decide +kernel
theorem dX7_digest_121 : decode cX7_digest 121 = .ok (.iconst 0, 1) := by decide +kernel
theorem dX7_digest_122 : decode cX7_digest 122 = .ok (.istore_n 3, 1) := by decide +kernel
theorem dX7_digest_123 : decode cX7_digest 123 = .ok (.iload_n 3, 1) := by decide +kernel
theorem dX7_digest_124 : decode cX7_digest 124 = .ok (.aload_n 0, 1) := by decide +kernel
theorem dX7_digest_125 : decode cX7_digest 125 = .ok (.getfield 12, 3) := by decide +kernel
theorem dX7_digest_128 : decode cX7_digest 128 = .ok (.getfield 50, 3) := by decide +kernel
theorem dX7_digest_131 : decode cX7_digest 131 = .ok (.if_icmp .ge 26, 3) := by decide +kernel
theorem dX7_digest_134 : decode cX7_digest 134 = .ok (.ldc2_w 199, 3) := by decide +kernel
theorem dX7_digest_137 : decode cX7_digest 137 = .ok (.lload_n 1, 1) := by decide +kernel
theorem dX7_digest_138 : decode cX7_digest 138 = .ok (.lmul, 1) := by decide +kernel
theorem dX7_digest_139 : decode cX7_digest 139 = .ok (.aload_n 0, 1) := by decide +kernel
theorem dX7_digest_140 : decode cX7_digest 140 = .ok (.getfield 12, 3) := by decide +kernel
theorem dX7_digest_143 : decode cX7_digest 143 = .ok (.getfield 208, 3) := by decide +kernel
theorem dX7_digest_146 : decode cX7_digest 146 = .ok (.iload_n 3, 1) := by decide +kernel
theorem dX7_digest_147 : decode cX7_digest 147 = .ok (.iaload, 1) := by decide +kernel
theorem dX7_digest_148 : decode cX7_digest 148 = .ok (.i2l, 1) := by decide +kernel
theorem dX7_digest_149 : decode cX7_digest 149 = .ok (.ladd, 1) := by decide +kernel
theorem dX7_digest_150 : decode cX7_digest 150 = .ok (.lstore_n 1, 1) := by decide +kernel
theorem dX7_digest_151 : decode cX7_digest 151 = .ok (.iinc 3 1, 3) := by decide +kernel
theorem dX7_digest_154 : decode cX7_digest 154 = .ok (.goto (-31), 3) := by decide +kernel
theorem dX7_digest_157 : decode cX7_digest 157 = .ok (.iconst 0, 1) := by decide +kernel
theorem dX7_digest_158 : decode cX7_digest 158 = .ok (.istore_n 3, 1) := by decide +kernel
theorem dX7_digest_159 : decode cX7_digest 159 = .ok (.iload_n 3, 1) := by decide +kernel
theorem dX7_digest_160 : decode cX7_digest 160 = .ok (.bipush 8, 2) := by decide +kernel
theorem dX7_digest_162 : decode cX7_digest 162 = .ok (.if_icmp .gt 22, 3) := by decide +kernel
theorem dX7_digest_165 : decode cX7_digest 165 = .ok (.ldc2_w 199, 3) := by decide +kernel
theorem dX7_digest_168 : decode cX7_digest 168 = .ok (.lload_n 1, 1) := by decide +kernel
theorem dX7_digest_169 : decode cX7_digest 169 = .ok (.lmul, 1) := by decide +kernel
theorem dX7_digest_170 : decode cX7_digest 170 = .ok (.aload_n 0, 1) := by decide +kernel
theorem dX7_digest_171 : decode cX7_digest 171 = .ok (.iload_n 3, 1) := by decide +kernel
theorem dX7_digest_172 : decode cX7_digest 172 = .ok (.invokevirtual 211, 3) := by decide +kernel
theorem dX7_digest_175 : decode cX7_digest 175 = .ok (.i2l, 1) := by decide +kernel
theorem dX7_digest_176 : decode cX7_digest 176 = .ok (.ladd, 1) := by decide +kernel
theorem dX7_digest_177 : decode cX7_digest 177 = .ok (.lstore_n 1, 1) := by decide +kernel
theorem dX7_digest_178 : decode cX7_digest 178 = .ok (.iinc 3 1, 3) := by decide +kernel
theorem dX7_digest_181 : decode cX7_digest 181 = .ok (.goto (-22), 3) := by decide +kernel
theorem dX7_digest_184 : decode cX7_digest 184 = .ok (.lload_n 1, 1) := by decide +kernel
theorem dX7_digest_185 : decode cX7_digest 185 = .ok (.lreturn, 1) := by decide +kernel
set_option maxRecDepth 20000 in
theorem ggX7_withPerson_X7_about : GoodIn wsX7_withPerson wsX7_about := goodIn_r _ [7, 8, 9, 10, 11, 12, 13, 14, 6, 15, 2, 16, 17, 18, 19, 20, 21, 22, 23, 24, 25, 26, 27, 28, 29, 30, 31, 32, 33, 34, 35, 36, 37, 38, 39, 40, 41, 42, 43, 44, 45, 46, 47, 48, 49, 50, 51, 52, 53, 54, 55, 56, 57, 58, 59, 60, 61, 62, 63, 64, 65, 66, 67, 68, 69, 70, 71, 72, 73, 74, 75, 76, 77, 78, 79, 80, 81, 82, 83, 84, 85, 86, 87, 88, 89, 90, 99, 100, 101, 102, 103, 104, 105, 106, 107, 108, 109, 110, 111, 112, 113, 114, 115, 116, 117, 118, 119, 120, 121, 122, 123, 124, 125, 126, 127, 128, 129, 130, 131, 132, 133, 134, 135, 136, 137, 138, 139, 140, 141, 142, 143, 144] (by decide +kernel) (by decide +kernel)
set_option maxRecDepth 20000 in
theorem gX7_withPerson_X7_about : GoodIn wsX7_withPerson (wsV RX7 214 RX7 yX7_about wsX7_about) := goodIn_app (goodIn_of _ (by decide +kernel)) ggX7_withPerson_X7_about
set_option maxRecDepth 20000 in
theorem ggX7_withPerson_X7_differ : GoodIn wsX7_withPerson wsX7_differ := goodIn_r _ [94, 8, 12, 13, 14, 6, 15, 2, 16, 17, 18, 19, 20, 21, 22, 23, 24, 25, 26, 27, 28, 29, 30, 31, 32, 33, 34, 35, 36, 37, 38, 39, 40, 41, 42, 43, 44, 45, 46, 47, 48, 49, 50, 51, 52, 53, 54, 55, 56, 57, 58, 59, 99, 100, 101, 102, 103, 104, 105, 106, 107, 108, 109, 110, 111, 112, 113, 114, 115, 116, 117, 118, 119, 120, 121, 122, 123, 124, 125, 126, 127, 128, 129, 130, 131, 132, 133, 134, 135, 136, 137, 138, 139, 140, 141, 142, 143, 144] (by decide +kernel) (by decide +kernel)
set_option maxRecDepth 20000 in
theorem gX7_withPerson_X7_differ : GoodIn wsX7_withPerson (wsV RX7 217 RX7 yX7_differ wsX7_differ) := goodIn_app (goodIn_of _ (by decide +kernel)) ggX7_withPerson_X7_differ
set_option maxRecDepth 20000 in
theorem ggX7_withPerson_X7_alike : GoodIn wsX7_withPerson wsX7_alike := goodIn_r _ [98, 12, 13, 14, 6, 15, 2, 16, 20, 21, 22, 23, 24, 25, 26, 27, 28, 29, 30, 31, 32, 33, 34, 35, 36, 37, 38, 39, 40, 41, 42, 43, 44, 45, 46, 47, 48, 49, 50, 51, 52, 53, 54, 55, 56, 57, 58, 59, 99, 100, 101, 102, 103, 104, 105, 106, 107, 108, 109, 110, 111, 112, 113, 114, 115, 116, 117, 118, 119, 120, 121, 122, 123, 124, 125, 126, 127, 128, 129, 130, 131, 132, 133, 134, 135, 136, 137, 138, 139, 140, 141, 142, 143, 144] (by decide +kernel) (by decide +kernel)
set_option maxRecDepth 20000 in
theorem gX7_withPerson_X7_alike : GoodIn wsX7_withPerson (wsV RX7 220 RX7 yX7_alike wsX7_alike) := goodIn_app (goodIn_of _ (by decide +kernel)) ggX7_withPerson_X7_alike
theorem dX7_withPerson_0 : decode cX7_withPerson 0 = .ok (.lload_n 1, 1) := by decide +kernel
theorem dX7_withPerson_1 : decode cX7_withPerson 1 = .ok (.lstore 4, 2) := by decide +kernel
theorem dX7_withPerson_3 : decode cX7_withPerson 3 = .ok (.iconst 0, 1) := by decide +kernel
theorem dX7_withPerson_4 : decode cX7_withPerson 4 = .ok (.istore 6, 2) := by decide +kernel
theorem dX7_withPerson_6 : decode cX7_withPerson 6 = .ok (.iload 6, 2) := by decide +kernel
theorem dX7_withPerson_8 : decode cX7_withPerson 8 = .ok (.iconst 3, 1) := by decide +kernel
theorem dX7_withPerson_9 : decode cX7_withPerson 9 = .ok (.if_icmp .gt 26, 3) := by decide +kernel
theorem dX7_withPerson_12 : decode cX7_withPerson 12 = .ok (.ldc2_w 199, 3) := by decide +kernel
theorem dX7_withPerson_15 : decode cX7_withPerson 15 = .ok (.lload 4, 2) := by decide +kernel
theorem dX7_withPerson_17 : decode cX7_withPerson 17 = .ok (.lmul, 1) := by decide +kernel
theorem dX7_withPerson_18 : decode cX7_withPerson 18 = .ok (.aload_n 0, 1) := by decide +kernel
theorem dX7_withPerson_19 : decode cX7_withPerson 19 = .ok (.iload_n 3, 1) := by decide +kernel
theorem dX7_withPerson_20 : decode cX7_withPerson 20 = .ok (.iload 6, 2) := by decide +kernel
theorem dX7_withPerson_22 : decode cX7_withPerson 22 = .ok (.invokevirtual 214, 3) := by decide +kernel
theorem dX7_withPerson_25 : decode cX7_withPerson 25 = .ok (.i2l, 1) := by decide +kernel
theorem dX7_withPerson_26 : decode cX7_withPerson 26 = .ok (.ladd, 1) := by decide +kernel
theorem dX7_withPerson_27 : decode cX7_withPerson 27 = .ok (.lstore 4, 2) := by decide +kernel
theorem dX7_withPerson_29 : decode cX7_withPerson 29 = .ok (.iinc 6 1, 3) := by decide +kernel
theorem dX7_withPerson_32 : decode cX7_withPerson 32 = .ok (.goto (-26), 3) := by decide +kernel
theorem dX7_withPerson_35 : decode cX7_withPerson 35 = .ok (.iconst 0, 1) := by decide +kernel
theorem dX7_withPerson_36 : decode cX7_withPerson 36 = .ok (.istore 6, 2) := by decide +kernel
theorem dX7_withPerson_38 : decode cX7_withPerson 38 = .ok (.iload 6, 2) := by decide +kernel
theorem dX7_withPerson_40 : decode cX7_withPerson 40 = .ok (.bipush 6, 2) := by decide +kernel
theorem dX7_withPerson_42 : decode cX7_withPerson 42 = .ok (.if_icmp .ge 29, 3) := by decide +kernel
theorem dX7_withPerson_45 : decode cX7_withPerson 45 = .ok (.ldc2_w 199, 3) := by decide +kernel
theorem dX7_withPerson_48 : decode cX7_withPerson 48 = .ok (.lload 4, 2) := by decide +kernel
theorem dX7_withPerson_50 : decode cX7_withPerson 50 = .ok (.lmul, 1) := by decide +kernel
theorem dX7_withPerson_51 : decode cX7_withPerson 51 = .ok (.aload_n 0, 1) := by decide +kernel
theorem dX7_withPerson_52 : decode cX7_withPerson 52 = .ok (.iload_n 3, 1) := by decide +kernel
theorem dX7_withPerson_53 : decode cX7_withPerson 53 = .ok (.bipush 10, 2) := by decide +kernel
theorem dX7_withPerson_55 : decode cX7_withPerson 55 = .ok (.iload 6, 2) := by decide +kernel
theorem dX7_withPerson_57 : decode cX7_withPerson 57 = .ok (.iadd, 1) := by decide +kernel
theorem dX7_withPerson_58 : decode cX7_withPerson 58 = .ok (.invokevirtual 214, 3) := by decide +kernel
theorem dX7_withPerson_61 : decode cX7_withPerson 61 = .ok (.i2l, 1) := by decide +kernel
theorem dX7_withPerson_62 : decode cX7_withPerson 62 = .ok (.ladd, 1) := by decide +kernel
theorem dX7_withPerson_63 : decode cX7_withPerson 63 = .ok (.lstore 4, 2) := by decide +kernel
theorem dX7_withPerson_65 : decode cX7_withPerson 65 = .ok (.iinc 6 1, 3) := by decide +kernel
theorem dX7_withPerson_68 : decode cX7_withPerson 68 = .ok (.goto (-30), 3) := by decide +kernel
theorem dX7_withPerson_71 : decode cX7_withPerson 71 = .ok (.iconst 0, 1) := by decide +kernel
theorem dX7_withPerson_72 : decode cX7_withPerson 72 = .ok (.istore 6, 2) := by decide +kernel
theorem dX7_withPerson_74 : decode cX7_withPerson 74 = .ok (.iload 6, 2) := by decide +kernel
theorem dX7_withPerson_76 : decode cX7_withPerson 76 = .ok (.bipush 6, 2) := by decide +kernel
theorem dX7_withPerson_78 : decode cX7_withPerson 78 = .ok (.if_icmp .ge 29, 3) := by decide +kernel
theorem dX7_withPerson_81 : decode cX7_withPerson 81 = .ok (.ldc2_w 199, 3) := by decide +kernel
theorem dX7_withPerson_84 : decode cX7_withPerson 84 = .ok (.lload 4, 2) := by decide +kernel
theorem dX7_withPerson_86 : decode cX7_withPerson 86 = .ok (.lmul, 1) := by decide +kernel
theorem dX7_withPerson_87 : decode cX7_withPerson 87 = .ok (.aload_n 0, 1) := by decide +kernel
theorem dX7_withPerson_88 : decode cX7_withPerson 88 = .ok (.iload_n 3, 1) := by decide +kernel
theorem dX7_withPerson_89 : decode cX7_withPerson 89 = .ok (.bipush 20, 2) := by decide +kernel
theorem dX7_withPerson_91 : decode cX7_withPerson 91 = .ok (.iload 6, 2) := by decide +kernel
theorem dX7_withPerson_93 : decode cX7_withPerson 93 = .ok (.iadd, 1) := by decide +kernel
theorem dX7_withPerson_94 : decode cX7_withPerson 94 = .ok (.invokevirtual 214, 3) := by decide +kernel
theorem dX7_withPerson_97 : decode cX7_withPerson 97 = .ok (.i2l, 1) := by decide +kernel
theorem dX7_withPerson_98 : decode cX7_withPerson 98 = .ok (.ladd, 1) := by decide +kernel
theorem dX7_withPerson_99 : decode cX7_withPerson 99 = .ok (.lstore 4, 2) := by decide +kernel
theorem dX7_withPerson_101 : decode cX7_withPerson 101 = .ok (.iinc 6 1, 3) := by decide +kernel
theorem dX7_withPerson_104 : decode cX7_withPerson 104 = .ok (.goto (-30), 3) := by decide +kernel
theorem dX7_withPerson_107 : decode cX7_withPerson 107 = .ok (.iconst 0, 1) := by decide +kernel
theorem dX7_withPerson_108 : decode cX7_withPerson 108 = .ok (.istore 6, 2) := by decide +kernel
theorem dX7_withPerson_110 : decode cX7_withPerson 110 = .ok (.iload 6, 2) := by decide +kernel
theorem dX7_withPerson_112 : decode cX7_withPerson 112 = .ok (.aload_n 0, 1) := by decide +kernel
theorem dX7_withPerson_113 : decode cX7_withPerson 113 = .ok (.getfield 67, 3) := by decide +kernel
theorem dX7_withPerson_116 : decode cX7_withPerson 116 = .ok (.if_icmp .ge 43, 3) := by decide +kernel
theorem dX7_withPerson_119 : decode cX7_withPerson 119 = .ok (.ldc2_w 199, 3) := by decide +kernel
theorem dX7_withPerson_122 : decode cX7_withPerson 122 = .ok (.lload 4, 2) := by decide +kernel
theorem dX7_withPerson_124 : decode cX7_withPerson 124 = .ok (.lmul, 1) := by decide +kernel
theorem dX7_withPerson_125 : decode cX7_withPerson 125 = .ok (.aload_n 0, 1) := by decide +kernel
theorem dX7_withPerson_126 : decode cX7_withPerson 126 = .ok (.iload_n 3, 1) := by decide +kernel
theorem dX7_withPerson_127 : decode cX7_withPerson 127 = .ok (.iload 6, 2) := by decide +kernel
theorem dX7_withPerson_129 : decode cX7_withPerson 129 = .ok (.invokevirtual 217, 3) := by decide +kernel
theorem dX7_withPerson_132 : decode cX7_withPerson 132 = .ok (.i2l, 1) := by decide +kernel
theorem dX7_withPerson_133 : decode cX7_withPerson 133 = .ok (.ladd, 1) := by decide +kernel
theorem dX7_withPerson_134 : decode cX7_withPerson 134 = .ok (.lstore 4, 2) := by decide +kernel
theorem dX7_withPerson_136 : decode cX7_withPerson 136 = .ok (.ldc2_w 199, 3) := by decide +kernel
theorem dX7_withPerson_139 : decode cX7_withPerson 139 = .ok (.lload 4, 2) := by decide +kernel
theorem dX7_withPerson_141 : decode cX7_withPerson 141 = .ok (.lmul, 1) := by decide +kernel
theorem dX7_withPerson_142 : decode cX7_withPerson 142 = .ok (.aload_n 0, 1) := by decide +kernel
theorem dX7_withPerson_143 : decode cX7_withPerson 143 = .ok (.iload_n 3, 1) := by decide +kernel
theorem dX7_withPerson_144 : decode cX7_withPerson 144 = .ok (.iload 6, 2) := by decide +kernel
theorem dX7_withPerson_146 : decode cX7_withPerson 146 = .ok (.invokevirtual 220, 3) := by decide +kernel
theorem dX7_withPerson_149 : decode cX7_withPerson 149 = .ok (.i2l, 1) := by decide +kernel
theorem dX7_withPerson_150 : decode cX7_withPerson 150 = .ok (.ladd, 1) := by decide +kernel
theorem dX7_withPerson_151 : decode cX7_withPerson 151 = .ok (.lstore 4, 2) := by decide +kernel
theorem dX7_withPerson_153 : decode cX7_withPerson 153 = .ok (.iinc 6 1, 3) := by decide +kernel
theorem dX7_withPerson_156 : decode cX7_withPerson 156 = .ok (.goto (-46), 3) := by decide +kernel
theorem dX7_withPerson_159 : decode cX7_withPerson 159 = .ok (.lload 4, 2) := by decide +kernel
theorem dX7_withPerson_161 : decode cX7_withPerson 161 = .ok (.lreturn, 1) := by decide +kernel
theorem dX7_isHue_0 : decode cX7_isHue 0 = .ok (.iload_n 0, 1) := by decide +kernel
theorem dX7_isHue_1 : decode cX7_isHue 1 = .ok (.ifCond .lt 13, 3) := by decide +kernel
theorem dX7_isHue_4 : decode cX7_isHue 4 = .ok (.iload_n 0, 1) := by decide +kernel
theorem dX7_isHue_5 : decode cX7_isHue 5 = .ok (.bipush 8, 2) := by decide +kernel
theorem dX7_isHue_7 : decode cX7_isHue 7 = .ok (.if_icmp .ge 7, 3) := by decide +kernel
theorem dX7_isHue_10 : decode cX7_isHue 10 = .ok (.iconst 1, 1) := by decide +kernel
theorem dX7_isHue_11 : decode cX7_isHue 11 = .ok (.goto 4, 3) := by decide +kernel
theorem dX7_isHue_14 : decode cX7_isHue 14 = .ok (.iconst 0, 1) := by decide +kernel
theorem dX7_isHue_15 : decode cX7_isHue 15 = .ok (.ireturn, 1) := by decide +kernel
theorem dX7_hueAt_0 : decode cX7_hueAt 0 = .ok (.iload_n 0, 1) := by decide +kernel
theorem dX7_hueAt_1 : decode cX7_hueAt 1 = .ok (.iconst 3, 1) := by decide +kernel
theorem dX7_hueAt_2 : decode cX7_hueAt 2 = .ok (.iload_n 1, 1) := by decide +kernel
theorem dX7_hueAt_3 : decode cX7_hueAt 3 = .ok (.imul, 1) := by decide +kernel
theorem dX7_hueAt_4 : decode cX7_hueAt 4 = .ok (.ishr, 1) := by decide +kernel
theorem dX7_hueAt_5 : decode cX7_hueAt 5 = .ok (.bipush 7, 2) := by decide +kernel
theorem dX7_hueAt_7 : decode cX7_hueAt 7 = .ok (.iand, 1) := by decide +kernel
theorem dX7_hueAt_8 : decode cX7_hueAt 8 = .ok (.ireturn, 1) := by decide +kernel
theorem dX7_withHue_0 : decode cX7_withHue 0 = .ok (.iconst 3, 1) := by decide +kernel
theorem dX7_withHue_1 : decode cX7_withHue 1 = .ok (.iload_n 1, 1) := by decide +kernel
theorem dX7_withHue_2 : decode cX7_withHue 2 = .ok (.imul, 1) := by decide +kernel
theorem dX7_withHue_3 : decode cX7_withHue 3 = .ok (.istore_n 3, 1) := by decide +kernel
theorem dX7_withHue_4 : decode cX7_withHue 4 = .ok (.iload_n 0, 1) := by decide +kernel
theorem dX7_withHue_5 : decode cX7_withHue 5 = .ok (.bipush 7, 2) := by decide +kernel
theorem dX7_withHue_7 : decode cX7_withHue 7 = .ok (.iload_n 3, 1) := by decide +kernel
theorem dX7_withHue_8 : decode cX7_withHue 8 = .ok (.ishl, 1) := by decide +kernel
theorem dX7_withHue_9 : decode cX7_withHue 9 = .ok (.iconst (-1), 1) := by decide +kernel
theorem dX7_withHue_10 : decode cX7_withHue 10 = .ok (.ixor, 1) := by decide +kernel
theorem dX7_withHue_11 : decode cX7_withHue 11 = .ok (.iand, 1) := by decide +kernel
theorem dX7_withHue_12 : decode cX7_withHue 12 = .ok (.iload_n 2, 1) := by decide +kernel
theorem dX7_withHue_13 : decode cX7_withHue 13 = .ok (.iload_n 3, 1) := by decide +kernel
theorem dX7_withHue_14 : decode cX7_withHue 14 = .ok (.ishl, 1) := by decide +kernel
theorem dX7_withHue_15 : decode cX7_withHue 15 = .ok (.ior, 1) := by decide +kernel
theorem dX7_withHue_16 : decode cX7_withHue 16 = .ok (.ireturn, 1) := by decide +kernel
theorem dX7_holds_0 : decode cX7_holds 0 = .ok (.iload_n 0, 1) := by decide +kernel
theorem dX7_holds_1 : decode cX7_holds 1 = .ok (.iload_n 1, 1) := by decide +kernel
theorem dX7_holds_2 : decode cX7_holds 2 = .ok (.ishr, 1) := by decide +kernel
theorem dX7_holds_3 : decode cX7_holds 3 = .ok (.iconst 1, 1) := by decide +kernel
theorem dX7_holds_4 : decode cX7_holds 4 = .ok (.iand, 1) := by decide +kernel
theorem dX7_holds_5 : decode cX7_holds 5 = .ok (.iconst 1, 1) := by decide +kernel
theorem dX7_holds_6 : decode cX7_holds 6 = .ok (.if_icmp .ne 7, 3) := by decide +kernel
theorem dX7_holds_9 : decode cX7_holds 9 = .ok (.iconst 1, 1) := by decide +kernel
theorem dX7_holds_10 : decode cX7_holds 10 = .ok (.goto 4, 3) := by decide +kernel
theorem dX7_holds_13 : decode cX7_holds 13 = .ok (.iconst 0, 1) := by decide +kernel
theorem dX7_holds_14 : decode cX7_holds 14 = .ok (.ireturn, 1) := by decide +kernel
set_option maxRecDepth 20000 in
theorem ggX7_colouredCells_X7_hueAt : GoodIn wsX7_colouredCells wsX7_hueAt := goodIn_r _ [5] (by decide +kernel) (by decide +kernel)
set_option maxRecDepth 20000 in
theorem gX7_colouredCells_X7_hueAt : GoodIn wsX7_colouredCells (va_wsS RX7 85 yX7_hueAt wsX7_hueAt) := goodIn_app (goodIn_of _ (by decide +kernel)) ggX7_colouredCells_X7_hueAt
theorem dX7_colouredCells_0 : decode cX7_colouredCells 0 = .ok (.aload_n 0, 1) := by decide +kernel
theorem dX7_colouredCells_1 : decode cX7_colouredCells 1 = .ok (.getfield 39, 3) := by decide +kernel
theorem dX7_colouredCells_4 : decode cX7_colouredCells 4 = .ok (.iconst (-1), 1) := by decide +kernel
theorem dX7_colouredCells_5 : decode cX7_colouredCells 5 = .ok (.if_icmp .ne 5, 3) := by decide +kernel
theorem dX7_colouredCells_8 : decode cX7_colouredCells 8 = .ok (.iconst 0, 1) := by decide +kernel
theorem dX7_colouredCells_9 : decode cX7_colouredCells 9 = .ok (.ireturn, 1) := by decide +kernel
theorem dX7_colouredCells_10 : decode cX7_colouredCells 10 = .ok (.iconst 0, 1) := by decide +kernel
theorem dX7_colouredCells_11 : decode cX7_colouredCells 11 = .ok (.istore_n 1, 1) := by decide +kernel
theorem dX7_colouredCells_12 : decode cX7_colouredCells 12 = .ok (.iconst 0, 1) := by decide +kernel
theorem dX7_colouredCells_13 : decode cX7_colouredCells 13 = .ok (.istore_n 2, 1) := by decide +kernel
theorem dX7_colouredCells_14 : decode cX7_colouredCells 14 = .ok (.iload_n 2, 1) := by decide +kernel
theorem dX7_colouredCells_15 : decode cX7_colouredCells 15 = .ok (.bipush 6, 2) := by decide +kernel
theorem dX7_colouredCells_17 : decode cX7_colouredCells 17 = .ok (.if_icmp .ge 23, 3) := by decide +kernel
theorem dX7_colouredCells_20 : decode cX7_colouredCells 20 = .ok (.aload_n 0, 1) := by decide +kernel
theorem dX7_colouredCells_21 : decode cX7_colouredCells 21 = .ok (.getfield 39, 3) := by decide +kernel
theorem dX7_colouredCells_24 : decode cX7_colouredCells 24 = .ok (.iload_n 2, 1) := by decide +kernel
theorem dX7_colouredCells_25 : decode cX7_colouredCells 25 = .ok (.invokestatic 85, 3) := by decide +kernel
theorem dX7_colouredCells_28 : decode cX7_colouredCells 28 = .ok (.ifCond .eq 6, 3) := by decide +kernel
theorem dX7_colouredCells_31 : decode cX7_colouredCells 31 = .ok (.iinc 1 1, 3) := by decide +kernel
theorem dX7_colouredCells_34 : decode cX7_colouredCells 34 = .ok (.iinc 2 1, 3) := by decide +kernel
theorem dX7_colouredCells_37 : decode cX7_colouredCells 37 = .ok (.goto (-23), 3) := by decide +kernel
theorem dX7_colouredCells_40 : decode cX7_colouredCells 40 = .ok (.iload_n 1, 1) := by decide +kernel
theorem dX7_colouredCells_41 : decode cX7_colouredCells 41 = .ok (.ireturn, 1) := by decide +kernel
theorem dX7_isKind_0 : decode cX7_isKind 0 = .ok (.iload_n 0, 1) := by decide +kernel
theorem dX7_isKind_1 : decode cX7_isKind 1 = .ok (.ifCond .lt 12, 3) := by decide +kernel
theorem dX7_isKind_4 : decode cX7_isKind 4 = .ok (.iload_n 0, 1) := by decide +kernel
theorem dX7_isKind_5 : decode cX7_isKind 5 = .ok (.iconst 5, 1) := by decide +kernel
theorem dX7_isKind_6 : decode cX7_isKind 6 = .ok (.if_icmp .ge 7, 3) := by decide +kernel
theorem dX7_isKind_9 : decode cX7_isKind 9 = .ok (.iconst 1, 1) := by decide +kernel
theorem dX7_isKind_10 : decode cX7_isKind 10 = .ok (.goto 4, 3) := by decide +kernel
theorem dX7_isKind_13 : decode cX7_isKind 13 = .ok (.iconst 0, 1) := by decide +kernel
theorem dX7_isKind_14 : decode cX7_isKind 14 = .ok (.ireturn, 1) := by decide +kernel
set_option maxRecDepth 20000 in
theorem ggX7_newPerson_X0_init : GoodIn wsX7_newPerson wsX0_init := goodIn_r _ [17, 18, 15, 19, 20, 21, 22, 23, 24, 31, 32, 33, 34, 35, 36, 37, 38, 39, 40, 41, 42, 55, 56, 57, 58, 59, 60, 49, 50, 51, 52, 53, 54, 43, 44, 45, 46, 47, 48] (by decide +kernel) (by decide +kernel)
set_option maxRecDepth 20000 in
theorem gX7_newPerson_X0_init_n225 : GoodIn wsX7_newPerson (wsX0_init) := ggX7_newPerson_X0_init
set_option maxRecDepth 20000 in
theorem ggX7_newPerson_X2_init : GoodIn wsX7_newPerson wsX2_init := goodIn_r _ [26, 18, 15, 19, 20, 21, 22, 23, 24, 31, 32, 33, 34, 35, 36, 37, 38, 39, 40, 41, 42, 55, 56, 57, 58, 59, 60, 49, 50, 51, 52, 53, 54, 43, 44, 45, 46, 47, 48] (by decide +kernel) (by decide +kernel)
set_option maxRecDepth 20000 in
theorem gX7_newPerson_X2_init_n228 : GoodIn wsX7_newPerson (wsX2_init) := ggX7_newPerson_X2_init
set_option maxRecDepth 20000 in
theorem ggX7_newPerson_X6_init : GoodIn wsX7_newPerson wsX6_init := goodIn_r _ [28, 18, 15, 19, 20, 21, 22, 23, 24, 31, 32, 33, 34, 35, 36, 37, 38, 39, 40, 41, 42, 55, 56, 57, 58, 59, 60, 49, 50, 51, 52, 53, 54, 43, 44, 45, 46, 47, 48] (by decide +kernel) (by decide +kernel)
set_option maxRecDepth 20000 in
theorem gX7_newPerson_X6_init_n231 : GoodIn wsX7_newPerson (wsX6_init) := ggX7_newPerson_X6_init
set_option maxRecDepth 20000 in
theorem ggX7_newPerson_X5_init : GoodIn wsX7_newPerson wsX5_init := goodIn_r _ [30, 27, 9, 28, 18, 15, 19, 20, 21, 22, 23, 24, 31, 32, 33, 34, 35, 36, 37, 38, 39, 40, 41, 42, 55, 56, 57, 58, 59, 60, 49, 50, 51, 52, 53, 54, 43, 44, 45, 46, 47, 48] (by decide +kernel) (by decide +kernel)
set_option maxRecDepth 20000 in
theorem gX7_newPerson_X5_init_n234 : GoodIn wsX7_newPerson (wsX5_init) := ggX7_newPerson_X5_init
set_option maxRecDepth 20000 in
theorem ggX7_newPerson_X4_init : GoodIn wsX7_newPerson wsX4_init := goodIn_r _ [19, 20, 21, 22, 23, 24, 31, 32, 33, 34, 35, 36, 37, 38, 39, 40, 41, 42, 55, 56, 57, 58, 59, 60, 49, 50, 51, 52, 53, 54, 43, 44, 45, 46, 47, 48] (by decide +kernel) (by decide +kernel)
set_option maxRecDepth 20000 in
theorem gX7_newPerson_X4_init_n235 : GoodIn wsX7_newPerson (wsX4_init) := ggX7_newPerson_X4_init
theorem dX7_newPerson_0 : decode cX7_newPerson 0 = .ok (.iload_n 0, 1) := by decide +kernel
theorem dX7_newPerson_1 : decode cX7_newPerson 1 = .ok (.tableswitch 63 1 4 #[31, 39, 47, 55], 31) := by decide +kernel
theorem dX7_newPerson_32 : decode cX7_newPerson 32 = .ok (.new 223, 3) := by decide +kernel
theorem dX7_newPerson_35 : decode cX7_newPerson 35 = .ok (.dup, 1) := by decide +kernel
theorem dX7_newPerson_36 : decode cX7_newPerson 36 = .ok (.invokespecial 225, 3) := by decide +kernel
theorem dX7_newPerson_39 : decode cX7_newPerson 39 = .ok (.areturn, 1) := by decide +kernel
theorem dX7_newPerson_40 : decode cX7_newPerson 40 = .ok (.new 226, 3) := by decide +kernel
theorem dX7_newPerson_43 : decode cX7_newPerson 43 = .ok (.dup, 1) := by decide +kernel
theorem dX7_newPerson_44 : decode cX7_newPerson 44 = .ok (.invokespecial 228, 3) := by decide +kernel
theorem dX7_newPerson_47 : decode cX7_newPerson 47 = .ok (.areturn, 1) := by decide +kernel
theorem dX7_newPerson_48 : decode cX7_newPerson 48 = .ok (.new 229, 3) := by decide +kernel
theorem dX7_newPerson_51 : decode cX7_newPerson 51 = .ok (.dup, 1) := by decide +kernel
theorem dX7_newPerson_52 : decode cX7_newPerson 52 = .ok (.invokespecial 231, 3) := by decide +kernel
theorem dX7_newPerson_55 : decode cX7_newPerson 55 = .ok (.areturn, 1) := by decide +kernel
theorem dX7_newPerson_56 : decode cX7_newPerson 56 = .ok (.new 232, 3) := by decide +kernel
theorem dX7_newPerson_59 : decode cX7_newPerson 59 = .ok (.dup, 1) := by decide +kernel
theorem dX7_newPerson_60 : decode cX7_newPerson 60 = .ok (.invokespecial 234, 3) := by decide +kernel
theorem dX7_newPerson_63 : decode cX7_newPerson 63 = .ok (.areturn, 1) := by decide +kernel
theorem dX7_newPerson_64 : decode cX7_newPerson 64 = .ok (.new 16, 3) := by decide +kernel
theorem dX7_newPerson_67 : decode cX7_newPerson 67 = .ok (.dup, 1) := by decide +kernel
theorem dX7_newPerson_68 : decode cX7_newPerson 68 = .ok (.invokespecial 235, 3) := by decide +kernel
theorem dX7_newPerson_71 : decode cX7_newPerson 71 = .ok (.areturn, 1) := by decide +kernel
theorem dX7_isOf_0 : decode cX7_isOf 0 = .ok (.iload_n 1, 1) := by decide +kernel
theorem dX7_isOf_1 : decode cX7_isOf 1 = .ok (.tableswitch 51 1 4 #[31, 36, 41, 46], 31) := by decide +kernel
theorem dX7_isOf_32 : decode cX7_isOf 32 = .ok (.aload_n 0, 1) := by decide +kernel
theorem dX7_isOf_33 : decode cX7_isOf 33 = .ok (.instanceof 223, 3) := by decide +kernel
theorem dX7_isOf_36 : decode cX7_isOf 36 = .ok (.ireturn, 1) := by decide +kernel
theorem dX7_isOf_37 : decode cX7_isOf 37 = .ok (.aload_n 0, 1) := by decide +kernel
theorem dX7_isOf_38 : decode cX7_isOf 38 = .ok (.instanceof 226, 3) := by decide +kernel
theorem dX7_isOf_41 : decode cX7_isOf 41 = .ok (.ireturn, 1) := by decide +kernel
theorem dX7_isOf_42 : decode cX7_isOf 42 = .ok (.aload_n 0, 1) := by decide +kernel
theorem dX7_isOf_43 : decode cX7_isOf 43 = .ok (.instanceof 229, 3) := by decide +kernel
theorem dX7_isOf_46 : decode cX7_isOf 46 = .ok (.ireturn, 1) := by decide +kernel
theorem dX7_isOf_47 : decode cX7_isOf 47 = .ok (.aload_n 0, 1) := by decide +kernel
theorem dX7_isOf_48 : decode cX7_isOf 48 = .ok (.instanceof 232, 3) := by decide +kernel
theorem dX7_isOf_51 : decode cX7_isOf 51 = .ok (.ireturn, 1) := by decide +kernel
theorem dX7_isOf_52 : decode cX7_isOf 52 = .ok (.iconst 1, 1) := by decide +kernel
theorem dX7_isOf_53 : decode cX7_isOf 53 = .ok (.ireturn, 1) := by decide +kernel
theorem dX7_known_0 : decode cX7_known 0 = .ok (.iload_n 1, 1) := by decide +kernel
theorem dX7_known_1 : decode cX7_known 1 = .ok (.ifCond .lt 20, 3) := by decide +kernel
theorem dX7_known_4 : decode cX7_known 4 = .ok (.iload_n 1, 1) := by decide +kernel
theorem dX7_known_5 : decode cX7_known 5 = .ok (.aload_n 0, 1) := by decide +kernel
theorem dX7_known_6 : decode cX7_known 6 = .ok (.getfield 67, 3) := by decide +kernel
theorem dX7_known_9 : decode cX7_known 9 = .ok (.if_icmp .ge 12, 3) := by decide +kernel
theorem dX7_known_12 : decode cX7_known 12 = .ok (.aload_n 0, 1) := by decide +kernel
theorem dX7_known_13 : decode cX7_known 13 = .ok (.getfield 18, 3) := by decide +kernel
theorem dX7_known_16 : decode cX7_known 16 = .ok (.iload_n 1, 1) := by decide +kernel
theorem dX7_known_17 : decode cX7_known 17 = .ok (.aaload, 1) := by decide +kernel
theorem dX7_known_18 : decode cX7_known 18 = .ok (.goto 4, 3) := by decide +kernel
theorem dX7_known_21 : decode cX7_known 21 = .ok (.aconst_null, 1) := by decide +kernel
theorem dX7_known_22 : decode cX7_known 22 = .ok (.areturn, 1) := by decide +kernel
theorem dX7_isInk_0 : decode cX7_isInk 0 = .ok (.iload_n 1, 1) := by decide +kernel
theorem dX7_isInk_1 : decode cX7_isInk 1 = .ok (.ifCond .lt 15, 3) := by decide +kernel
theorem dX7_isInk_4 : decode cX7_isInk 4 = .ok (.iload_n 1, 1) := by decide +kernel
theorem dX7_isInk_5 : decode cX7_isInk 5 = .ok (.aload_n 0, 1) := by decide +kernel
theorem dX7_isInk_6 : decode cX7_isInk 6 = .ok (.getfield 70, 3) := by decide +kernel
theorem dX7_isInk_9 : decode cX7_isInk 9 = .ok (.if_icmp .ge 7, 3) := by decide +kernel
theorem dX7_isInk_12 : decode cX7_isInk 12 = .ok (.iconst 1, 1) := by decide +kernel
theorem dX7_isInk_13 : decode cX7_isInk 13 = .ok (.goto 4, 3) := by decide +kernel
theorem dX7_isInk_16 : decode cX7_isInk 16 = .ok (.iconst 0, 1) := by decide +kernel
theorem dX7_isInk_17 : decode cX7_isInk 17 = .ok (.ireturn, 1) := by decide +kernel
set_option maxRecDepth 20000 in
theorem ggX7_toldPeople_X7_known : GoodIn wsX7_toldPeople wsX7_known := goodIn_r _ [7, 1, 8, 9, 10, 11, 12, 13, 14, 15, 16, 17, 18, 19, 20, 21, 22, 23, 24] (by decide +kernel) (by decide +kernel)
set_option maxRecDepth 20000 in
theorem gX7_toldPeople_X7_known : GoodIn wsX7_toldPeople (wsV RX7 113 RX7 yX7_known wsX7_known) := goodIn_app (goodIn_of _ (by decide +kernel)) ggX7_toldPeople_X7_known
theorem dX7_toldPeople_0 : decode cX7_toldPeople 0 = .ok (.iconst 0, 1) := by decide +kernel
theorem dX7_toldPeople_1 : decode cX7_toldPeople 1 = .ok (.istore_n 1, 1) := by decide +kernel
theorem dX7_toldPeople_2 : decode cX7_toldPeople 2 = .ok (.iconst 0, 1) := by decide +kernel
theorem dX7_toldPeople_3 : decode cX7_toldPeople 3 = .ok (.istore_n 2, 1) := by decide +kernel
theorem dX7_toldPeople_4 : decode cX7_toldPeople 4 = .ok (.iload_n 2, 1) := by decide +kernel
theorem dX7_toldPeople_5 : decode cX7_toldPeople 5 = .ok (.aload_n 0, 1) := by decide +kernel
theorem dX7_toldPeople_6 : decode cX7_toldPeople 6 = .ok (.getfield 67, 3) := by decide +kernel
theorem dX7_toldPeople_9 : decode cX7_toldPeople 9 = .ok (.if_icmp .ge 30, 3) := by decide +kernel
theorem dX7_toldPeople_12 : decode cX7_toldPeople 12 = .ok (.aload_n 0, 1) := by decide +kernel
theorem dX7_toldPeople_13 : decode cX7_toldPeople 13 = .ok (.iload_n 2, 1) := by decide +kernel
theorem dX7_toldPeople_14 : decode cX7_toldPeople 14 = .ok (.invokevirtual 113, 3) := by decide +kernel
theorem dX7_toldPeople_17 : decode cX7_toldPeople 17 = .ok (.astore_n 3, 1) := by decide +kernel
theorem dX7_toldPeople_18 : decode cX7_toldPeople 18 = .ok (.aload_n 3, 1) := by decide +kernel
theorem dX7_toldPeople_19 : decode cX7_toldPeople 19 = .ok (.ifnull 14, 3) := by decide +kernel
theorem dX7_toldPeople_22 : decode cX7_toldPeople 22 = .ok (.aload_n 3, 1) := by decide +kernel
theorem dX7_toldPeople_23 : decode cX7_toldPeople 23 = .ok (.getfield 120, 3) := by decide +kernel
theorem dX7_toldPeople_26 : decode cX7_toldPeople 26 = .ok (.iconst (-1), 1) := by decide +kernel
theorem dX7_toldPeople_27 : decode cX7_toldPeople 27 = .ok (.if_icmp .eq 6, 3) := by decide +kernel
theorem dX7_toldPeople_30 : decode cX7_toldPeople 30 = .ok (.iinc 1 1, 3) := by decide +kernel
theorem dX7_toldPeople_33 : decode cX7_toldPeople 33 = .ok (.iinc 2 1, 3) := by decide +kernel
theorem dX7_toldPeople_36 : decode cX7_toldPeople 36 = .ok (.goto (-32), 3) := by decide +kernel
theorem dX7_toldPeople_39 : decode cX7_toldPeople 39 = .ok (.iload_n 1, 1) := by decide +kernel
theorem dX7_toldPeople_40 : decode cX7_toldPeople 40 = .ok (.ireturn, 1) := by decide +kernel
set_option maxRecDepth 20000 in
theorem ggX7_fewestInks_J6_bitCount_0f7a4 : GoodIn wsX7_fewestInks wsJ6_bitCount_0f7a4 := goodIn_r _ [5, 6, 7, 8] (by decide +kernel) (by decide +kernel)
set_option maxRecDepth 20000 in
theorem gX7_fewestInks_J6_bitCount_0f7a4 : GoodIn wsX7_fewestInks (va_wsS RX7 139 yJ6_bitCount_0f7a4 wsJ6_bitCount_0f7a4) := goodIn_app (goodIn_of _ (by decide +kernel)) ggX7_fewestInks_J6_bitCount_0f7a4
set_option maxRecDepth 20000 in
theorem ggX7_fewestInks_X7_suffices : GoodIn wsX7_fewestInks wsX7_suffices := goodIn_r _ [13, 14, 15, 16, 12, 17, 18, 19, 20, 21, 22, 23, 24, 25, 1, 26, 27, 28, 29, 30, 31, 32, 33, 34, 35, 36, 37, 38, 39, 40, 41, 42, 43, 44, 45, 46, 47, 48, 49, 50, 51, 52, 53, 54, 55, 56, 57, 58, 59, 60, 61, 62, 63, 64, 65, 66, 67, 68, 69, 70, 71, 72, 73, 74, 75, 76, 77, 78, 79, 80, 81, 82, 83, 84, 85, 86, 87, 88, 89, 90, 91, 92, 93, 94, 95, 96, 97, 98, 99, 100, 101, 102, 103, 104, 105, 106, 107, 108, 109, 110, 111, 112, 113, 114, 115, 116, 117, 118, 119, 120, 121, 122, 123, 124, 125, 126] (by decide +kernel) (by decide +kernel)
set_option maxRecDepth 20000 in
theorem gX7_fewestInks_X7_suffices : GoodIn wsX7_fewestInks (wsV RX7 236 RX7 yX7_suffices wsX7_suffices) := goodIn_app (goodIn_of _ (by decide +kernel)) ggX7_fewestInks_X7_suffices
theorem dX7_fewestInks_0 : decode cX7_fewestInks 0 = .ok (.iconst 0, 1) := by decide +kernel
theorem dX7_fewestInks_1 : decode cX7_fewestInks 1 = .ok (.istore_n 1, 1) := by decide +kernel
theorem dX7_fewestInks_2 : decode cX7_fewestInks 2 = .ok (.iload_n 1, 1) := by decide +kernel
theorem dX7_fewestInks_3 : decode cX7_fewestInks 3 = .ok (.aload_n 0, 1) := by decide +kernel
theorem dX7_fewestInks_4 : decode cX7_fewestInks 4 = .ok (.getfield 70, 3) := by decide +kernel
theorem dX7_fewestInks_7 : decode cX7_fewestInks 7 = .ok (.if_icmp .gt 45, 3) := by decide +kernel
theorem dX7_fewestInks_10 : decode cX7_fewestInks 10 = .ok (.iconst 0, 1) := by decide +kernel
theorem dX7_fewestInks_11 : decode cX7_fewestInks 11 = .ok (.istore_n 2, 1) := by decide +kernel
theorem dX7_fewestInks_12 : decode cX7_fewestInks 12 = .ok (.iload_n 2, 1) := by decide +kernel
theorem dX7_fewestInks_13 : decode cX7_fewestInks 13 = .ok (.iconst 1, 1) := by decide +kernel
theorem dX7_fewestInks_14 : decode cX7_fewestInks 14 = .ok (.aload_n 0, 1) := by decide +kernel
theorem dX7_fewestInks_15 : decode cX7_fewestInks 15 = .ok (.getfield 70, 3) := by decide +kernel
theorem dX7_fewestInks_18 : decode cX7_fewestInks 18 = .ok (.ishl, 1) := by decide +kernel
theorem dX7_fewestInks_19 : decode cX7_fewestInks 19 = .ok (.if_icmp .ge 27, 3) := by decide +kernel
theorem dX7_fewestInks_22 : decode cX7_fewestInks 22 = .ok (.iload_n 2, 1) := by decide +kernel
theorem dX7_fewestInks_23 : decode cX7_fewestInks 23 = .ok (.invokestatic 139, 3) := by decide +kernel
theorem dX7_fewestInks_26 : decode cX7_fewestInks 26 = .ok (.iload_n 1, 1) := by decide +kernel
theorem dX7_fewestInks_27 : decode cX7_fewestInks 27 = .ok (.if_icmp .ne 13, 3) := by decide +kernel
theorem dX7_fewestInks_30 : decode cX7_fewestInks 30 = .ok (.aload_n 0, 1) := by decide +kernel
theorem dX7_fewestInks_31 : decode cX7_fewestInks 31 = .ok (.iload_n 2, 1) := by decide +kernel
theorem dX7_fewestInks_32 : decode cX7_fewestInks 32 = .ok (.invokevirtual 236, 3) := by decide +kernel
theorem dX7_fewestInks_35 : decode cX7_fewestInks 35 = .ok (.ifCond .eq 5, 3) := by decide +kernel
theorem dX7_fewestInks_38 : decode cX7_fewestInks 38 = .ok (.iload_n 2, 1) := by decide +kernel
theorem dX7_fewestInks_39 : decode cX7_fewestInks 39 = .ok (.ireturn, 1) := by decide +kernel
theorem dX7_fewestInks_40 : decode cX7_fewestInks 40 = .ok (.iinc 2 1, 3) := by decide +kernel
theorem dX7_fewestInks_43 : decode cX7_fewestInks 43 = .ok (.goto (-31), 3) := by decide +kernel
theorem dX7_fewestInks_46 : decode cX7_fewestInks 46 = .ok (.iinc 1 1, 3) := by decide +kernel
theorem dX7_fewestInks_49 : decode cX7_fewestInks 49 = .ok (.goto (-47), 3) := by decide +kernel
theorem dX7_fewestInks_52 : decode cX7_fewestInks 52 = .ok (.iconst (-1), 1) := by decide +kernel
theorem dX7_fewestInks_53 : decode cX7_fewestInks 53 = .ok (.ireturn, 1) := by decide +kernel
set_option maxRecDepth 20000 in
theorem ggX7_suffices_X7_sufficesAt : GoodIn wsX7_suffices wsX7_sufficesAt := goodIn_r _ [5, 6, 7, 8, 4, 9, 10, 11, 12, 13, 14, 15, 16, 17, 18, 19, 20, 21, 22, 23, 24, 25, 26, 27, 28, 29, 30, 31, 32, 33, 34, 35, 36, 37, 38, 39, 40, 41, 42, 43, 44, 45, 46, 47, 48, 49, 50, 51, 52, 53, 54, 55, 56, 57, 58, 59, 60, 61, 62, 63, 64, 65, 66, 67, 68, 69, 70, 71, 72, 73, 74, 75, 76, 77, 78, 79, 80, 81, 82, 83, 84, 85, 86, 87, 88, 89, 90, 91, 92, 93, 94, 95, 96, 97, 98, 99, 100, 101, 102, 103, 104, 105, 106, 107, 108, 109, 110, 111, 112, 113, 114, 115] (by decide +kernel) (by decide +kernel)
set_option maxRecDepth 20000 in
theorem gX7_suffices_X7_sufficesAt : GoodIn wsX7_suffices (wsV RX7 239 RX7 yX7_sufficesAt wsX7_sufficesAt) := goodIn_app (goodIn_of _ (by decide +kernel)) ggX7_suffices_X7_sufficesAt
theorem dX7_suffices_0 : decode cX7_suffices 0 = .ok (.iconst 0, 1) := by decide +kernel
theorem dX7_suffices_1 : decode cX7_suffices 1 = .ok (.istore_n 2, 1) := by decide +kernel
theorem dX7_suffices_2 : decode cX7_suffices 2 = .ok (.iload_n 2, 1) := by decide +kernel
theorem dX7_suffices_3 : decode cX7_suffices 3 = .ok (.bipush 6, 2) := by decide +kernel
theorem dX7_suffices_5 : decode cX7_suffices 5 = .ok (.if_icmp .ge 20, 3) := by decide +kernel
theorem dX7_suffices_8 : decode cX7_suffices 8 = .ok (.aload_n 0, 1) := by decide +kernel
theorem dX7_suffices_9 : decode cX7_suffices 9 = .ok (.iload_n 2, 1) := by decide +kernel
theorem dX7_suffices_10 : decode cX7_suffices 10 = .ok (.iload_n 1, 1) := by decide +kernel
theorem dX7_suffices_11 : decode cX7_suffices 11 = .ok (.invokevirtual 239, 3) := by decide +kernel
theorem dX7_suffices_14 : decode cX7_suffices 14 = .ok (.ifCond .ne 5, 3) := by decide +kernel
theorem dX7_suffices_17 : decode cX7_suffices 17 = .ok (.iconst 0, 1) := by decide +kernel
theorem dX7_suffices_18 : decode cX7_suffices 18 = .ok (.ireturn, 1) := by decide +kernel
theorem dX7_suffices_19 : decode cX7_suffices 19 = .ok (.iinc 2 1, 3) := by decide +kernel
theorem dX7_suffices_22 : decode cX7_suffices 22 = .ok (.goto (-20), 3) := by decide +kernel
theorem dX7_suffices_25 : decode cX7_suffices 25 = .ok (.iconst 1, 1) := by decide +kernel
theorem dX7_suffices_26 : decode cX7_suffices 26 = .ok (.ireturn, 1) := by decide +kernel
set_option maxRecDepth 20000 in
theorem ggX7_sufficesAt_X7_hueAt : GoodIn wsX7_sufficesAt wsX7_hueAt := goodIn_r _ [5] (by decide +kernel) (by decide +kernel)
set_option maxRecDepth 20000 in
theorem gX7_sufficesAt_X7_hueAt : GoodIn wsX7_sufficesAt (va_wsS RX7 85 yX7_hueAt wsX7_hueAt) := goodIn_app (goodIn_of _ (by decide +kernel)) ggX7_sufficesAt_X7_hueAt
set_option maxRecDepth 20000 in
theorem ggX7_sufficesAt_X7_unionOf : GoodIn wsX7_sufficesAt wsX7_unionOf := goodIn_r _ [9, 10, 11, 12, 13, 4, 14, 66, 67, 68, 69, 70, 71, 72, 73, 74, 75, 76, 77, 78, 79, 80, 81] (by decide +kernel) (by decide +kernel)
set_option maxRecDepth 20000 in
theorem gX7_sufficesAt_X7_unionOf : GoodIn wsX7_sufficesAt (wsV RX7 242 RX7 yX7_unionOf wsX7_unionOf) := goodIn_app (goodIn_of _ (by decide +kernel)) ggX7_sufficesAt_X7_unionOf
set_option maxRecDepth 20000 in
theorem ggX7_sufficesAt_X7_isAsTold : GoodIn wsX7_sufficesAt wsX7_isAsTold := goodIn_r _ [18, 19, 20, 21, 22, 23, 4, 24, 25, 26, 27, 28, 29, 30, 31, 32, 33, 34, 35, 36, 37, 38, 39, 40, 41, 42, 43, 44, 45, 46, 47, 48, 49, 50, 51, 52, 53, 54, 55, 56, 57, 58, 59, 60, 61, 62, 63, 64, 65, 2, 3, 5, 66, 67, 68, 69, 70, 71, 72, 73, 74, 75, 76, 77, 78, 79, 80, 81, 82, 83, 84, 85, 86, 87, 88, 89, 90, 91, 92, 93, 94, 95, 96, 97, 98, 99, 100, 101, 102, 103, 104, 105, 106, 107, 108, 109, 110, 111] (by decide +kernel) (by decide +kernel)
set_option maxRecDepth 20000 in
theorem gX7_sufficesAt_X7_isAsTold : GoodIn wsX7_sufficesAt (wsV RX7 245 RX7 yX7_isAsTold wsX7_isAsTold) := goodIn_app (goodIn_of _ (by decide +kernel)) ggX7_sufficesAt_X7_isAsTold
theorem dX7_sufficesAt_0 : decode cX7_sufficesAt 0 = .ok (.iconst 0, 1) := by decide +kernel
theorem dX7_sufficesAt_1 : decode cX7_sufficesAt 1 = .ok (.istore_n 3, 1) := by decide +kernel
theorem dX7_sufficesAt_2 : decode cX7_sufficesAt 2 = .ok (.iload_n 3, 1) := by decide +kernel
theorem dX7_sufficesAt_3 : decode cX7_sufficesAt 3 = .ok (.iload_n 2, 1) := by decide +kernel
theorem dX7_sufficesAt_4 : decode cX7_sufficesAt 4 = .ok (.if_icmp .gt 41, 3) := by decide +kernel
theorem dX7_sufficesAt_7 : decode cX7_sufficesAt 7 = .ok (.iload_n 3, 1) := by decide +kernel
theorem dX7_sufficesAt_8 : decode cX7_sufficesAt 8 = .ok (.iload_n 2, 1) := by decide +kernel
theorem dX7_sufficesAt_9 : decode cX7_sufficesAt 9 = .ok (.iconst (-1), 1) := by decide +kernel
theorem dX7_sufficesAt_10 : decode cX7_sufficesAt 10 = .ok (.ixor, 1) := by decide +kernel
theorem dX7_sufficesAt_11 : decode cX7_sufficesAt 11 = .ok (.iand, 1) := by decide +kernel
theorem dX7_sufficesAt_12 : decode cX7_sufficesAt 12 = .ok (.ifCond .ne 27, 3) := by decide +kernel
theorem dX7_sufficesAt_15 : decode cX7_sufficesAt 15 = .ok (.aload_n 0, 1) := by decide +kernel
theorem dX7_sufficesAt_16 : decode cX7_sufficesAt 16 = .ok (.iload_n 1, 1) := by decide +kernel
theorem dX7_sufficesAt_17 : decode cX7_sufficesAt 17 = .ok (.aload_n 0, 1) := by decide +kernel
theorem dX7_sufficesAt_18 : decode cX7_sufficesAt 18 = .ok (.getfield 39, 3) := by decide +kernel
theorem dX7_sufficesAt_21 : decode cX7_sufficesAt 21 = .ok (.iload_n 1, 1) := by decide +kernel
theorem dX7_sufficesAt_22 : decode cX7_sufficesAt 22 = .ok (.invokestatic 85, 3) := by decide +kernel
theorem dX7_sufficesAt_25 : decode cX7_sufficesAt 25 = .ok (.aload_n 0, 1) := by decide +kernel
theorem dX7_sufficesAt_26 : decode cX7_sufficesAt 26 = .ok (.iload_n 3, 1) := by decide +kernel
theorem dX7_sufficesAt_27 : decode cX7_sufficesAt 27 = .ok (.invokevirtual 242, 3) := by decide +kernel
theorem dX7_sufficesAt_30 : decode cX7_sufficesAt 30 = .ok (.ior, 1) := by decide +kernel
theorem dX7_sufficesAt_31 : decode cX7_sufficesAt 31 = .ok (.invokevirtual 245, 3) := by decide +kernel
theorem dX7_sufficesAt_34 : decode cX7_sufficesAt 34 = .ok (.ifCond .eq 5, 3) := by decide +kernel
theorem dX7_sufficesAt_37 : decode cX7_sufficesAt 37 = .ok (.iconst 1, 1) := by decide +kernel
theorem dX7_sufficesAt_38 : decode cX7_sufficesAt 38 = .ok (.ireturn, 1) := by decide +kernel
theorem dX7_sufficesAt_39 : decode cX7_sufficesAt 39 = .ok (.iinc 3 1, 3) := by decide +kernel
theorem dX7_sufficesAt_42 : decode cX7_sufficesAt 42 = .ok (.goto (-40), 3) := by decide +kernel
theorem dX7_sufficesAt_45 : decode cX7_sufficesAt 45 = .ok (.iconst 0, 1) := by decide +kernel
theorem dX7_sufficesAt_46 : decode cX7_sufficesAt 46 = .ok (.ireturn, 1) := by decide +kernel
set_option maxRecDepth 20000 in
theorem ggX7_isAsTold_X7_known : GoodIn wsX7_isAsTold wsX7_known := goodIn_r _ [7, 1, 8, 52, 53, 54, 55, 56, 57, 58, 59, 60, 61, 62, 63, 64, 65, 66, 67] (by decide +kernel) (by decide +kernel)
set_option maxRecDepth 20000 in
theorem gX7_isAsTold_X7_known : GoodIn wsX7_isAsTold (wsV RX7 113 RX7 yX7_known wsX7_known) := goodIn_app (goodIn_of _ (by decide +kernel)) ggX7_isAsTold_X7_known
set_option maxRecDepth 20000 in
theorem ggX7_isAsTold_X0_glimpse : GoodIn wsX7_isAsTold wsX0_glimpse := goodIn_r _ [15, 16, 17, 18, 19, 68, 69, 70, 71, 72, 73, 74, 75, 76, 77, 78, 79, 80, 81, 82, 83, 84, 85, 86, 87, 88, 89, 90, 91, 92, 93, 94, 95, 96, 97] (by decide +kernel) (by decide +kernel)
set_option maxRecDepth 20000 in
theorem gX7_isAsTold_X0_glimpse_u116X0 : GoodIn wsX7_isAsTold (va_wsO RX7 116 RX0 "EachEye$Person" ⟨"EachEye$Person", "glimpse", "(I)I"⟩ yX0_glimpse wsX0_glimpse) := goodIn_app (goodIn_of _ (by decide +kernel)) ggX7_isAsTold_X0_glimpse
set_option maxRecDepth 20000 in
theorem ggX7_isAsTold_X2_glimpse : GoodIn wsX7_isAsTold wsX2_glimpse := goodIn_r _ [24, 25, 26, 27, 28, 68, 69, 70, 71, 72, 73, 74, 75, 76, 77, 78, 79, 80, 81, 82, 83, 84, 85, 86, 87, 88, 89, 90, 91, 92, 93, 94, 95, 96, 97] (by decide +kernel) (by decide +kernel)
set_option maxRecDepth 20000 in
theorem gX7_isAsTold_X2_glimpse_u116X2 : GoodIn wsX7_isAsTold (va_wsO RX7 116 RX2 "EachEye$Person" ⟨"EachEye$Person", "glimpse", "(I)I"⟩ yX2_glimpse wsX2_glimpse) := goodIn_app (goodIn_of _ (by decide +kernel)) ggX7_isAsTold_X2_glimpse
set_option maxRecDepth 20000 in
theorem ggX7_isAsTold_X4_glimpse : GoodIn wsX7_isAsTold wsX4_glimpse := goodIn_r _ [20, 33, 34, 68, 69, 70, 71, 72, 73, 74, 75, 76, 77, 78, 79, 80, 81, 82, 83, 84, 85, 86, 87, 88, 89, 90, 91, 92, 93, 94, 95, 96, 97] (by decide +kernel) (by decide +kernel)
set_option maxRecDepth 20000 in
theorem gX7_isAsTold_X4_glimpse : GoodIn wsX7_isAsTold (wsV RX7 116 RX4 yX4_glimpse wsX4_glimpse) := goodIn_app (goodIn_of _ (by decide +kernel)) ggX7_isAsTold_X4_glimpse
set_option maxRecDepth 20000 in
theorem ggX7_isAsTold_X5_glimpse : GoodIn wsX7_isAsTold wsX5_glimpse := goodIn_r _ [38, 39, 40, 68, 69, 70, 71, 72, 73, 74, 75, 76, 77, 78, 79, 80, 81, 82, 83, 84, 85, 86, 87, 88, 89, 90, 91, 92, 93, 94, 95, 96, 97] (by decide +kernel) (by decide +kernel)
set_option maxRecDepth 20000 in
theorem gX7_isAsTold_X5_glimpse_u116X5 : GoodIn wsX7_isAsTold (va_wsO RX7 116 RX5 "EachEye$Person" ⟨"EachEye$Person", "glimpse", "(I)I"⟩ yX5_glimpse wsX5_glimpse) := goodIn_app (goodIn_of _ (by decide +kernel)) ggX7_isAsTold_X5_glimpse
set_option maxRecDepth 20000 in
theorem ggX7_isAsTold_X6_glimpse : GoodIn wsX7_isAsTold wsX6_glimpse := goodIn_r _ [44, 45, 46, 47, 48, 68, 69, 70, 71, 72, 73, 74, 75, 76, 77, 78, 79, 80, 81, 82, 83, 84, 85, 86, 87, 88, 89, 90, 91, 92, 93, 94, 95, 96, 97] (by decide +kernel) (by decide +kernel)
set_option maxRecDepth 20000 in
theorem gX7_isAsTold_X6_glimpse_u116X6 : GoodIn wsX7_isAsTold (va_wsO RX7 116 RX6 "EachEye$Person" ⟨"EachEye$Person", "glimpse", "(I)I"⟩ yX6_glimpse wsX6_glimpse) := goodIn_app (goodIn_of _ (by decide +kernel)) ggX7_isAsTold_X6_glimpse
set_option maxRecDepth 20000 in
theorem ggX7_isAsTold_X7_hueAt : GoodIn wsX7_isAsTold wsX7_hueAt := goodIn_r _ [51] (by decide +kernel) (by decide +kernel)
set_option maxRecDepth 20000 in
theorem gX7_isAsTold_X7_hueAt : GoodIn wsX7_isAsTold (va_wsS RX7 85 yX7_hueAt wsX7_hueAt) := goodIn_app (goodIn_of _ (by decide +kernel)) ggX7_isAsTold_X7_hueAt
theorem dX7_isAsTold_0 : decode cX7_isAsTold 0 = .ok (.iconst 0, 1) := by decide +kernel
theorem dX7_isAsTold_1 : decode cX7_isAsTold 1 = .ok (.istore_n 3, 1) := by decide +kernel
theorem dX7_isAsTold_2 : decode cX7_isAsTold 2 = .ok (.iload_n 3, 1) := by decide +kernel
theorem dX7_isAsTold_3 : decode cX7_isAsTold 3 = .ok (.aload_n 0, 1) := by decide +kernel
theorem dX7_isAsTold_4 : decode cX7_isAsTold 4 = .ok (.getfield 67, 3) := by decide +kernel
theorem dX7_isAsTold_7 : decode cX7_isAsTold 7 = .ok (.if_icmp .ge 50, 3) := by decide +kernel
theorem dX7_isAsTold_10 : decode cX7_isAsTold 10 = .ok (.aload_n 0, 1) := by decide +kernel
theorem dX7_isAsTold_11 : decode cX7_isAsTold 11 = .ok (.iload_n 3, 1) := by decide +kernel
theorem dX7_isAsTold_12 : decode cX7_isAsTold 12 = .ok (.invokevirtual 113, 3) := by decide +kernel
theorem dX7_isAsTold_15 : decode cX7_isAsTold 15 = .ok (.astore 4, 2) := by decide +kernel
theorem dX7_isAsTold_17 : decode cX7_isAsTold 17 = .ok (.aload 4, 2) := by decide +kernel
theorem dX7_isAsTold_19 : decode cX7_isAsTold 19 = .ok (.ifnull 32, 3) := by decide +kernel
theorem dX7_isAsTold_22 : decode cX7_isAsTold 22 = .ok (.aload 4, 2) := by decide +kernel
theorem dX7_isAsTold_24 : decode cX7_isAsTold 24 = .ok (.getfield 120, 3) := by decide +kernel
theorem dX7_isAsTold_27 : decode cX7_isAsTold 27 = .ok (.iconst (-1), 1) := by decide +kernel
theorem dX7_isAsTold_28 : decode cX7_isAsTold 28 = .ok (.if_icmp .eq 23, 3) := by decide +kernel
theorem dX7_isAsTold_31 : decode cX7_isAsTold 31 = .ok (.aload 4, 2) := by decide +kernel
theorem dX7_isAsTold_33 : decode cX7_isAsTold 33 = .ok (.iload_n 2, 1) := by decide +kernel
theorem dX7_isAsTold_34 : decode cX7_isAsTold 34 = .ok (.invokevirtual 116, 3) := by decide +kernel
theorem dX7_isAsTold_37 : decode cX7_isAsTold 37 = .ok (.aload 4, 2) := by decide +kernel
theorem dX7_isAsTold_39 : decode cX7_isAsTold 39 = .ok (.getfield 120, 3) := by decide +kernel
theorem dX7_isAsTold_42 : decode cX7_isAsTold 42 = .ok (.iload_n 1, 1) := by decide +kernel
theorem dX7_isAsTold_43 : decode cX7_isAsTold 43 = .ok (.invokestatic 85, 3) := by decide +kernel
theorem dX7_isAsTold_46 : decode cX7_isAsTold 46 = .ok (.if_icmp .eq 5, 3) := by decide +kernel
theorem dX7_isAsTold_49 : decode cX7_isAsTold 49 = .ok (.iconst 0, 1) := by decide +kernel
theorem dX7_isAsTold_50 : decode cX7_isAsTold 50 = .ok (.ireturn, 1) := by decide +kernel
theorem dX7_isAsTold_51 : decode cX7_isAsTold 51 = .ok (.iinc 3 1, 3) := by decide +kernel
theorem dX7_isAsTold_54 : decode cX7_isAsTold 54 = .ok (.goto (-52), 3) := by decide +kernel
theorem dX7_isAsTold_57 : decode cX7_isAsTold 57 = .ok (.iconst 1, 1) := by decide +kernel
theorem dX7_isAsTold_58 : decode cX7_isAsTold 58 = .ok (.ireturn, 1) := by decide +kernel
set_option maxRecDepth 20000 in
theorem ggX7_unionOf_X7_holds : GoodIn wsX7_unionOf wsX7_holds := goodIn_r _ [6] (by decide +kernel) (by decide +kernel)
set_option maxRecDepth 20000 in
theorem gX7_unionOf_X7_holds : GoodIn wsX7_unionOf (va_wsS RX7 93 yX7_holds wsX7_holds) := goodIn_app (goodIn_of _ (by decide +kernel)) ggX7_unionOf_X7_holds
theorem dX7_unionOf_0 : decode cX7_unionOf 0 = .ok (.iconst 0, 1) := by decide +kernel
theorem dX7_unionOf_1 : decode cX7_unionOf 1 = .ok (.istore_n 2, 1) := by decide +kernel
theorem dX7_unionOf_2 : decode cX7_unionOf 2 = .ok (.iconst 0, 1) := by decide +kernel
theorem dX7_unionOf_3 : decode cX7_unionOf 3 = .ok (.istore_n 3, 1) := by decide +kernel
theorem dX7_unionOf_4 : decode cX7_unionOf 4 = .ok (.iload_n 3, 1) := by decide +kernel
theorem dX7_unionOf_5 : decode cX7_unionOf 5 = .ok (.aload_n 0, 1) := by decide +kernel
theorem dX7_unionOf_6 : decode cX7_unionOf 6 = .ok (.getfield 70, 3) := by decide +kernel
theorem dX7_unionOf_9 : decode cX7_unionOf 9 = .ok (.if_icmp .ge 26, 3) := by decide +kernel
theorem dX7_unionOf_12 : decode cX7_unionOf 12 = .ok (.iload_n 1, 1) := by decide +kernel
theorem dX7_unionOf_13 : decode cX7_unionOf 13 = .ok (.iload_n 3, 1) := by decide +kernel
theorem dX7_unionOf_14 : decode cX7_unionOf 14 = .ok (.invokestatic 93, 3) := by decide +kernel
theorem dX7_unionOf_17 : decode cX7_unionOf 17 = .ok (.ifCond .eq 12, 3) := by decide +kernel
theorem dX7_unionOf_20 : decode cX7_unionOf 20 = .ok (.iload_n 2, 1) := by decide +kernel
theorem dX7_unionOf_21 : decode cX7_unionOf 21 = .ok (.aload_n 0, 1) := by decide +kernel
theorem dX7_unionOf_22 : decode cX7_unionOf 22 = .ok (.getfield 22, 3) := by decide +kernel
theorem dX7_unionOf_25 : decode cX7_unionOf 25 = .ok (.iload_n 3, 1) := by decide +kernel
theorem dX7_unionOf_26 : decode cX7_unionOf 26 = .ok (.iaload, 1) := by decide +kernel
theorem dX7_unionOf_27 : decode cX7_unionOf 27 = .ok (.ior, 1) := by decide +kernel
theorem dX7_unionOf_28 : decode cX7_unionOf 28 = .ok (.istore_n 2, 1) := by decide +kernel
theorem dX7_unionOf_29 : decode cX7_unionOf 29 = .ok (.iinc 3 1, 3) := by decide +kernel
theorem dX7_unionOf_32 : decode cX7_unionOf 32 = .ok (.goto (-28), 3) := by decide +kernel
theorem dX7_unionOf_35 : decode cX7_unionOf 35 = .ok (.iload_n 2, 1) := by decide +kernel
theorem dX7_unionOf_36 : decode cX7_unionOf 36 = .ok (.ireturn, 1) := by decide +kernel
theorem dX7_trial_0 : decode cX7_trial 0 = .ok (.aload_n 0, 1) := by decide +kernel
theorem dX7_trial_1 : decode cX7_trial 1 = .ok (.getfield 33, 3) := by decide +kernel
theorem dX7_trial_4 : decode cX7_trial 4 = .ok (.iload_n 1, 1) := by decide +kernel
theorem dX7_trial_5 : decode cX7_trial 5 = .ok (.aaload, 1) := by decide +kernel
theorem dX7_trial_6 : decode cX7_trial 6 = .ok (.astore 4, 2) := by decide +kernel
theorem dX7_trial_8 : decode cX7_trial 8 = .ok (.aload 4, 2) := by decide +kernel
theorem dX7_trial_10 : decode cX7_trial 10 = .ok (.iload_n 2, 1) := by decide +kernel
theorem dX7_trial_11 : decode cX7_trial 11 = .ok (.putfield 107, 3) := by decide +kernel
theorem dX7_trial_14 : decode cX7_trial 14 = .ok (.aload 4, 2) := by decide +kernel
theorem dX7_trial_16 : decode cX7_trial 16 = .ok (.iload_n 3, 1) := by decide +kernel
theorem dX7_trial_17 : decode cX7_trial 17 = .ok (.putfield 110, 3) := by decide +kernel
theorem dX7_trial_20 : decode cX7_trial 20 = .ok (.aload 4, 2) := by decide +kernel
theorem dX7_trial_22 : decode cX7_trial 22 = .ok (.areturn, 1) := by decide +kernel
set_option maxRecDepth 20000 in
theorem ggX7_candidate_X7_trial : GoodIn wsX7_candidate wsX7_trial := goodIn_r _ [5, 6, 7, 8, 9, 10, 11, 12, 13, 14, 15, 16, 17, 18, 19, 20, 21, 22, 23, 24, 25, 26, 27, 28, 29, 30, 31, 32, 33, 34, 35, 36, 37, 38, 39, 40, 41, 42, 43, 44, 45, 46, 47, 48, 49, 50, 51, 52, 53, 54] (by decide +kernel) (by decide +kernel)
set_option maxRecDepth 20000 in
theorem gX7_candidate_X7_trial : GoodIn wsX7_candidate (wsV RX7 164 RX7 yX7_trial wsX7_trial) := goodIn_app (goodIn_of _ (by decide +kernel)) ggX7_candidate_X7_trial
theorem dX7_candidate_0 : decode cX7_candidate 0 = .ok (.aload_n 0, 1) := by decide +kernel
theorem dX7_candidate_1 : decode cX7_candidate 1 = .ok (.iload_n 1, 1) := by decide +kernel
theorem dX7_candidate_2 : decode cX7_candidate 2 = .ok (.bipush 64, 2) := by decide +kernel
theorem dX7_candidate_4 : decode cX7_candidate 4 = .ok (.idiv, 1) := by decide +kernel
theorem dX7_candidate_5 : decode cX7_candidate 5 = .ok (.iload_n 1, 1) := by decide +kernel
theorem dX7_candidate_6 : decode cX7_candidate 6 = .ok (.bipush 8, 2) := by decide +kernel
theorem dX7_candidate_8 : decode cX7_candidate 8 = .ok (.idiv, 1) := by decide +kernel
theorem dX7_candidate_9 : decode cX7_candidate 9 = .ok (.bipush 8, 2) := by decide +kernel
theorem dX7_candidate_11 : decode cX7_candidate 11 = .ok (.irem, 1) := by decide +kernel
theorem dX7_candidate_12 : decode cX7_candidate 12 = .ok (.iload_n 1, 1) := by decide +kernel
theorem dX7_candidate_13 : decode cX7_candidate 13 = .ok (.bipush 8, 2) := by decide +kernel
theorem dX7_candidate_15 : decode cX7_candidate 15 = .ok (.irem, 1) := by decide +kernel
theorem dX7_candidate_16 : decode cX7_candidate 16 = .ok (.invokevirtual 164, 3) := by decide +kernel
theorem dX7_candidate_19 : decode cX7_candidate 19 = .ok (.areturn, 1) := by decide +kernel
set_option maxRecDepth 20000 in
theorem ggX7_countSayings_X7_candidate : GoodIn wsX7_countSayings wsX7_candidate := goodIn_r _ [7, 8, 9, 10, 6, 11, 12, 13, 14, 65, 66, 67, 68, 69, 70, 71, 72, 73, 74, 75, 76, 77, 78, 79, 80, 81, 82, 83, 84, 85, 86, 87, 88, 89, 90, 91, 92, 93, 94, 95, 96, 97, 98, 99, 100, 101, 102, 103, 104, 105, 106, 107, 108, 109, 110] (by decide +kernel) (by decide +kernel)
set_option maxRecDepth 20000 in
theorem gX7_countSayings_X7_candidate : GoodIn wsX7_countSayings (wsV RX7 151 RX7 yX7_candidate wsX7_candidate) := goodIn_app (goodIn_of _ (by decide +kernel)) ggX7_countSayings_X7_candidate
set_option maxRecDepth 20000 in
theorem ggX7_countSayings_X1_fit : GoodIn wsX7_countSayings wsX1_fit := goodIn_r _ [19, 20, 21, 22, 23, 24, 25, 26, 27, 28, 29, 30, 31, 32, 33, 34, 35, 36, 37, 38, 39, 40, 41, 42, 43, 44, 45, 46, 47, 48, 49, 50, 51, 52, 53, 54, 55, 56, 57, 58, 59, 60, 61, 62, 111, 112, 113, 114, 115, 116, 81, 82, 83, 84, 85, 86, 87, 88, 89, 90, 91, 92, 93, 94, 95, 96, 97, 98, 99, 100, 101, 102, 103, 104, 105, 106, 107, 108, 109, 110] (by decide +kernel) (by decide +kernel)
set_option maxRecDepth 20000 in
theorem gX7_countSayings_X1_fit : GoodIn wsX7_countSayings (wsV RX7 154 RX1 yX1_fit wsX1_fit) := goodIn_app (goodIn_of _ (by decide +kernel)) ggX7_countSayings_X1_fit
set_option maxRecDepth 20000 in
theorem ggX7_countSayings_X0_glimpse : GoodIn wsX7_countSayings wsX0_glimpse := goodIn_r _ [29, 30, 31, 32, 33, 81, 82, 83, 84, 85, 86, 87, 88, 89, 90, 91, 92, 93, 94, 95, 96, 97, 98, 99, 100, 101, 102, 103, 104, 105, 106, 107, 108, 109, 110] (by decide +kernel) (by decide +kernel)
set_option maxRecDepth 20000 in
theorem gX7_countSayings_X0_glimpse_u116X0 : GoodIn wsX7_countSayings (va_wsO RX7 116 RX0 "EachEye$Person" ⟨"EachEye$Person", "glimpse", "(I)I"⟩ yX0_glimpse wsX0_glimpse) := goodIn_app (goodIn_of _ (by decide +kernel)) ggX7_countSayings_X0_glimpse
set_option maxRecDepth 20000 in
theorem ggX7_countSayings_X2_glimpse : GoodIn wsX7_countSayings wsX2_glimpse := goodIn_r _ [38, 39, 40, 41, 42, 81, 82, 83, 84, 85, 86, 87, 88, 89, 90, 91, 92, 93, 94, 95, 96, 97, 98, 99, 100, 101, 102, 103, 104, 105, 106, 107, 108, 109, 110] (by decide +kernel) (by decide +kernel)
set_option maxRecDepth 20000 in
theorem gX7_countSayings_X2_glimpse_u116X2 : GoodIn wsX7_countSayings (va_wsO RX7 116 RX2 "EachEye$Person" ⟨"EachEye$Person", "glimpse", "(I)I"⟩ yX2_glimpse wsX2_glimpse) := goodIn_app (goodIn_of _ (by decide +kernel)) ggX7_countSayings_X2_glimpse
set_option maxRecDepth 20000 in
theorem ggX7_countSayings_X4_glimpse : GoodIn wsX7_countSayings wsX4_glimpse := goodIn_r _ [34, 47, 48, 81, 82, 83, 84, 85, 86, 87, 88, 89, 90, 91, 92, 93, 94, 95, 96, 97, 98, 99, 100, 101, 102, 103, 104, 105, 106, 107, 108, 109, 110] (by decide +kernel) (by decide +kernel)
set_option maxRecDepth 20000 in
theorem gX7_countSayings_X4_glimpse : GoodIn wsX7_countSayings (wsV RX7 116 RX4 yX4_glimpse wsX4_glimpse) := goodIn_app (goodIn_of _ (by decide +kernel)) ggX7_countSayings_X4_glimpse
set_option maxRecDepth 20000 in
theorem ggX7_countSayings_X5_glimpse : GoodIn wsX7_countSayings wsX5_glimpse := goodIn_r _ [52, 53, 54, 81, 82, 83, 84, 85, 86, 87, 88, 89, 90, 91, 92, 93, 94, 95, 96, 97, 98, 99, 100, 101, 102, 103, 104, 105, 106, 107, 108, 109, 110] (by decide +kernel) (by decide +kernel)
set_option maxRecDepth 20000 in
theorem gX7_countSayings_X5_glimpse_u116X5 : GoodIn wsX7_countSayings (va_wsO RX7 116 RX5 "EachEye$Person" ⟨"EachEye$Person", "glimpse", "(I)I"⟩ yX5_glimpse wsX5_glimpse) := goodIn_app (goodIn_of _ (by decide +kernel)) ggX7_countSayings_X5_glimpse
set_option maxRecDepth 20000 in
theorem ggX7_countSayings_X6_glimpse : GoodIn wsX7_countSayings wsX6_glimpse := goodIn_r _ [58, 59, 60, 61, 62, 81, 82, 83, 84, 85, 86, 87, 88, 89, 90, 91, 92, 93, 94, 95, 96, 97, 98, 99, 100, 101, 102, 103, 104, 105, 106, 107, 108, 109, 110] (by decide +kernel) (by decide +kernel)
set_option maxRecDepth 20000 in
theorem gX7_countSayings_X6_glimpse_u116X6 : GoodIn wsX7_countSayings (va_wsO RX7 116 RX6 "EachEye$Person" ⟨"EachEye$Person", "glimpse", "(I)I"⟩ yX6_glimpse wsX6_glimpse) := goodIn_app (goodIn_of _ (by decide +kernel)) ggX7_countSayings_X6_glimpse
theorem dX7_countSayings_0 : decode cX7_countSayings 0 = .ok (.iconst 0, 1) := by decide +kernel
theorem dX7_countSayings_1 : decode cX7_countSayings 1 = .ok (.istore_n 1, 1) := by decide +kernel
theorem dX7_countSayings_2 : decode cX7_countSayings 2 = .ok (.iload_n 1, 1) := by decide +kernel
theorem dX7_countSayings_3 : decode cX7_countSayings 3 = .ok (.bipush 64, 2) := by decide +kernel
theorem dX7_countSayings_5 : decode cX7_countSayings 5 = .ok (.if_icmp .ge 16, 3) := by decide +kernel
theorem dX7_countSayings_8 : decode cX7_countSayings 8 = .ok (.aload_n 0, 1) := by decide +kernel
theorem dX7_countSayings_9 : decode cX7_countSayings 9 = .ok (.getfield 36, 3) := by decide +kernel
theorem dX7_countSayings_12 : decode cX7_countSayings 12 = .ok (.iload_n 1, 1) := by decide +kernel
theorem dX7_countSayings_13 : decode cX7_countSayings 13 = .ok (.iconst 0, 1) := by decide +kernel
theorem dX7_countSayings_14 : decode cX7_countSayings 14 = .ok (.iastore, 1) := by decide +kernel
theorem dX7_countSayings_15 : decode cX7_countSayings 15 = .ok (.iinc 1 1, 3) := by decide +kernel
theorem dX7_countSayings_18 : decode cX7_countSayings 18 = .ok (.goto (-16), 3) := by decide +kernel
theorem dX7_countSayings_21 : decode cX7_countSayings 21 = .ok (.iconst 0, 1) := by decide +kernel
theorem dX7_countSayings_22 : decode cX7_countSayings 22 = .ok (.istore_n 1, 1) := by decide +kernel
theorem dX7_countSayings_23 : decode cX7_countSayings 23 = .ok (.iconst 0, 1) := by decide +kernel
theorem dX7_countSayings_24 : decode cX7_countSayings 24 = .ok (.istore_n 2, 1) := by decide +kernel
theorem dX7_countSayings_25 : decode cX7_countSayings 25 = .ok (.iload_n 2, 1) := by decide +kernel
theorem dX7_countSayings_26 : decode cX7_countSayings 26 = .ok (.sipush 320, 3) := by decide +kernel
theorem dX7_countSayings_29 : decode cX7_countSayings 29 = .ok (.if_icmp .ge 66, 3) := by decide +kernel
theorem dX7_countSayings_32 : decode cX7_countSayings 32 = .ok (.aload_n 0, 1) := by decide +kernel
theorem dX7_countSayings_33 : decode cX7_countSayings 33 = .ok (.iload_n 2, 1) := by decide +kernel
theorem dX7_countSayings_34 : decode cX7_countSayings 34 = .ok (.invokevirtual 151, 3) := by decide +kernel
theorem dX7_countSayings_37 : decode cX7_countSayings 37 = .ok (.astore_n 3, 1) := by decide +kernel
theorem dX7_countSayings_38 : decode cX7_countSayings 38 = .ok (.aload_n 0, 1) := by decide +kernel
theorem dX7_countSayings_39 : decode cX7_countSayings 39 = .ok (.getfield 29, 3) := by decide +kernel
theorem dX7_countSayings_42 : decode cX7_countSayings 42 = .ok (.aload_n 3, 1) := by decide +kernel
theorem dX7_countSayings_43 : decode cX7_countSayings 43 = .ok (.invokevirtual 154, 3) := by decide +kernel
theorem dX7_countSayings_46 : decode cX7_countSayings 46 = .ok (.ifCond .eq 43, 3) := by decide +kernel
theorem dX7_countSayings_49 : decode cX7_countSayings 49 = .ok (.iinc 1 1, 3) := by decide +kernel
theorem dX7_countSayings_52 : decode cX7_countSayings 52 = .ok (.iconst 0, 1) := by decide +kernel
theorem dX7_countSayings_53 : decode cX7_countSayings 53 = .ok (.istore 4, 2) := by decide +kernel
theorem dX7_countSayings_55 : decode cX7_countSayings 55 = .ok (.iload 4, 2) := by decide +kernel
theorem dX7_countSayings_57 : decode cX7_countSayings 57 = .ok (.bipush 8, 2) := by decide +kernel
theorem dX7_countSayings_59 : decode cX7_countSayings 59 = .ok (.if_icmp .ge 30, 3) := by decide +kernel
theorem dX7_countSayings_62 : decode cX7_countSayings 62 = .ok (.aload_n 0, 1) := by decide +kernel
theorem dX7_countSayings_63 : decode cX7_countSayings 63 = .ok (.getfield 36, 3) := by decide +kernel
theorem dX7_countSayings_66 : decode cX7_countSayings 66 = .ok (.bipush 8, 2) := by decide +kernel
theorem dX7_countSayings_68 : decode cX7_countSayings 68 = .ok (.iload 4, 2) := by decide +kernel
theorem dX7_countSayings_70 : decode cX7_countSayings 70 = .ok (.imul, 1) := by decide +kernel
theorem dX7_countSayings_71 : decode cX7_countSayings 71 = .ok (.aload_n 3, 1) := by decide +kernel
theorem dX7_countSayings_72 : decode cX7_countSayings 72 = .ok (.iload 4, 2) := by decide +kernel
theorem dX7_countSayings_74 : decode cX7_countSayings 74 = .ok (.invokevirtual 116, 3) := by decide +kernel
theorem dX7_countSayings_77 : decode cX7_countSayings 77 = .ok (.iadd, 1) := by decide +kernel
theorem dX7_countSayings_78 : decode cX7_countSayings 78 = .ok (.dup2, 1) := by decide +kernel
theorem dX7_countSayings_79 : decode cX7_countSayings 79 = .ok (.iaload, 1) := by decide +kernel
theorem dX7_countSayings_80 : decode cX7_countSayings 80 = .ok (.iconst 1, 1) := by decide +kernel
theorem dX7_countSayings_81 : decode cX7_countSayings 81 = .ok (.iadd, 1) := by decide +kernel
theorem dX7_countSayings_82 : decode cX7_countSayings 82 = .ok (.iastore, 1) := by decide +kernel
theorem dX7_countSayings_83 : decode cX7_countSayings 83 = .ok (.iinc 4 1, 3) := by decide +kernel
theorem dX7_countSayings_86 : decode cX7_countSayings 86 = .ok (.goto (-31), 3) := by decide +kernel
theorem dX7_countSayings_89 : decode cX7_countSayings 89 = .ok (.iinc 2 1, 3) := by decide +kernel
theorem dX7_countSayings_92 : decode cX7_countSayings 92 = .ok (.goto (-67), 3) := by decide +kernel
theorem dX7_countSayings_95 : decode cX7_countSayings 95 = .ok (.iload_n 1, 1) := by decide +kernel
theorem dX7_countSayings_96 : decode cX7_countSayings 96 = .ok (.ireturn, 1) := by decide +kernel
theorem dX7_worstLeft_0 : decode cX7_worstLeft 0 = .ok (.iconst 0, 1) := by decide +kernel
theorem dX7_worstLeft_1 : decode cX7_worstLeft 1 = .ok (.istore_n 2, 1) := by decide +kernel
theorem dX7_worstLeft_2 : decode cX7_worstLeft 2 = .ok (.iconst 0, 1) := by decide +kernel
theorem dX7_worstLeft_3 : decode cX7_worstLeft 3 = .ok (.istore_n 3, 1) := by decide +kernel
theorem dX7_worstLeft_4 : decode cX7_worstLeft 4 = .ok (.iload_n 3, 1) := by decide +kernel
theorem dX7_worstLeft_5 : decode cX7_worstLeft 5 = .ok (.bipush 8, 2) := by decide +kernel
theorem dX7_worstLeft_7 : decode cX7_worstLeft 7 = .ok (.if_icmp .ge 25, 3) := by decide +kernel
theorem dX7_worstLeft_10 : decode cX7_worstLeft 10 = .ok (.iload_n 2, 1) := by decide +kernel
theorem dX7_worstLeft_11 : decode cX7_worstLeft 11 = .ok (.aload_n 0, 1) := by decide +kernel
theorem dX7_worstLeft_12 : decode cX7_worstLeft 12 = .ok (.getfield 36, 3) := by decide +kernel
theorem dX7_worstLeft_15 : decode cX7_worstLeft 15 = .ok (.bipush 8, 2) := by decide +kernel
theorem dX7_worstLeft_17 : decode cX7_worstLeft 17 = .ok (.iload_n 1, 1) := by decide +kernel
theorem dX7_worstLeft_18 : decode cX7_worstLeft 18 = .ok (.imul, 1) := by decide +kernel
theorem dX7_worstLeft_19 : decode cX7_worstLeft 19 = .ok (.iload_n 3, 1) := by decide +kernel
theorem dX7_worstLeft_20 : decode cX7_worstLeft 20 = .ok (.iadd, 1) := by decide +kernel
theorem dX7_worstLeft_21 : decode cX7_worstLeft 21 = .ok (.iaload, 1) := by decide +kernel
theorem dX7_worstLeft_22 : decode cX7_worstLeft 22 = .ok (.invokestatic 248, 3) := by decide +kernel
theorem dX7_worstLeft_25 : decode cX7_worstLeft 25 = .ok (.istore_n 2, 1) := by decide +kernel
theorem dX7_worstLeft_26 : decode cX7_worstLeft 26 = .ok (.iinc 3 1, 3) := by decide +kernel
theorem dX7_worstLeft_29 : decode cX7_worstLeft 29 = .ok (.goto (-25), 3) := by decide +kernel
theorem dX7_worstLeft_32 : decode cX7_worstLeft 32 = .ok (.iload_n 2, 1) := by decide +kernel
theorem dX7_worstLeft_33 : decode cX7_worstLeft 33 = .ok (.ireturn, 1) := by decide +kernel
theorem dX7_nextSeed_0 : decode cX7_nextSeed 0 = .ok (.ldc2_w 253, 3) := by decide +kernel
theorem dX7_nextSeed_3 : decode cX7_nextSeed 3 = .ok (.iload_n 0, 1) := by decide +kernel
theorem dX7_nextSeed_4 : decode cX7_nextSeed 4 = .ok (.i2l, 1) := by decide +kernel
theorem dX7_nextSeed_5 : decode cX7_nextSeed 5 = .ok (.lmul, 1) := by decide +kernel
theorem dX7_nextSeed_6 : decode cX7_nextSeed 6 = .ok (.ldc2_w 255, 3) := by decide +kernel
theorem dX7_nextSeed_9 : decode cX7_nextSeed 9 = .ok (.ladd, 1) := by decide +kernel
theorem dX7_nextSeed_10 : decode cX7_nextSeed 10 = .ok (.ldc2_w 257, 3) := by decide +kernel
theorem dX7_nextSeed_13 : decode cX7_nextSeed 13 = .ok (.land, 1) := by decide +kernel
theorem dX7_nextSeed_14 : decode cX7_nextSeed 14 = .ok (.l2i, 1) := by decide +kernel
theorem dX7_nextSeed_15 : decode cX7_nextSeed 15 = .ok (.ireturn, 1) := by decide +kernel
theorem dX7_drawn_0 : decode cX7_drawn 0 = .ok (.iload_n 0, 1) := by decide +kernel
theorem dX7_drawn_1 : decode cX7_drawn 1 = .ok (.bipush 16, 2) := by decide +kernel
theorem dX7_drawn_3 : decode cX7_drawn 3 = .ok (.ishr, 1) := by decide +kernel
theorem dX7_drawn_4 : decode cX7_drawn 4 = .ok (.iload_n 1, 1) := by decide +kernel
theorem dX7_drawn_5 : decode cX7_drawn 5 = .ok (.iconst 1, 1) := by decide +kernel
theorem dX7_drawn_6 : decode cX7_drawn 6 = .ok (.isub, 1) := by decide +kernel
theorem dX7_drawn_7 : decode cX7_drawn 7 = .ok (.iand, 1) := by decide +kernel
theorem dX7_drawn_8 : decode cX7_drawn 8 = .ok (.ireturn, 1) := by decide +kernel
end
section
theorem dX8_init_0 : decode cX8_init 0 = .ok (.aload_n 0, 1) := by decide +kernel
theorem dX8_init_1 : decode cX8_init 1 = .ok (.invokespecial 1, 3) := by decide +kernel
theorem dX8_init_4 : decode cX8_init 4 = .ok (.aload_n 0, 1) := by decide +kernel
theorem dX8_init_5 : decode cX8_init 5 = .ok (.bipush 10, 2) := by decide +kernel
theorem dX8_init_7 : decode cX8_init 7 = .ok (.newarray .int, 2) := by decide +kernel
theorem dX8_init_9 : decode cX8_init 9 = .ok (.putfield 7, 3) := by decide +kernel
theorem dX8_init_12 : decode cX8_init 12 = .ok (.aload_n 0, 1) := by decide +kernel
theorem dX8_init_13 : decode cX8_init 13 = .ok (.bipush 6, 2) := by decide +kernel
theorem dX8_init_15 : decode cX8_init 15 = .ok (.newarray .int, 2) := by decide +kernel
theorem dX8_init_17 : decode cX8_init 17 = .ok (.putfield 13, 3) := by decide +kernel
theorem dX8_init_20 : decode cX8_init 20 = .ok (.aload_n 0, 1) := by decide +kernel
theorem dX8_init_21 : decode cX8_init 21 = .ok (.bipush 40, 2) := by decide +kernel
theorem dX8_init_23 : decode cX8_init 23 = .ok (.newarray .int, 2) := by decide +kernel
theorem dX8_init_25 : decode cX8_init 25 = .ok (.putfield 16, 3) := by decide +kernel
theorem dX8_init_28 : decode cX8_init 28 = .ok (.aload_n 0, 1) := by decide +kernel
theorem dX8_init_29 : decode cX8_init 29 = .ok (.iconst 5, 1) := by decide +kernel
theorem dX8_init_30 : decode cX8_init 30 = .ok (.newarray .int, 2) := by decide +kernel
theorem dX8_init_32 : decode cX8_init 32 = .ok (.putfield 19, 3) := by decide +kernel
theorem dX8_init_35 : decode cX8_init 35 = .ok (.aload_n 0, 1) := by decide +kernel
theorem dX8_init_36 : decode cX8_init 36 = .ok (.bipush 16, 2) := by decide +kernel
theorem dX8_init_38 : decode cX8_init 38 = .ok (.newarray .int, 2) := by decide +kernel
theorem dX8_init_40 : decode cX8_init 40 = .ok (.putfield 22, 3) := by decide +kernel
theorem dX8_init_43 : decode cX8_init 43 = .ok (.aload_n 0, 1) := by decide +kernel
theorem dX8_init_44 : decode cX8_init 44 = .ok (.bipush 8, 2) := by decide +kernel
theorem dX8_init_46 : decode cX8_init 46 = .ok (.newarray .int, 2) := by decide +kernel
theorem dX8_init_48 : decode cX8_init 48 = .ok (.putfield 25, 3) := by decide +kernel
theorem dX8_init_51 : decode cX8_init 51 = .ok (.aload_n 0, 1) := by decide +kernel
theorem dX8_init_52 : decode cX8_init 52 = .ok (.bipush 6, 2) := by decide +kernel
theorem dX8_init_54 : decode cX8_init 54 = .ok (.newarray .int, 2) := by decide +kernel
theorem dX8_init_56 : decode cX8_init 56 = .ok (.putfield 28, 3) := by decide +kernel
theorem dX8_init_59 : decode cX8_init 59 = .ok (.aload_n 0, 1) := by decide +kernel
theorem dX8_init_60 : decode cX8_init 60 = .ok (.bipush 40, 2) := by decide +kernel
theorem dX8_init_62 : decode cX8_init 62 = .ok (.newarray .int, 2) := by decide +kernel
theorem dX8_init_64 : decode cX8_init 64 = .ok (.putfield 31, 3) := by decide +kernel
theorem dX8_init_67 : decode cX8_init 67 = .ok (.aload_n 0, 1) := by decide +kernel
theorem dX8_init_68 : decode cX8_init 68 = .ok (.iconst 5, 1) := by decide +kernel
theorem dX8_init_69 : decode cX8_init 69 = .ok (.newarray .int, 2) := by decide +kernel
theorem dX8_init_71 : decode cX8_init 71 = .ok (.putfield 34, 3) := by decide +kernel
theorem dX8_init_74 : decode cX8_init 74 = .ok (.aload_n 0, 1) := by decide +kernel
theorem dX8_init_75 : decode cX8_init 75 = .ok (.bipush 16, 2) := by decide +kernel
theorem dX8_init_77 : decode cX8_init 77 = .ok (.newarray .int, 2) := by decide +kernel
theorem dX8_init_79 : decode cX8_init 79 = .ok (.putfield 37, 3) := by decide +kernel
theorem dX8_init_82 : decode cX8_init 82 = .ok (.aload_n 0, 1) := by decide +kernel
theorem dX8_init_83 : decode cX8_init 83 = .ok (.iconst (-1), 1) := by decide +kernel
theorem dX8_init_84 : decode cX8_init 84 = .ok (.putfield 40, 3) := by decide +kernel
theorem dX8_init_87 : decode cX8_init 87 = .ok (.return_, 1) := by decide +kernel
theorem dX8_in_0 : decode cX8_in 0 = .ok (.lload_n 0, 1) := by decide +kernel
theorem dX8_in_1 : decode cX8_in 1 = .ok (.lload_n 2, 1) := by decide +kernel
theorem dX8_in_2 : decode cX8_in 2 = .ok (.lcmp, 1) := by decide +kernel
theorem dX8_in_3 : decode cX8_in 3 = .ok (.ifCond .lt 14, 3) := by decide +kernel
theorem dX8_in_6 : decode cX8_in 6 = .ok (.lload_n 0, 1) := by decide +kernel
theorem dX8_in_7 : decode cX8_in 7 = .ok (.lload 4, 2) := by decide +kernel
theorem dX8_in_9 : decode cX8_in 9 = .ok (.lcmp, 1) := by decide +kernel
theorem dX8_in_10 : decode cX8_in 10 = .ok (.ifCond .gt 7, 3) := by decide +kernel
theorem dX8_in_13 : decode cX8_in 13 = .ok (.iconst 1, 1) := by decide +kernel
theorem dX8_in_14 : decode cX8_in 14 = .ok (.goto 4, 3) := by decide +kernel
theorem dX8_in_17 : decode cX8_in 17 = .ok (.iconst 0, 1) := by decide +kernel
theorem dX8_in_18 : decode cX8_in 18 = .ok (.ireturn, 1) := by decide +kernel
set_option maxRecDepth 20000 in
theorem ggX8_isHue_X8_in : GoodIn wsX8_isHue wsX8_in := goodIn_r _ [5] (by decide +kernel) (by decide +kernel)
set_option maxRecDepth 20000 in
theorem gX8_isHue_X8_in : GoodIn wsX8_isHue (va_wsS RX8 46 yX8_in wsX8_in) := goodIn_app (goodIn_of _ (by decide +kernel)) ggX8_isHue_X8_in
theorem dX8_isHue_0 : decode cX8_isHue 0 = .ok (.iload_n 0, 1) := by decide +kernel
theorem dX8_isHue_1 : decode cX8_isHue 1 = .ok (.i2l, 1) := by decide +kernel
theorem dX8_isHue_2 : decode cX8_isHue 2 = .ok (.lconst 0, 1) := by decide +kernel
theorem dX8_isHue_3 : decode cX8_isHue 3 = .ok (.ldc2_w 44, 3) := by decide +kernel
theorem dX8_isHue_6 : decode cX8_isHue 6 = .ok (.invokestatic 46, 3) := by decide +kernel
theorem dX8_isHue_9 : decode cX8_isHue 9 = .ok (.ireturn, 1) := by decide +kernel
set_option maxRecDepth 20000 in
theorem ggX8_letter_X8_in : GoodIn wsX8_letter wsX8_in := goodIn_r _ [7] (by decide +kernel) (by decide +kernel)
set_option maxRecDepth 20000 in
theorem gX8_letter_X8_in : GoodIn wsX8_letter (va_wsS RX8 46 yX8_in wsX8_in) := goodIn_app (goodIn_of _ (by decide +kernel)) ggX8_letter_X8_in
theorem dX8_letter_0 : decode cX8_letter 0 = .ok (.iload_n 1, 1) := by decide +kernel
theorem dX8_letter_1 : decode cX8_letter 1 = .ok (.i2l, 1) := by decide +kernel
theorem dX8_letter_2 : decode cX8_letter 2 = .ok (.lconst 1, 1) := by decide +kernel
theorem dX8_letter_3 : decode cX8_letter 3 = .ok (.ldc2_w 50, 3) := by decide +kernel
theorem dX8_letter_6 : decode cX8_letter 6 = .ok (.invokestatic 46, 3) := by decide +kernel
theorem dX8_letter_9 : decode cX8_letter 9 = .ok (.ifCond .ne 6, 3) := by decide +kernel
theorem dX8_letter_12 : decode cX8_letter 12 = .ok (.bipush (-102), 2) := by decide +kernel
theorem dX8_letter_14 : decode cX8_letter 14 = .ok (.ireturn, 1) := by decide +kernel
theorem dX8_letter_15 : decode cX8_letter 15 = .ok (.aload_n 0, 1) := by decide +kernel
theorem dX8_letter_16 : decode cX8_letter 16 = .ok (.getfield 52, 3) := by decide +kernel
theorem dX8_letter_19 : decode cX8_letter 19 = .ok (.bipush 10, 2) := by decide +kernel
theorem dX8_letter_21 : decode cX8_letter 21 = .ok (.if_icmp .ne 6, 3) := by decide +kernel
theorem dX8_letter_24 : decode cX8_letter 24 = .ok (.bipush (-104), 2) := by decide +kernel
theorem dX8_letter_26 : decode cX8_letter 26 = .ok (.ireturn, 1) := by decide +kernel
theorem dX8_letter_27 : decode cX8_letter 27 = .ok (.aload_n 0, 1) := by decide +kernel
theorem dX8_letter_28 : decode cX8_letter 28 = .ok (.getfield 7, 3) := by decide +kernel
theorem dX8_letter_31 : decode cX8_letter 31 = .ok (.aload_n 0, 1) := by decide +kernel
theorem dX8_letter_32 : decode cX8_letter 32 = .ok (.getfield 52, 3) := by decide +kernel
theorem dX8_letter_35 : decode cX8_letter 35 = .ok (.iload_n 1, 1) := by decide +kernel
theorem dX8_letter_36 : decode cX8_letter 36 = .ok (.iastore, 1) := by decide +kernel
theorem dX8_letter_37 : decode cX8_letter 37 = .ok (.aload_n 0, 1) := by decide +kernel
theorem dX8_letter_38 : decode cX8_letter 38 = .ok (.dup, 1) := by decide +kernel
theorem dX8_letter_39 : decode cX8_letter 39 = .ok (.getfield 52, 3) := by decide +kernel
theorem dX8_letter_42 : decode cX8_letter 42 = .ok (.iconst 1, 1) := by decide +kernel
theorem dX8_letter_43 : decode cX8_letter 43 = .ok (.iadd, 1) := by decide +kernel
theorem dX8_letter_44 : decode cX8_letter 44 = .ok (.putfield 52, 3) := by decide +kernel
theorem dX8_letter_47 : decode cX8_letter 47 = .ok (.aload_n 0, 1) := by decide +kernel
theorem dX8_letter_48 : decode cX8_letter 48 = .ok (.getfield 52, 3) := by decide +kernel
theorem dX8_letter_51 : decode cX8_letter 51 = .ok (.ireturn, 1) := by decide +kernel
theorem dX8_blank_0 : decode cX8_blank 0 = .ok (.aload_n 0, 1) := by decide +kernel
theorem dX8_blank_1 : decode cX8_blank 1 = .ok (.getfield 52, 3) := by decide +kernel
theorem dX8_blank_4 : decode cX8_blank 4 = .ok (.istore_n 1, 1) := by decide +kernel
theorem dX8_blank_5 : decode cX8_blank 5 = .ok (.aload_n 0, 1) := by decide +kernel
theorem dX8_blank_6 : decode cX8_blank 6 = .ok (.iconst 0, 1) := by decide +kernel
theorem dX8_blank_7 : decode cX8_blank 7 = .ok (.putfield 52, 3) := by decide +kernel
theorem dX8_blank_10 : decode cX8_blank 10 = .ok (.iload_n 1, 1) := by decide +kernel
theorem dX8_blank_11 : decode cX8_blank 11 = .ok (.ireturn, 1) := by decide +kernel
set_option maxRecDepth 20000 in
theorem ggX8_faultOf_X8_in : GoodIn wsX8_faultOf wsX8_in := goodIn_r _ [8] (by decide +kernel) (by decide +kernel)
set_option maxRecDepth 20000 in
theorem gX8_faultOf_X8_in : GoodIn wsX8_faultOf (va_wsS RX8 46 yX8_in wsX8_in) := goodIn_app (goodIn_of _ (by decide +kernel)) ggX8_faultOf_X8_in
theorem dX8_faultOf_0 : decode cX8_faultOf 0 = .ok (.iconst 0, 1) := by decide +kernel
theorem dX8_faultOf_1 : decode cX8_faultOf 1 = .ok (.istore_n 1, 1) := by decide +kernel
theorem dX8_faultOf_2 : decode cX8_faultOf 2 = .ok (.iload_n 1, 1) := by decide +kernel
theorem dX8_faultOf_3 : decode cX8_faultOf 3 = .ok (.aload_n 0, 1) := by decide +kernel
theorem dX8_faultOf_4 : decode cX8_faultOf 4 = .ok (.getfield 52, 3) := by decide +kernel
theorem dX8_faultOf_7 : decode cX8_faultOf 7 = .ok (.if_icmp .ge 34, 3) := by decide +kernel
theorem dX8_faultOf_10 : decode cX8_faultOf 10 = .ok (.iload_n 1, 1) := by decide +kernel
theorem dX8_faultOf_11 : decode cX8_faultOf 11 = .ok (.bipush 6, 2) := by decide +kernel
theorem dX8_faultOf_13 : decode cX8_faultOf 13 = .ok (.if_icmp .ge 28, 3) := by decide +kernel
theorem dX8_faultOf_16 : decode cX8_faultOf 16 = .ok (.aload_n 0, 1) := by decide +kernel
theorem dX8_faultOf_17 : decode cX8_faultOf 17 = .ok (.getfield 7, 3) := by decide +kernel
theorem dX8_faultOf_20 : decode cX8_faultOf 20 = .ok (.iload_n 1, 1) := by decide +kernel
theorem dX8_faultOf_21 : decode cX8_faultOf 21 = .ok (.iaload, 1) := by decide +kernel
theorem dX8_faultOf_22 : decode cX8_faultOf 22 = .ok (.i2l, 1) := by decide +kernel
theorem dX8_faultOf_23 : decode cX8_faultOf 23 = .ok (.ldc2_w 55, 3) := by decide +kernel
theorem dX8_faultOf_26 : decode cX8_faultOf 26 = .ok (.ldc2_w 57, 3) := by decide +kernel
theorem dX8_faultOf_29 : decode cX8_faultOf 29 = .ok (.invokestatic 46, 3) := by decide +kernel
theorem dX8_faultOf_32 : decode cX8_faultOf 32 = .ok (.ifCond .eq 9, 3) := by decide +kernel
theorem dX8_faultOf_35 : decode cX8_faultOf 35 = .ok (.iinc 1 1, 3) := by decide +kernel
theorem dX8_faultOf_38 : decode cX8_faultOf 38 = .ok (.goto (-36), 3) := by decide +kernel
theorem dX8_faultOf_41 : decode cX8_faultOf 41 = .ok (.iload_n 1, 1) := by decide +kernel
theorem dX8_faultOf_42 : decode cX8_faultOf 42 = .ok (.ireturn, 1) := by decide +kernel
set_option maxRecDepth 20000 in
theorem ggX8_fault_X8_faultOf : GoodIn wsX8_fault wsX8_faultOf := goodIn_r _ [5, 6, 7, 8, 9, 10, 11, 4, 12, 13, 14, 15, 16, 17, 18, 19, 20, 21, 22, 23, 24, 25, 26, 27, 28, 29, 30, 31, 32, 33, 34, 35, 36, 37] (by decide +kernel) (by decide +kernel)
set_option maxRecDepth 20000 in
theorem gX8_fault_X8_faultOf : GoodIn wsX8_fault (wsV RX8 59 RX8 yX8_faultOf wsX8_faultOf) := goodIn_app (goodIn_of _ (by decide +kernel)) ggX8_fault_X8_faultOf
theorem dX8_fault_0 : decode cX8_fault 0 = .ok (.aload_n 0, 1) := by decide +kernel
theorem dX8_fault_1 : decode cX8_fault 1 = .ok (.invokevirtual 59, 3) := by decide +kernel
theorem dX8_fault_4 : decode cX8_fault 4 = .ok (.ireturn, 1) := by decide +kernel
set_option maxRecDepth 20000 in
theorem ggX8_isSix_X8_faultOf : GoodIn wsX8_isSix wsX8_faultOf := goodIn_r _ [6, 1, 7, 8, 9, 10, 11, 5, 12, 13, 14, 15, 16, 17, 18, 19, 20, 21, 22, 23, 24, 25, 26, 27, 28, 29, 30, 31, 32, 33, 34, 35, 36, 37] (by decide +kernel) (by decide +kernel)
set_option maxRecDepth 20000 in
theorem gX8_isSix_X8_faultOf : GoodIn wsX8_isSix (wsV RX8 59 RX8 yX8_faultOf wsX8_faultOf) := goodIn_app (goodIn_of _ (by decide +kernel)) ggX8_isSix_X8_faultOf
theorem dX8_isSix_0 : decode cX8_isSix 0 = .ok (.aload_n 0, 1) := by decide +kernel
theorem dX8_isSix_1 : decode cX8_isSix 1 = .ok (.getfield 52, 3) := by decide +kernel
theorem dX8_isSix_4 : decode cX8_isSix 4 = .ok (.bipush 6, 2) := by decide +kernel
theorem dX8_isSix_6 : decode cX8_isSix 6 = .ok (.if_icmp .ne 16, 3) := by decide +kernel
theorem dX8_isSix_9 : decode cX8_isSix 9 = .ok (.aload_n 0, 1) := by decide +kernel
theorem dX8_isSix_10 : decode cX8_isSix 10 = .ok (.invokevirtual 59, 3) := by decide +kernel
theorem dX8_isSix_13 : decode cX8_isSix 13 = .ok (.bipush 6, 2) := by decide +kernel
theorem dX8_isSix_15 : decode cX8_isSix 15 = .ok (.if_icmp .ne 7, 3) := by decide +kernel
theorem dX8_isSix_18 : decode cX8_isSix 18 = .ok (.iconst 1, 1) := by decide +kernel
theorem dX8_isSix_19 : decode cX8_isSix 19 = .ok (.goto 4, 3) := by decide +kernel
theorem dX8_isSix_22 : decode cX8_isSix 22 = .ok (.iconst 0, 1) := by decide +kernel
theorem dX8_isSix_23 : decode cX8_isSix 23 = .ok (.ireturn, 1) := by decide +kernel
theorem dX8_inkedCells_0 : decode cX8_inkedCells 0 = .ok (.iconst 0, 1) := by decide +kernel
theorem dX8_inkedCells_1 : decode cX8_inkedCells 1 = .ok (.istore_n 1, 1) := by decide +kernel
theorem dX8_inkedCells_2 : decode cX8_inkedCells 2 = .ok (.iconst 0, 1) := by decide +kernel
theorem dX8_inkedCells_3 : decode cX8_inkedCells 3 = .ok (.istore_n 2, 1) := by decide +kernel
theorem dX8_inkedCells_4 : decode cX8_inkedCells 4 = .ok (.iload_n 2, 1) := by decide +kernel
theorem dX8_inkedCells_5 : decode cX8_inkedCells 5 = .ok (.bipush 6, 2) := by decide +kernel
theorem dX8_inkedCells_7 : decode cX8_inkedCells 7 = .ok (.if_icmp .ge 33, 3) := by decide +kernel
theorem dX8_inkedCells_10 : decode cX8_inkedCells 10 = .ok (.aload_n 0, 1) := by decide +kernel
theorem dX8_inkedCells_11 : decode cX8_inkedCells 11 = .ok (.getfield 63, 3) := by decide +kernel
theorem dX8_inkedCells_14 : decode cX8_inkedCells 14 = .ok (.ifCond .eq 26, 3) := by decide +kernel
theorem dX8_inkedCells_17 : decode cX8_inkedCells 17 = .ok (.iload_n 1, 1) := by decide +kernel
theorem dX8_inkedCells_18 : decode cX8_inkedCells 18 = .ok (.aload_n 0, 1) := by decide +kernel
theorem dX8_inkedCells_19 : decode cX8_inkedCells 19 = .ok (.getfield 13, 3) := by decide +kernel
theorem dX8_inkedCells_22 : decode cX8_inkedCells 22 = .ok (.iload_n 2, 1) := by decide +kernel
theorem dX8_inkedCells_23 : decode cX8_inkedCells 23 = .ok (.iaload, 1) := by decide +kernel
theorem dX8_inkedCells_24 : decode cX8_inkedCells 24 = .ok (.ifCond .ne 7, 3) := by decide +kernel
theorem dX8_inkedCells_27 : decode cX8_inkedCells 27 = .ok (.iconst 0, 1) := by decide +kernel
theorem dX8_inkedCells_28 : decode cX8_inkedCells 28 = .ok (.goto 4, 3) := by decide +kernel
theorem dX8_inkedCells_31 : decode cX8_inkedCells 31 = .ok (.iconst 1, 1) := by decide +kernel
theorem dX8_inkedCells_32 : decode cX8_inkedCells 32 = .ok (.iadd, 1) := by decide +kernel
theorem dX8_inkedCells_33 : decode cX8_inkedCells 33 = .ok (.istore_n 1, 1) := by decide +kernel
theorem dX8_inkedCells_34 : decode cX8_inkedCells 34 = .ok (.iinc 2 1, 3) := by decide +kernel
theorem dX8_inkedCells_37 : decode cX8_inkedCells 37 = .ok (.goto (-33), 3) := by decide +kernel
theorem dX8_inkedCells_40 : decode cX8_inkedCells 40 = .ok (.iload_n 1, 1) := by decide +kernel
theorem dX8_inkedCells_41 : decode cX8_inkedCells 41 = .ok (.ireturn, 1) := by decide +kernel
set_option maxRecDepth 20000 in
theorem ggX8_sign_X8_isSix : GoodIn wsX8_sign wsX8_isSix := goodIn_r _ [14, 9, 15, 16, 17, 13, 18, 2, 19, 20, 21, 22, 23, 28, 29, 30, 31, 32, 33, 34, 35, 36, 37, 38, 39, 40, 41, 42, 43, 44, 45, 46, 47, 48, 49, 50, 51, 52] (by decide +kernel) (by decide +kernel)
set_option maxRecDepth 20000 in
theorem gX8_sign_X8_isSix : GoodIn wsX8_sign (wsV RX8 67 RX8 yX8_isSix wsX8_isSix) := goodIn_app (goodIn_of _ (by decide +kernel)) ggX8_sign_X8_isSix
set_option maxRecDepth 20000 in
theorem ggX8_sign_X8_inkedCells : GoodIn wsX8_sign wsX8_inkedCells := goodIn_r _ [27, 7, 1, 28, 29, 30, 31, 32, 33, 34, 35, 36, 37, 38, 39, 40, 41, 42, 43, 44, 45, 46, 47, 48, 49, 50, 51, 52] (by decide +kernel) (by decide +kernel)
set_option maxRecDepth 20000 in
theorem gX8_sign_X8_inkedCells : GoodIn wsX8_sign (wsV RX8 86 RX8 yX8_inkedCells wsX8_inkedCells) := goodIn_app (goodIn_of _ (by decide +kernel)) ggX8_sign_X8_inkedCells
theorem dX8_sign_0 : decode cX8_sign 0 = .ok (.aload_n 0, 1) := by decide +kernel
theorem dX8_sign_1 : decode cX8_sign 1 = .ok (.invokevirtual 67, 3) := by decide +kernel
theorem dX8_sign_4 : decode cX8_sign 4 = .ok (.ifCond .ne 6, 3) := by decide +kernel
theorem dX8_sign_7 : decode cX8_sign 7 = .ok (.bipush (-103), 2) := by decide +kernel
theorem dX8_sign_9 : decode cX8_sign 9 = .ok (.ireturn, 1) := by decide +kernel
theorem dX8_sign_10 : decode cX8_sign 10 = .ok (.iconst 0, 1) := by decide +kernel
theorem dX8_sign_11 : decode cX8_sign 11 = .ok (.istore_n 1, 1) := by decide +kernel
theorem dX8_sign_12 : decode cX8_sign 12 = .ok (.iload_n 1, 1) := by decide +kernel
theorem dX8_sign_13 : decode cX8_sign 13 = .ok (.bipush 6, 2) := by decide +kernel
theorem dX8_sign_15 : decode cX8_sign 15 = .ok (.if_icmp .ge 24, 3) := by decide +kernel
theorem dX8_sign_18 : decode cX8_sign 18 = .ok (.aload_n 0, 1) := by decide +kernel
theorem dX8_sign_19 : decode cX8_sign 19 = .ok (.getfield 13, 3) := by decide +kernel
theorem dX8_sign_22 : decode cX8_sign 22 = .ok (.iload_n 1, 1) := by decide +kernel
theorem dX8_sign_23 : decode cX8_sign 23 = .ok (.aload_n 0, 1) := by decide +kernel
theorem dX8_sign_24 : decode cX8_sign 24 = .ok (.getfield 7, 3) := by decide +kernel
theorem dX8_sign_27 : decode cX8_sign 27 = .ok (.iload_n 1, 1) := by decide +kernel
theorem dX8_sign_28 : decode cX8_sign 28 = .ok (.iaload, 1) := by decide +kernel
theorem dX8_sign_29 : decode cX8_sign 29 = .ok (.bipush 48, 2) := by decide +kernel
theorem dX8_sign_31 : decode cX8_sign 31 = .ok (.isub, 1) := by decide +kernel
theorem dX8_sign_32 : decode cX8_sign 32 = .ok (.iastore, 1) := by decide +kernel
theorem dX8_sign_33 : decode cX8_sign 33 = .ok (.iinc 1 1, 3) := by decide +kernel
theorem dX8_sign_36 : decode cX8_sign 36 = .ok (.goto (-24), 3) := by decide +kernel
theorem dX8_sign_39 : decode cX8_sign 39 = .ok (.aload_n 0, 1) := by decide +kernel
theorem dX8_sign_40 : decode cX8_sign 40 = .ok (.iconst 0, 1) := by decide +kernel
theorem dX8_sign_41 : decode cX8_sign 41 = .ok (.putfield 71, 3) := by decide +kernel
theorem dX8_sign_44 : decode cX8_sign 44 = .ok (.aload_n 0, 1) := by decide +kernel
theorem dX8_sign_45 : decode cX8_sign 45 = .ok (.iconst 0, 1) := by decide +kernel
theorem dX8_sign_46 : decode cX8_sign 46 = .ok (.putfield 74, 3) := by decide +kernel
theorem dX8_sign_49 : decode cX8_sign 49 = .ok (.aload_n 0, 1) := by decide +kernel
theorem dX8_sign_50 : decode cX8_sign 50 = .ok (.iconst 0, 1) := by decide +kernel
theorem dX8_sign_51 : decode cX8_sign 51 = .ok (.putfield 77, 3) := by decide +kernel
theorem dX8_sign_54 : decode cX8_sign 54 = .ok (.aload_n 0, 1) := by decide +kernel
theorem dX8_sign_55 : decode cX8_sign 55 = .ok (.iconst 0, 1) := by decide +kernel
theorem dX8_sign_56 : decode cX8_sign 56 = .ok (.putfield 80, 3) := by decide +kernel
theorem dX8_sign_59 : decode cX8_sign 59 = .ok (.aload_n 0, 1) := by decide +kernel
theorem dX8_sign_60 : decode cX8_sign 60 = .ok (.iconst 1, 1) := by decide +kernel
theorem dX8_sign_61 : decode cX8_sign 61 = .ok (.putfield 63, 3) := by decide +kernel
theorem dX8_sign_64 : decode cX8_sign 64 = .ok (.aload_n 0, 1) := by decide +kernel
theorem dX8_sign_65 : decode cX8_sign 65 = .ok (.dup, 1) := by decide +kernel
theorem dX8_sign_66 : decode cX8_sign 66 = .ok (.getfield 83, 3) := by decide +kernel
theorem dX8_sign_69 : decode cX8_sign 69 = .ok (.iconst 1, 1) := by decide +kernel
theorem dX8_sign_70 : decode cX8_sign 70 = .ok (.iadd, 1) := by decide +kernel
theorem dX8_sign_71 : decode cX8_sign 71 = .ok (.putfield 83, 3) := by decide +kernel
theorem dX8_sign_74 : decode cX8_sign 74 = .ok (.aload_n 0, 1) := by decide +kernel
theorem dX8_sign_75 : decode cX8_sign 75 = .ok (.iconst 0, 1) := by decide +kernel
theorem dX8_sign_76 : decode cX8_sign 76 = .ok (.putfield 52, 3) := by decide +kernel
theorem dX8_sign_79 : decode cX8_sign 79 = .ok (.aload_n 0, 1) := by decide +kernel
theorem dX8_sign_80 : decode cX8_sign 80 = .ok (.invokevirtual 86, 3) := by decide +kernel
theorem dX8_sign_83 : decode cX8_sign 83 = .ok (.ireturn, 1) := by decide +kernel
set_option maxRecDepth 20000 in
theorem ggX8_hue_X8_in : GoodIn wsX8_hue wsX8_in := goodIn_r _ [7] (by decide +kernel) (by decide +kernel)
set_option maxRecDepth 20000 in
theorem gX8_hue_X8_in : GoodIn wsX8_hue (va_wsS RX8 46 yX8_in wsX8_in) := goodIn_app (goodIn_of _ (by decide +kernel)) ggX8_hue_X8_in
theorem dX8_hue_0 : decode cX8_hue 0 = .ok (.aload_n 0, 1) := by decide +kernel
theorem dX8_hue_1 : decode cX8_hue 1 = .ok (.getfield 63, 3) := by decide +kernel
theorem dX8_hue_4 : decode cX8_hue 4 = .ok (.ifCond .eq 24, 3) := by decide +kernel
theorem dX8_hue_7 : decode cX8_hue 7 = .ok (.iload_n 1, 1) := by decide +kernel
theorem dX8_hue_8 : decode cX8_hue 8 = .ok (.i2l, 1) := by decide +kernel
theorem dX8_hue_9 : decode cX8_hue 9 = .ok (.lconst 0, 1) := by decide +kernel
theorem dX8_hue_10 : decode cX8_hue 10 = .ok (.ldc2_w 89, 3) := by decide +kernel
theorem dX8_hue_13 : decode cX8_hue 13 = .ok (.invokestatic 46, 3) := by decide +kernel
theorem dX8_hue_16 : decode cX8_hue 16 = .ok (.ifCond .eq 12, 3) := by decide +kernel
theorem dX8_hue_19 : decode cX8_hue 19 = .ok (.aload_n 0, 1) := by decide +kernel
theorem dX8_hue_20 : decode cX8_hue 20 = .ok (.getfield 13, 3) := by decide +kernel
theorem dX8_hue_23 : decode cX8_hue 23 = .ok (.iload_n 1, 1) := by decide +kernel
theorem dX8_hue_24 : decode cX8_hue 24 = .ok (.iaload, 1) := by decide +kernel
theorem dX8_hue_25 : decode cX8_hue 25 = .ok (.goto 5, 3) := by decide +kernel
theorem dX8_hue_28 : decode cX8_hue 28 = .ok (.bipush (-101), 2) := by decide +kernel
theorem dX8_hue_30 : decode cX8_hue 30 = .ok (.ireturn, 1) := by decide +kernel
set_option maxRecDepth 20000 in
theorem ggX8_isPerson_X8_in : GoodIn wsX8_isPerson wsX8_in := goodIn_r _ [5] (by decide +kernel) (by decide +kernel)
set_option maxRecDepth 20000 in
theorem gX8_isPerson_X8_in : GoodIn wsX8_isPerson (va_wsS RX8 46 yX8_in wsX8_in) := goodIn_app (goodIn_of _ (by decide +kernel)) ggX8_isPerson_X8_in
theorem dX8_isPerson_0 : decode cX8_isPerson 0 = .ok (.iload_n 1, 1) := by decide +kernel
theorem dX8_isPerson_1 : decode cX8_isPerson 1 = .ok (.i2l, 1) := by decide +kernel
theorem dX8_isPerson_2 : decode cX8_isPerson 2 = .ok (.lconst 0, 1) := by decide +kernel
theorem dX8_isPerson_3 : decode cX8_isPerson 3 = .ok (.aload_n 0, 1) := by decide +kernel
theorem dX8_isPerson_4 : decode cX8_isPerson 4 = .ok (.getfield 71, 3) := by decide +kernel
theorem dX8_isPerson_7 : decode cX8_isPerson 7 = .ok (.iconst 1, 1) := by decide +kernel
theorem dX8_isPerson_8 : decode cX8_isPerson 8 = .ok (.isub, 1) := by decide +kernel
theorem dX8_isPerson_9 : decode cX8_isPerson 9 = .ok (.i2l, 1) := by decide +kernel
theorem dX8_isPerson_10 : decode cX8_isPerson 10 = .ok (.invokestatic 46, 3) := by decide +kernel
theorem dX8_isPerson_13 : decode cX8_isPerson 13 = .ok (.ireturn, 1) := by decide +kernel
set_option maxRecDepth 20000 in
theorem ggX8_isInk_X8_in : GoodIn wsX8_isInk wsX8_in := goodIn_r _ [5] (by decide +kernel) (by decide +kernel)
set_option maxRecDepth 20000 in
theorem gX8_isInk_X8_in : GoodIn wsX8_isInk (va_wsS RX8 46 yX8_in wsX8_in) := goodIn_app (goodIn_of _ (by decide +kernel)) ggX8_isInk_X8_in
theorem dX8_isInk_0 : decode cX8_isInk 0 = .ok (.iload_n 1, 1) := by decide +kernel
theorem dX8_isInk_1 : decode cX8_isInk 1 = .ok (.i2l, 1) := by decide +kernel
theorem dX8_isInk_2 : decode cX8_isInk 2 = .ok (.lconst 0, 1) := by decide +kernel
theorem dX8_isInk_3 : decode cX8_isInk 3 = .ok (.aload_n 0, 1) := by decide +kernel
theorem dX8_isInk_4 : decode cX8_isInk 4 = .ok (.getfield 74, 3) := by decide +kernel
theorem dX8_isInk_7 : decode cX8_isInk 7 = .ok (.iconst 1, 1) := by decide +kernel
theorem dX8_isInk_8 : decode cX8_isInk 8 = .ok (.isub, 1) := by decide +kernel
theorem dX8_isInk_9 : decode cX8_isInk 9 = .ok (.i2l, 1) := by decide +kernel
theorem dX8_isInk_10 : decode cX8_isInk 10 = .ok (.invokestatic 46, 3) := by decide +kernel
theorem dX8_isInk_13 : decode cX8_isInk 13 = .ok (.ireturn, 1) := by decide +kernel
set_option maxRecDepth 20000 in
theorem ggX8_layer_X8_isInk : GoodIn wsX8_layer wsX8_isInk := goodIn_r _ [9, 10, 11, 12, 8, 13, 14, 15, 16, 17, 18, 19, 20, 21, 22, 23, 24, 25, 26, 27, 28, 29, 30, 31, 32, 33, 34, 35, 36, 37, 38] (by decide +kernel) (by decide +kernel)
set_option maxRecDepth 20000 in
theorem gX8_layer_X8_isInk : GoodIn wsX8_layer (wsV RX8 91 RX8 yX8_isInk wsX8_isInk) := goodIn_app (goodIn_of _ (by decide +kernel)) ggX8_layer_X8_isInk
set_option maxRecDepth 20000 in
theorem ggX8_layer_X8_in : GoodIn wsX8_layer wsX8_in := goodIn_r _ [13] (by decide +kernel) (by decide +kernel)
set_option maxRecDepth 20000 in
theorem gX8_layer_X8_in : GoodIn wsX8_layer (va_wsS RX8 46 yX8_in wsX8_in) := goodIn_app (goodIn_of _ (by decide +kernel)) ggX8_layer_X8_in
theorem dX8_layer_0 : decode cX8_layer 0 = .ok (.aload_n 0, 1) := by decide +kernel
theorem dX8_layer_1 : decode cX8_layer 1 = .ok (.iload_n 1, 1) := by decide +kernel
theorem dX8_layer_2 : decode cX8_layer 2 = .ok (.invokevirtual 91, 3) := by decide +kernel
theorem dX8_layer_5 : decode cX8_layer 5 = .ok (.ifCond .ne 6, 3) := by decide +kernel
theorem dX8_layer_8 : decode cX8_layer 8 = .ok (.bipush (-101), 2) := by decide +kernel
theorem dX8_layer_10 : decode cX8_layer 10 = .ok (.ireturn, 1) := by decide +kernel
theorem dX8_layer_11 : decode cX8_layer 11 = .ok (.iload_n 2, 1) := by decide +kernel
theorem dX8_layer_12 : decode cX8_layer 12 = .ok (.i2l, 1) := by decide +kernel
theorem dX8_layer_13 : decode cX8_layer 13 = .ok (.lconst 0, 1) := by decide +kernel
theorem dX8_layer_14 : decode cX8_layer 14 = .ok (.ldc2_w 95, 3) := by decide +kernel
theorem dX8_layer_17 : decode cX8_layer 17 = .ok (.invokestatic 46, 3) := by decide +kernel
theorem dX8_layer_20 : decode cX8_layer 20 = .ok (.ifCond .ne 6, 3) := by decide +kernel
theorem dX8_layer_23 : decode cX8_layer 23 = .ok (.bipush (-102), 2) := by decide +kernel
theorem dX8_layer_25 : decode cX8_layer 25 = .ok (.ireturn, 1) := by decide +kernel
theorem dX8_layer_26 : decode cX8_layer 26 = .ok (.iconst 0, 1) := by decide +kernel
theorem dX8_layer_27 : decode cX8_layer 27 = .ok (.istore_n 3, 1) := by decide +kernel
theorem dX8_layer_28 : decode cX8_layer 28 = .ok (.iconst 0, 1) := by decide +kernel
theorem dX8_layer_29 : decode cX8_layer 29 = .ok (.istore 4, 2) := by decide +kernel
theorem dX8_layer_31 : decode cX8_layer 31 = .ok (.iload 4, 2) := by decide +kernel
theorem dX8_layer_33 : decode cX8_layer 33 = .ok (.bipush 6, 2) := by decide +kernel
theorem dX8_layer_35 : decode cX8_layer 35 = .ok (.if_icmp .ge 69, 3) := by decide +kernel
theorem dX8_layer_38 : decode cX8_layer 38 = .ok (.aload_n 0, 1) := by decide +kernel
theorem dX8_layer_39 : decode cX8_layer 39 = .ok (.getfield 13, 3) := by decide +kernel
theorem dX8_layer_42 : decode cX8_layer 42 = .ok (.iload 4, 2) := by decide +kernel
theorem dX8_layer_44 : decode cX8_layer 44 = .ok (.iaload, 1) := by decide +kernel
theorem dX8_layer_45 : decode cX8_layer 45 = .ok (.istore 5, 2) := by decide +kernel
theorem dX8_layer_47 : decode cX8_layer 47 = .ok (.aload_n 0, 1) := by decide +kernel
theorem dX8_layer_48 : decode cX8_layer 48 = .ok (.getfield 13, 3) := by decide +kernel
theorem dX8_layer_51 : decode cX8_layer 51 = .ok (.iload 4, 2) := by decide +kernel
theorem dX8_layer_53 : decode cX8_layer 53 = .ok (.iload_n 2, 1) := by decide +kernel
theorem dX8_layer_54 : decode cX8_layer 54 = .ok (.iload 4, 2) := by decide +kernel
theorem dX8_layer_56 : decode cX8_layer 56 = .ok (.ishr, 1) := by decide +kernel
theorem dX8_layer_57 : decode cX8_layer 57 = .ok (.iconst 1, 1) := by decide +kernel
theorem dX8_layer_58 : decode cX8_layer 58 = .ok (.iand, 1) := by decide +kernel
theorem dX8_layer_59 : decode cX8_layer 59 = .ok (.iconst 1, 1) := by decide +kernel
theorem dX8_layer_60 : decode cX8_layer 60 = .ok (.if_icmp .ne 15, 3) := by decide +kernel
theorem dX8_layer_63 : decode cX8_layer 63 = .ok (.iload 5, 2) := by decide +kernel
theorem dX8_layer_65 : decode cX8_layer 65 = .ok (.aload_n 0, 1) := by decide +kernel
theorem dX8_layer_66 : decode cX8_layer 66 = .ok (.getfield 19, 3) := by decide +kernel
theorem dX8_layer_69 : decode cX8_layer 69 = .ok (.iload_n 1, 1) := by decide +kernel
theorem dX8_layer_70 : decode cX8_layer 70 = .ok (.iaload, 1) := by decide +kernel
theorem dX8_layer_71 : decode cX8_layer 71 = .ok (.ior, 1) := by decide +kernel
theorem dX8_layer_72 : decode cX8_layer 72 = .ok (.goto 5, 3) := by decide +kernel
theorem dX8_layer_75 : decode cX8_layer 75 = .ok (.iload 5, 2) := by decide +kernel
theorem dX8_layer_77 : decode cX8_layer 77 = .ok (.iastore, 1) := by decide +kernel
theorem dX8_layer_78 : decode cX8_layer 78 = .ok (.iload_n 3, 1) := by decide +kernel
theorem dX8_layer_79 : decode cX8_layer 79 = .ok (.aload_n 0, 1) := by decide +kernel
theorem dX8_layer_80 : decode cX8_layer 80 = .ok (.getfield 13, 3) := by decide +kernel
theorem dX8_layer_83 : decode cX8_layer 83 = .ok (.iload 4, 2) := by decide +kernel
theorem dX8_layer_85 : decode cX8_layer 85 = .ok (.iaload, 1) := by decide +kernel
theorem dX8_layer_86 : decode cX8_layer 86 = .ok (.iload 5, 2) := by decide +kernel
theorem dX8_layer_88 : decode cX8_layer 88 = .ok (.if_icmp .ne 7, 3) := by decide +kernel
theorem dX8_layer_91 : decode cX8_layer 91 = .ok (.iconst 0, 1) := by decide +kernel
theorem dX8_layer_92 : decode cX8_layer 92 = .ok (.goto 4, 3) := by decide +kernel
theorem dX8_layer_95 : decode cX8_layer 95 = .ok (.iconst 1, 1) := by decide +kernel
theorem dX8_layer_96 : decode cX8_layer 96 = .ok (.iadd, 1) := by decide +kernel
theorem dX8_layer_97 : decode cX8_layer 97 = .ok (.istore_n 3, 1) := by decide +kernel
theorem dX8_layer_98 : decode cX8_layer 98 = .ok (.iinc 4 1, 3) := by decide +kernel
theorem dX8_layer_101 : decode cX8_layer 101 = .ok (.goto (-70), 3) := by decide +kernel
theorem dX8_layer_104 : decode cX8_layer 104 = .ok (.aload_n 0, 1) := by decide +kernel
theorem dX8_layer_105 : decode cX8_layer 105 = .ok (.dup, 1) := by decide +kernel
theorem dX8_layer_106 : decode cX8_layer 106 = .ok (.getfield 80, 3) := by decide +kernel
theorem dX8_layer_109 : decode cX8_layer 109 = .ok (.iconst 1, 1) := by decide +kernel
theorem dX8_layer_110 : decode cX8_layer 110 = .ok (.iadd, 1) := by decide +kernel
theorem dX8_layer_111 : decode cX8_layer 111 = .ok (.putfield 80, 3) := by decide +kernel
theorem dX8_layer_114 : decode cX8_layer 114 = .ok (.iload_n 3, 1) := by decide +kernel
theorem dX8_layer_115 : decode cX8_layer 115 = .ok (.ireturn, 1) := by decide +kernel
theorem dX8_seenBy_0 : decode cX8_seenBy 0 = .ok (.iload_n 3, 1) := by decide +kernel
theorem dX8_seenBy_1 : decode cX8_seenBy 1 = .ok (.iload_n 1, 1) := by decide +kernel
theorem dX8_seenBy_2 : decode cX8_seenBy 2 = .ok (.iand, 1) := by decide +kernel
theorem dX8_seenBy_3 : decode cX8_seenBy 3 = .ok (.istore 4, 2) := by decide +kernel
theorem dX8_seenBy_5 : decode cX8_seenBy 5 = .ok (.iload_n 3, 1) := by decide +kernel
theorem dX8_seenBy_6 : decode cX8_seenBy 6 = .ok (.iload_n 2, 1) := by decide +kernel
theorem dX8_seenBy_7 : decode cX8_seenBy 7 = .ok (.iand, 1) := by decide +kernel
theorem dX8_seenBy_8 : decode cX8_seenBy 8 = .ok (.istore 5, 2) := by decide +kernel
theorem dX8_seenBy_10 : decode cX8_seenBy 10 = .ok (.iload_n 0, 1) := by decide +kernel
theorem dX8_seenBy_11 : decode cX8_seenBy 11 = .ok (.tableswitch 60 0 3 #[29, 35, 41, 47], 29) := by decide +kernel
theorem dX8_seenBy_40 : decode cX8_seenBy 40 = .ok (.iload 4, 2) := by decide +kernel
theorem dX8_seenBy_42 : decode cX8_seenBy 42 = .ok (.iload 5, 2) := by decide +kernel
theorem dX8_seenBy_44 : decode cX8_seenBy 44 = .ok (.ior, 1) := by decide +kernel
theorem dX8_seenBy_45 : decode cX8_seenBy 45 = .ok (.ireturn, 1) := by decide +kernel
theorem dX8_seenBy_46 : decode cX8_seenBy 46 = .ok (.iload 4, 2) := by decide +kernel
theorem dX8_seenBy_48 : decode cX8_seenBy 48 = .ok (.iload 5, 2) := by decide +kernel
theorem dX8_seenBy_50 : decode cX8_seenBy 50 = .ok (.ixor, 1) := by decide +kernel
theorem dX8_seenBy_51 : decode cX8_seenBy 51 = .ok (.ireturn, 1) := by decide +kernel
theorem dX8_seenBy_52 : decode cX8_seenBy 52 = .ok (.iload 4, 2) := by decide +kernel
theorem dX8_seenBy_54 : decode cX8_seenBy 54 = .ok (.iload 5, 2) := by decide +kernel
theorem dX8_seenBy_56 : decode cX8_seenBy 56 = .ok (.iand, 1) := by decide +kernel
theorem dX8_seenBy_57 : decode cX8_seenBy 57 = .ok (.ireturn, 1) := by decide +kernel
theorem dX8_seenBy_58 : decode cX8_seenBy 58 = .ok (.iload 4, 2) := by decide +kernel
theorem dX8_seenBy_60 : decode cX8_seenBy 60 = .ok (.ifCond .ne 8, 3) := by decide +kernel
theorem dX8_seenBy_63 : decode cX8_seenBy 63 = .ok (.iload 5, 2) := by decide +kernel
theorem dX8_seenBy_65 : decode cX8_seenBy 65 = .ok (.goto 5, 3) := by decide +kernel
theorem dX8_seenBy_68 : decode cX8_seenBy 68 = .ok (.iload 4, 2) := by decide +kernel
theorem dX8_seenBy_70 : decode cX8_seenBy 70 = .ok (.ireturn, 1) := by decide +kernel
theorem dX8_seenBy_71 : decode cX8_seenBy 71 = .ok (.iload 5, 2) := by decide +kernel
theorem dX8_seenBy_73 : decode cX8_seenBy 73 = .ok (.ireturn, 1) := by decide +kernel
set_option maxRecDepth 20000 in
theorem ggX8_seesOf_X8_seenBy : GoodIn wsX8_seesOf wsX8_seenBy := goodIn_r _ [5] (by decide +kernel) (by decide +kernel)
set_option maxRecDepth 20000 in
theorem gX8_seesOf_X8_seenBy : GoodIn wsX8_seesOf (va_wsS RX8 97 yX8_seenBy wsX8_seenBy) := goodIn_app (goodIn_of _ (by decide +kernel)) ggX8_seesOf_X8_seenBy
theorem dX8_seesOf_0 : decode cX8_seesOf 0 = .ok (.aload_n 0, 1) := by decide +kernel
theorem dX8_seesOf_1 : decode cX8_seesOf 1 = .ok (.getfield 16, 3) := by decide +kernel
theorem dX8_seesOf_4 : decode cX8_seesOf 4 = .ok (.bipush 10, 2) := by decide +kernel
theorem dX8_seesOf_6 : decode cX8_seesOf 6 = .ok (.iload_n 1, 1) := by decide +kernel
theorem dX8_seesOf_7 : decode cX8_seesOf 7 = .ok (.imul, 1) := by decide +kernel
theorem dX8_seesOf_8 : decode cX8_seesOf 8 = .ok (.iaload, 1) := by decide +kernel
theorem dX8_seesOf_9 : decode cX8_seesOf 9 = .ok (.aload_n 0, 1) := by decide +kernel
theorem dX8_seesOf_10 : decode cX8_seesOf 10 = .ok (.getfield 16, 3) := by decide +kernel
theorem dX8_seesOf_13 : decode cX8_seesOf 13 = .ok (.bipush 10, 2) := by decide +kernel
theorem dX8_seesOf_15 : decode cX8_seesOf 15 = .ok (.iload_n 1, 1) := by decide +kernel
theorem dX8_seesOf_16 : decode cX8_seesOf 16 = .ok (.imul, 1) := by decide +kernel
theorem dX8_seesOf_17 : decode cX8_seesOf 17 = .ok (.iconst 1, 1) := by decide +kernel
theorem dX8_seesOf_18 : decode cX8_seesOf 18 = .ok (.iadd, 1) := by decide +kernel
theorem dX8_seesOf_19 : decode cX8_seesOf 19 = .ok (.iaload, 1) := by decide +kernel
theorem dX8_seesOf_20 : decode cX8_seesOf 20 = .ok (.aload_n 0, 1) := by decide +kernel
theorem dX8_seesOf_21 : decode cX8_seesOf 21 = .ok (.getfield 16, 3) := by decide +kernel
theorem dX8_seesOf_24 : decode cX8_seesOf 24 = .ok (.bipush 10, 2) := by decide +kernel
theorem dX8_seesOf_26 : decode cX8_seesOf 26 = .ok (.iload_n 1, 1) := by decide +kernel
theorem dX8_seesOf_27 : decode cX8_seesOf 27 = .ok (.imul, 1) := by decide +kernel
theorem dX8_seesOf_28 : decode cX8_seesOf 28 = .ok (.iconst 2, 1) := by decide +kernel
theorem dX8_seesOf_29 : decode cX8_seesOf 29 = .ok (.iadd, 1) := by decide +kernel
theorem dX8_seesOf_30 : decode cX8_seesOf 30 = .ok (.iaload, 1) := by decide +kernel
theorem dX8_seesOf_31 : decode cX8_seesOf 31 = .ok (.iload_n 2, 1) := by decide +kernel
theorem dX8_seesOf_32 : decode cX8_seesOf 32 = .ok (.invokestatic 97, 3) := by decide +kernel
theorem dX8_seesOf_35 : decode cX8_seesOf 35 = .ok (.ireturn, 1) := by decide +kernel
set_option maxRecDepth 20000 in
theorem ggX8_person_X8_in : GoodIn wsX8_person wsX8_in := goodIn_r _ [8] (by decide +kernel) (by decide +kernel)
set_option maxRecDepth 20000 in
theorem gX8_person_X8_in : GoodIn wsX8_person (va_wsS RX8 46 yX8_in wsX8_in) := goodIn_app (goodIn_of _ (by decide +kernel)) ggX8_person_X8_in
set_option maxRecDepth 20000 in
theorem ggX8_person_X8_isHue : GoodIn wsX8_person wsX8_isHue := goodIn_r _ [11, 12, 5, 6, 7, 8] (by decide +kernel) (by decide +kernel)
set_option maxRecDepth 20000 in
theorem gX8_person_X8_isHue : GoodIn wsX8_person (va_wsS RX8 103 yX8_isHue wsX8_isHue) := goodIn_app (goodIn_of _ (by decide +kernel)) ggX8_person_X8_isHue
theorem dX8_person_0 : decode cX8_person 0 = .ok (.iload_n 1, 1) := by decide +kernel
theorem dX8_person_1 : decode cX8_person 1 = .ok (.i2l, 1) := by decide +kernel
theorem dX8_person_2 : decode cX8_person 2 = .ok (.lconst 0, 1) := by decide +kernel
theorem dX8_person_3 : decode cX8_person 3 = .ok (.ldc2_w 101, 3) := by decide +kernel
theorem dX8_person_6 : decode cX8_person 6 = .ok (.invokestatic 46, 3) := by decide +kernel
theorem dX8_person_9 : decode cX8_person 9 = .ok (.ifCond .eq 17, 3) := by decide +kernel
theorem dX8_person_12 : decode cX8_person 12 = .ok (.iload_n 2, 1) := by decide +kernel
theorem dX8_person_13 : decode cX8_person 13 = .ok (.invokestatic 103, 3) := by decide +kernel
theorem dX8_person_16 : decode cX8_person 16 = .ok (.ifCond .eq 10, 3) := by decide +kernel
theorem dX8_person_19 : decode cX8_person 19 = .ok (.iload_n 3, 1) := by decide +kernel
theorem dX8_person_20 : decode cX8_person 20 = .ok (.invokestatic 103, 3) := by decide +kernel
theorem dX8_person_23 : decode cX8_person 23 = .ok (.ifCond .ne 6, 3) := by decide +kernel
theorem dX8_person_26 : decode cX8_person 26 = .ok (.bipush (-102), 2) := by decide +kernel
theorem dX8_person_28 : decode cX8_person 28 = .ok (.ireturn, 1) := by decide +kernel
theorem dX8_person_29 : decode cX8_person 29 = .ok (.aload_n 0, 1) := by decide +kernel
theorem dX8_person_30 : decode cX8_person 30 = .ok (.getfield 63, 3) := by decide +kernel
theorem dX8_person_33 : decode cX8_person 33 = .ok (.ifCond .ne 6, 3) := by decide +kernel
theorem dX8_person_36 : decode cX8_person 36 = .ok (.bipush (-103), 2) := by decide +kernel
theorem dX8_person_38 : decode cX8_person 38 = .ok (.ireturn, 1) := by decide +kernel
theorem dX8_person_39 : decode cX8_person 39 = .ok (.aload_n 0, 1) := by decide +kernel
theorem dX8_person_40 : decode cX8_person 40 = .ok (.getfield 71, 3) := by decide +kernel
theorem dX8_person_43 : decode cX8_person 43 = .ok (.iconst 4, 1) := by decide +kernel
theorem dX8_person_44 : decode cX8_person 44 = .ok (.if_icmp .ne 6, 3) := by decide +kernel
theorem dX8_person_47 : decode cX8_person 47 = .ok (.bipush (-104), 2) := by decide +kernel
theorem dX8_person_49 : decode cX8_person 49 = .ok (.ireturn, 1) := by decide +kernel
theorem dX8_person_50 : decode cX8_person 50 = .ok (.aload_n 0, 1) := by decide +kernel
theorem dX8_person_51 : decode cX8_person 51 = .ok (.getfield 16, 3) := by decide +kernel
theorem dX8_person_54 : decode cX8_person 54 = .ok (.bipush 10, 2) := by decide +kernel
theorem dX8_person_56 : decode cX8_person 56 = .ok (.aload_n 0, 1) := by decide +kernel
theorem dX8_person_57 : decode cX8_person 57 = .ok (.getfield 71, 3) := by decide +kernel
theorem dX8_person_60 : decode cX8_person 60 = .ok (.imul, 1) := by decide +kernel
theorem dX8_person_61 : decode cX8_person 61 = .ok (.iload_n 1, 1) := by decide +kernel
theorem dX8_person_62 : decode cX8_person 62 = .ok (.iastore, 1) := by decide +kernel
theorem dX8_person_63 : decode cX8_person 63 = .ok (.aload_n 0, 1) := by decide +kernel
theorem dX8_person_64 : decode cX8_person 64 = .ok (.getfield 16, 3) := by decide +kernel
theorem dX8_person_67 : decode cX8_person 67 = .ok (.bipush 10, 2) := by decide +kernel
theorem dX8_person_69 : decode cX8_person 69 = .ok (.aload_n 0, 1) := by decide +kernel
theorem dX8_person_70 : decode cX8_person 70 = .ok (.getfield 71, 3) := by decide +kernel
theorem dX8_person_73 : decode cX8_person 73 = .ok (.imul, 1) := by decide +kernel
theorem dX8_person_74 : decode cX8_person 74 = .ok (.iconst 1, 1) := by decide +kernel
theorem dX8_person_75 : decode cX8_person 75 = .ok (.iadd, 1) := by decide +kernel
theorem dX8_person_76 : decode cX8_person 76 = .ok (.iload_n 2, 1) := by decide +kernel
theorem dX8_person_77 : decode cX8_person 77 = .ok (.iastore, 1) := by decide +kernel
theorem dX8_person_78 : decode cX8_person 78 = .ok (.aload_n 0, 1) := by decide +kernel
theorem dX8_person_79 : decode cX8_person 79 = .ok (.getfield 16, 3) := by decide +kernel
theorem dX8_person_82 : decode cX8_person 82 = .ok (.bipush 10, 2) := by decide +kernel
theorem dX8_person_84 : decode cX8_person 84 = .ok (.aload_n 0, 1) := by decide +kernel
theorem dX8_person_85 : decode cX8_person 85 = .ok (.getfield 71, 3) := by decide +kernel
theorem dX8_person_88 : decode cX8_person 88 = .ok (.imul, 1) := by decide +kernel
theorem dX8_person_89 : decode cX8_person 89 = .ok (.iconst 2, 1) := by decide +kernel
theorem dX8_person_90 : decode cX8_person 90 = .ok (.iadd, 1) := by decide +kernel
theorem dX8_person_91 : decode cX8_person 91 = .ok (.iload_n 3, 1) := by decide +kernel
theorem dX8_person_92 : decode cX8_person 92 = .ok (.iastore, 1) := by decide +kernel
theorem dX8_person_93 : decode cX8_person 93 = .ok (.aload_n 0, 1) := by decide +kernel
theorem dX8_person_94 : decode cX8_person 94 = .ok (.getfield 16, 3) := by decide +kernel
theorem dX8_person_97 : decode cX8_person 97 = .ok (.bipush 10, 2) := by decide +kernel
theorem dX8_person_99 : decode cX8_person 99 = .ok (.aload_n 0, 1) := by decide +kernel
theorem dX8_person_100 : decode cX8_person 100 = .ok (.getfield 71, 3) := by decide +kernel
theorem dX8_person_103 : decode cX8_person 103 = .ok (.imul, 1) := by decide +kernel
theorem dX8_person_104 : decode cX8_person 104 = .ok (.iconst 3, 1) := by decide +kernel
theorem dX8_person_105 : decode cX8_person 105 = .ok (.iadd, 1) := by decide +kernel
theorem dX8_person_106 : decode cX8_person 106 = .ok (.iconst 0, 1) := by decide +kernel
theorem dX8_person_107 : decode cX8_person 107 = .ok (.iastore, 1) := by decide +kernel
theorem dX8_person_108 : decode cX8_person 108 = .ok (.aload_n 0, 1) := by decide +kernel
theorem dX8_person_109 : decode cX8_person 109 = .ok (.dup, 1) := by decide +kernel
theorem dX8_person_110 : decode cX8_person 110 = .ok (.getfield 71, 3) := by decide +kernel
theorem dX8_person_113 : decode cX8_person 113 = .ok (.iconst 1, 1) := by decide +kernel
theorem dX8_person_114 : decode cX8_person 114 = .ok (.iadd, 1) := by decide +kernel
theorem dX8_person_115 : decode cX8_person 115 = .ok (.putfield 71, 3) := by decide +kernel
theorem dX8_person_118 : decode cX8_person 118 = .ok (.aload_n 0, 1) := by decide +kernel
theorem dX8_person_119 : decode cX8_person 119 = .ok (.getfield 71, 3) := by decide +kernel
theorem dX8_person_122 : decode cX8_person 122 = .ok (.iconst 1, 1) := by decide +kernel
theorem dX8_person_123 : decode cX8_person 123 = .ok (.isub, 1) := by decide +kernel
theorem dX8_person_124 : decode cX8_person 124 = .ok (.ireturn, 1) := by decide +kernel
set_option maxRecDepth 20000 in
theorem ggX8_asTheyAre_X8_seesOf : GoodIn wsX8_asTheyAre wsX8_seesOf := goodIn_r _ [5, 6, 7, 8, 4, 9, 10, 11, 12, 13, 14, 15, 16, 17, 18, 19, 20, 21, 22, 23, 24, 25, 26, 27, 28, 29, 30, 31, 32, 33, 34] (by decide +kernel) (by decide +kernel)
set_option maxRecDepth 20000 in
theorem gX8_asTheyAre_X8_seesOf : GoodIn wsX8_asTheyAre (wsV RX8 106 RX8 yX8_seesOf wsX8_seesOf) := goodIn_app (goodIn_of _ (by decide +kernel)) ggX8_asTheyAre_X8_seesOf
theorem dX8_asTheyAre_0 : decode cX8_asTheyAre 0 = .ok (.iconst 0, 1) := by decide +kernel
theorem dX8_asTheyAre_1 : decode cX8_asTheyAre 1 = .ok (.istore_n 2, 1) := by decide +kernel
theorem dX8_asTheyAre_2 : decode cX8_asTheyAre 2 = .ok (.iconst 0, 1) := by decide +kernel
theorem dX8_asTheyAre_3 : decode cX8_asTheyAre 3 = .ok (.istore_n 3, 1) := by decide +kernel
theorem dX8_asTheyAre_4 : decode cX8_asTheyAre 4 = .ok (.iload_n 3, 1) := by decide +kernel
theorem dX8_asTheyAre_5 : decode cX8_asTheyAre 5 = .ok (.bipush 8, 2) := by decide +kernel
theorem dX8_asTheyAre_7 : decode cX8_asTheyAre 7 = .ok (.if_icmp .ge 27, 3) := by decide +kernel
theorem dX8_asTheyAre_10 : decode cX8_asTheyAre 10 = .ok (.iload_n 2, 1) := by decide +kernel
theorem dX8_asTheyAre_11 : decode cX8_asTheyAre 11 = .ok (.aload_n 0, 1) := by decide +kernel
theorem dX8_asTheyAre_12 : decode cX8_asTheyAre 12 = .ok (.iload_n 1, 1) := by decide +kernel
theorem dX8_asTheyAre_13 : decode cX8_asTheyAre 13 = .ok (.iload_n 3, 1) := by decide +kernel
theorem dX8_asTheyAre_14 : decode cX8_asTheyAre 14 = .ok (.invokevirtual 106, 3) := by decide +kernel
theorem dX8_asTheyAre_17 : decode cX8_asTheyAre 17 = .ok (.iload_n 3, 1) := by decide +kernel
theorem dX8_asTheyAre_18 : decode cX8_asTheyAre 18 = .ok (.if_icmp .ne 7, 3) := by decide +kernel
theorem dX8_asTheyAre_21 : decode cX8_asTheyAre 21 = .ok (.iconst 1, 1) := by decide +kernel
theorem dX8_asTheyAre_22 : decode cX8_asTheyAre 22 = .ok (.goto 4, 3) := by decide +kernel
theorem dX8_asTheyAre_25 : decode cX8_asTheyAre 25 = .ok (.iconst 0, 1) := by decide +kernel
theorem dX8_asTheyAre_26 : decode cX8_asTheyAre 26 = .ok (.iadd, 1) := by decide +kernel
theorem dX8_asTheyAre_27 : decode cX8_asTheyAre 27 = .ok (.istore_n 2, 1) := by decide +kernel
theorem dX8_asTheyAre_28 : decode cX8_asTheyAre 28 = .ok (.iinc 3 1, 3) := by decide +kernel
theorem dX8_asTheyAre_31 : decode cX8_asTheyAre 31 = .ok (.goto (-27), 3) := by decide +kernel
theorem dX8_asTheyAre_34 : decode cX8_asTheyAre 34 = .ok (.iload_n 2, 1) := by decide +kernel
theorem dX8_asTheyAre_35 : decode cX8_asTheyAre 35 = .ok (.ireturn, 1) := by decide +kernel
set_option maxRecDepth 20000 in
theorem ggX8_tell_X8_in : GoodIn wsX8_tell wsX8_in := goodIn_r _ [11] (by decide +kernel) (by decide +kernel)
set_option maxRecDepth 20000 in
theorem gX8_tell_X8_in : GoodIn wsX8_tell (va_wsS RX8 46 yX8_in wsX8_in) := goodIn_app (goodIn_of _ (by decide +kernel)) ggX8_tell_X8_in
set_option maxRecDepth 20000 in
theorem ggX8_tell_X8_seesOf : GoodIn wsX8_tell wsX8_seesOf := goodIn_r _ [15, 2, 16, 17, 10, 18, 23, 24, 25, 26, 27, 28, 29, 30, 31, 32, 33, 34, 35, 36, 37, 38, 39, 40, 41, 42, 43, 44, 45, 46, 47] (by decide +kernel) (by decide +kernel)
set_option maxRecDepth 20000 in
theorem gX8_tell_X8_seesOf : GoodIn wsX8_tell (wsV RX8 106 RX8 yX8_seesOf wsX8_seesOf) := goodIn_app (goodIn_of _ (by decide +kernel)) ggX8_tell_X8_seesOf
set_option maxRecDepth 20000 in
theorem ggX8_tell_X8_asTheyAre : GoodIn wsX8_tell wsX8_asTheyAre := goodIn_r _ [22, 12, 13, 14, 10, 15, 2, 16, 17, 18, 23, 24, 25, 26, 27, 28, 29, 30, 31, 32, 33, 34, 35, 36, 37, 38, 39, 40, 41, 42, 43, 44, 45, 46, 47] (by decide +kernel) (by decide +kernel)
set_option maxRecDepth 20000 in
theorem gX8_tell_X8_asTheyAre : GoodIn wsX8_tell (wsV RX8 120 RX8 yX8_asTheyAre wsX8_asTheyAre) := goodIn_app (goodIn_of _ (by decide +kernel)) ggX8_tell_X8_asTheyAre
theorem dX8_tell_0 : decode cX8_tell 0 = .ok (.iload_n 2, 1) := by decide +kernel
theorem dX8_tell_1 : decode cX8_tell 1 = .ok (.i2l, 1) := by decide +kernel
theorem dX8_tell_2 : decode cX8_tell 2 = .ok (.lconst 0, 1) := by decide +kernel
theorem dX8_tell_3 : decode cX8_tell 3 = .ok (.ldc2_w 110, 3) := by decide +kernel
theorem dX8_tell_6 : decode cX8_tell 6 = .ok (.invokestatic 46, 3) := by decide +kernel
theorem dX8_tell_9 : decode cX8_tell 9 = .ok (.ifCond .eq 15, 3) := by decide +kernel
theorem dX8_tell_12 : decode cX8_tell 12 = .ok (.aload_n 0, 1) := by decide +kernel
theorem dX8_tell_13 : decode cX8_tell 13 = .ok (.getfield 16, 3) := by decide +kernel
theorem dX8_tell_16 : decode cX8_tell 16 = .ok (.bipush 10, 2) := by decide +kernel
theorem dX8_tell_18 : decode cX8_tell 18 = .ok (.iload_n 1, 1) := by decide +kernel
theorem dX8_tell_19 : decode cX8_tell 19 = .ok (.imul, 1) := by decide +kernel
theorem dX8_tell_20 : decode cX8_tell 20 = .ok (.iload_n 2, 1) := by decide +kernel
theorem dX8_tell_21 : decode cX8_tell 21 = .ok (.iadd, 1) := by decide +kernel
theorem dX8_tell_22 : decode cX8_tell 22 = .ok (.iaload, 1) := by decide +kernel
theorem dX8_tell_23 : decode cX8_tell 23 = .ok (.ireturn, 1) := by decide +kernel
theorem dX8_tell_24 : decode cX8_tell 24 = .ok (.iload_n 2, 1) := by decide +kernel
theorem dX8_tell_25 : decode cX8_tell 25 = .ok (.i2l, 1) := by decide +kernel
theorem dX8_tell_26 : decode cX8_tell 26 = .ok (.ldc2_w 112, 3) := by decide +kernel
theorem dX8_tell_29 : decode cX8_tell 29 = .ok (.ldc2_w 114, 3) := by decide +kernel
theorem dX8_tell_32 : decode cX8_tell 32 = .ok (.invokestatic 46, 3) := by decide +kernel
theorem dX8_tell_35 : decode cX8_tell 35 = .ok (.ifCond .eq 18, 3) := by decide +kernel
theorem dX8_tell_38 : decode cX8_tell 38 = .ok (.aload_n 0, 1) := by decide +kernel
theorem dX8_tell_39 : decode cX8_tell 39 = .ok (.iload_n 1, 1) := by decide +kernel
theorem dX8_tell_40 : decode cX8_tell 40 = .ok (.aload_n 0, 1) := by decide +kernel
theorem dX8_tell_41 : decode cX8_tell 41 = .ok (.getfield 13, 3) := by decide +kernel
theorem dX8_tell_44 : decode cX8_tell 44 = .ok (.iload_n 2, 1) := by decide +kernel
theorem dX8_tell_45 : decode cX8_tell 45 = .ok (.bipush 10, 2) := by decide +kernel
theorem dX8_tell_47 : decode cX8_tell 47 = .ok (.isub, 1) := by decide +kernel
theorem dX8_tell_48 : decode cX8_tell 48 = .ok (.iaload, 1) := by decide +kernel
theorem dX8_tell_49 : decode cX8_tell 49 = .ok (.invokevirtual 106, 3) := by decide +kernel
theorem dX8_tell_52 : decode cX8_tell 52 = .ok (.ireturn, 1) := by decide +kernel
theorem dX8_tell_53 : decode cX8_tell 53 = .ok (.iload_n 2, 1) := by decide +kernel
theorem dX8_tell_54 : decode cX8_tell 54 = .ok (.i2l, 1) := by decide +kernel
theorem dX8_tell_55 : decode cX8_tell 55 = .ok (.ldc2_w 116, 3) := by decide +kernel
theorem dX8_tell_58 : decode cX8_tell 58 = .ok (.ldc2_w 118, 3) := by decide +kernel
theorem dX8_tell_61 : decode cX8_tell 61 = .ok (.invokestatic 46, 3) := by decide +kernel
theorem dX8_tell_64 : decode cX8_tell 64 = .ok (.ifCond .eq 37, 3) := by decide +kernel
theorem dX8_tell_67 : decode cX8_tell 67 = .ok (.aload_n 0, 1) := by decide +kernel
theorem dX8_tell_68 : decode cX8_tell 68 = .ok (.getfield 16, 3) := by decide +kernel
theorem dX8_tell_71 : decode cX8_tell 71 = .ok (.bipush 10, 2) := by decide +kernel
theorem dX8_tell_73 : decode cX8_tell 73 = .ok (.iload_n 1, 1) := by decide +kernel
theorem dX8_tell_74 : decode cX8_tell 74 = .ok (.imul, 1) := by decide +kernel
theorem dX8_tell_75 : decode cX8_tell 75 = .ok (.iconst 3, 1) := by decide +kernel
theorem dX8_tell_76 : decode cX8_tell 76 = .ok (.iadd, 1) := by decide +kernel
theorem dX8_tell_77 : decode cX8_tell 77 = .ok (.iaload, 1) := by decide +kernel
theorem dX8_tell_78 : decode cX8_tell 78 = .ok (.iconst 1, 1) := by decide +kernel
theorem dX8_tell_79 : decode cX8_tell 79 = .ok (.if_icmp .ne 20, 3) := by decide +kernel
theorem dX8_tell_82 : decode cX8_tell 82 = .ok (.aload_n 0, 1) := by decide +kernel
theorem dX8_tell_83 : decode cX8_tell 83 = .ok (.getfield 16, 3) := by decide +kernel
theorem dX8_tell_86 : decode cX8_tell 86 = .ok (.bipush 10, 2) := by decide +kernel
theorem dX8_tell_88 : decode cX8_tell 88 = .ok (.iload_n 1, 1) := by decide +kernel
theorem dX8_tell_89 : decode cX8_tell 89 = .ok (.imul, 1) := by decide +kernel
theorem dX8_tell_90 : decode cX8_tell 90 = .ok (.iload_n 2, 1) := by decide +kernel
theorem dX8_tell_91 : decode cX8_tell 91 = .ok (.iadd, 1) := by decide +kernel
theorem dX8_tell_92 : decode cX8_tell 92 = .ok (.bipush 16, 2) := by decide +kernel
theorem dX8_tell_94 : decode cX8_tell 94 = .ok (.isub, 1) := by decide +kernel
theorem dX8_tell_95 : decode cX8_tell 95 = .ok (.iaload, 1) := by decide +kernel
theorem dX8_tell_96 : decode cX8_tell 96 = .ok (.goto 4, 3) := by decide +kernel
theorem dX8_tell_99 : decode cX8_tell 99 = .ok (.iconst (-1), 1) := by decide +kernel
theorem dX8_tell_100 : decode cX8_tell 100 = .ok (.ireturn, 1) := by decide +kernel
theorem dX8_tell_101 : decode cX8_tell 101 = .ok (.iload_n 2, 1) := by decide +kernel
theorem dX8_tell_102 : decode cX8_tell 102 = .ok (.iconst 3, 1) := by decide +kernel
theorem dX8_tell_103 : decode cX8_tell 103 = .ok (.if_icmp .ne 11, 3) := by decide +kernel
theorem dX8_tell_106 : decode cX8_tell 106 = .ok (.aload_n 0, 1) := by decide +kernel
theorem dX8_tell_107 : decode cX8_tell 107 = .ok (.iload_n 1, 1) := by decide +kernel
theorem dX8_tell_108 : decode cX8_tell 108 = .ok (.invokevirtual 120, 3) := by decide +kernel
theorem dX8_tell_111 : decode cX8_tell 111 = .ok (.goto 5, 3) := by decide +kernel
theorem dX8_tell_114 : decode cX8_tell 114 = .ok (.bipush (-102), 2) := by decide +kernel
theorem dX8_tell_116 : decode cX8_tell 116 = .ok (.ireturn, 1) := by decide +kernel
set_option maxRecDepth 20000 in
theorem ggX8_about_X8_isPerson : GoodIn wsX8_about wsX8_isPerson := goodIn_r _ [5, 6, 7, 8, 4, 9, 32, 33, 34, 35, 36, 37, 38, 39, 40, 41, 42, 43, 44, 45, 46, 47, 48, 49, 50, 51, 52, 53, 54, 55, 56] (by decide +kernel) (by decide +kernel)
set_option maxRecDepth 20000 in
theorem gX8_about_X8_isPerson : GoodIn wsX8_about (wsV RX8 124 RX8 yX8_isPerson wsX8_isPerson) := goodIn_app (goodIn_of _ (by decide +kernel)) ggX8_about_X8_isPerson
set_option maxRecDepth 20000 in
theorem ggX8_about_X8_tell : GoodIn wsX8_about wsX8_tell := goodIn_r _ [13, 14, 15, 16, 17, 18, 19, 20, 7, 8, 4, 9, 21, 22, 23, 24, 25, 26, 27, 28, 29, 30, 31, 32, 33, 34, 35, 36, 37, 38, 39, 40, 41, 42, 43, 44, 45, 46, 47, 48, 49, 50, 51, 52, 53, 54, 55, 56] (by decide +kernel) (by decide +kernel)
set_option maxRecDepth 20000 in
theorem gX8_about_X8_tell : GoodIn wsX8_about (wsV RX8 127 RX8 yX8_tell wsX8_tell) := goodIn_app (goodIn_of _ (by decide +kernel)) ggX8_about_X8_tell
theorem dX8_about_0 : decode cX8_about 0 = .ok (.aload_n 0, 1) := by decide +kernel
theorem dX8_about_1 : decode cX8_about 1 = .ok (.iload_n 1, 1) := by decide +kernel
theorem dX8_about_2 : decode cX8_about 2 = .ok (.invokevirtual 124, 3) := by decide +kernel
theorem dX8_about_5 : decode cX8_about 5 = .ok (.ifCond .eq 12, 3) := by decide +kernel
theorem dX8_about_8 : decode cX8_about 8 = .ok (.aload_n 0, 1) := by decide +kernel
theorem dX8_about_9 : decode cX8_about 9 = .ok (.iload_n 1, 1) := by decide +kernel
theorem dX8_about_10 : decode cX8_about 10 = .ok (.iload_n 2, 1) := by decide +kernel
theorem dX8_about_11 : decode cX8_about 11 = .ok (.invokevirtual 127, 3) := by decide +kernel
theorem dX8_about_14 : decode cX8_about 14 = .ok (.goto 5, 3) := by decide +kernel
theorem dX8_about_17 : decode cX8_about 17 = .ok (.bipush (-101), 2) := by decide +kernel
theorem dX8_about_19 : decode cX8_about 19 = .ok (.ireturn, 1) := by decide +kernel
set_option maxRecDepth 20000 in
theorem ggX8_as_X8_isPerson : GoodIn wsX8_as wsX8_isPerson := goodIn_r _ [7, 8, 9, 10, 6, 11, 12, 13, 14, 15, 16, 17, 18, 19, 20, 21, 22, 23, 24, 25, 26, 27, 28, 29, 30, 31, 32, 33, 34, 35, 36] (by decide +kernel) (by decide +kernel)
set_option maxRecDepth 20000 in
theorem gX8_as_X8_isPerson : GoodIn wsX8_as (wsV RX8 124 RX8 yX8_isPerson wsX8_isPerson) := goodIn_app (goodIn_of _ (by decide +kernel)) ggX8_as_X8_isPerson
set_option maxRecDepth 20000 in
theorem ggX8_as_X8_in : GoodIn wsX8_as wsX8_in := goodIn_r _ [11] (by decide +kernel) (by decide +kernel)
set_option maxRecDepth 20000 in
theorem gX8_as_X8_in : GoodIn wsX8_as (va_wsS RX8 46 yX8_in wsX8_in) := goodIn_app (goodIn_of _ (by decide +kernel)) ggX8_as_X8_in
theorem dX8_as_0 : decode cX8_as 0 = .ok (.aload_n 0, 1) := by decide +kernel
theorem dX8_as_1 : decode cX8_as 1 = .ok (.iload_n 1, 1) := by decide +kernel
theorem dX8_as_2 : decode cX8_as 2 = .ok (.invokevirtual 124, 3) := by decide +kernel
theorem dX8_as_5 : decode cX8_as 5 = .ok (.ifCond .ne 6, 3) := by decide +kernel
theorem dX8_as_8 : decode cX8_as 8 = .ok (.bipush (-101), 2) := by decide +kernel
theorem dX8_as_10 : decode cX8_as 10 = .ok (.ireturn, 1) := by decide +kernel
theorem dX8_as_11 : decode cX8_as 11 = .ok (.iload_n 2, 1) := by decide +kernel
theorem dX8_as_12 : decode cX8_as 12 = .ok (.i2l, 1) := by decide +kernel
theorem dX8_as_13 : decode cX8_as 13 = .ok (.lconst 0, 1) := by decide +kernel
theorem dX8_as_14 : decode cX8_as 14 = .ok (.ldc2_w 101, 3) := by decide +kernel
theorem dX8_as_17 : decode cX8_as 17 = .ok (.invokestatic 46, 3) := by decide +kernel
theorem dX8_as_20 : decode cX8_as 20 = .ok (.ifCond .ne 6, 3) := by decide +kernel
theorem dX8_as_23 : decode cX8_as 23 = .ok (.bipush (-102), 2) := by decide +kernel
theorem dX8_as_25 : decode cX8_as 25 = .ok (.ireturn, 1) := by decide +kernel
theorem dX8_as_26 : decode cX8_as 26 = .ok (.aload_n 0, 1) := by decide +kernel
theorem dX8_as_27 : decode cX8_as 27 = .ok (.getfield 16, 3) := by decide +kernel
theorem dX8_as_30 : decode cX8_as 30 = .ok (.bipush 10, 2) := by decide +kernel
theorem dX8_as_32 : decode cX8_as 32 = .ok (.iload_n 1, 1) := by decide +kernel
theorem dX8_as_33 : decode cX8_as 33 = .ok (.imul, 1) := by decide +kernel
theorem dX8_as_34 : decode cX8_as 34 = .ok (.iaload, 1) := by decide +kernel
theorem dX8_as_35 : decode cX8_as 35 = .ok (.istore_n 3, 1) := by decide +kernel
theorem dX8_as_36 : decode cX8_as 36 = .ok (.iload_n 2, 1) := by decide +kernel
theorem dX8_as_37 : decode cX8_as 37 = .ok (.ifCond .eq 18, 3) := by decide +kernel
theorem dX8_as_40 : decode cX8_as 40 = .ok (.iload_n 2, 1) := by decide +kernel
theorem dX8_as_41 : decode cX8_as 41 = .ok (.iload_n 3, 1) := by decide +kernel
theorem dX8_as_42 : decode cX8_as 42 = .ok (.if_icmp .eq 13, 3) := by decide +kernel
theorem dX8_as_45 : decode cX8_as 45 = .ok (.iload_n 2, 1) := by decide +kernel
theorem dX8_as_46 : decode cX8_as 46 = .ok (.iconst 3, 1) := by decide +kernel
theorem dX8_as_47 : decode cX8_as 47 = .ok (.if_icmp .ne 12, 3) := by decide +kernel
theorem dX8_as_50 : decode cX8_as 50 = .ok (.iload_n 3, 1) := by decide +kernel
theorem dX8_as_51 : decode cX8_as 51 = .ok (.iconst 4, 1) := by decide +kernel
theorem dX8_as_52 : decode cX8_as 52 = .ok (.if_icmp .ne 7, 3) := by decide +kernel
theorem dX8_as_55 : decode cX8_as 55 = .ok (.iconst 1, 1) := by decide +kernel
theorem dX8_as_56 : decode cX8_as 56 = .ok (.goto 4, 3) := by decide +kernel
theorem dX8_as_59 : decode cX8_as 59 = .ok (.iconst 0, 1) := by decide +kernel
theorem dX8_as_60 : decode cX8_as 60 = .ok (.istore 4, 2) := by decide +kernel
theorem dX8_as_62 : decode cX8_as 62 = .ok (.iload 4, 2) := by decide +kernel
theorem dX8_as_64 : decode cX8_as 64 = .ok (.ifCond .eq 7, 3) := by decide +kernel
theorem dX8_as_67 : decode cX8_as 67 = .ok (.iload_n 1, 1) := by decide +kernel
theorem dX8_as_68 : decode cX8_as 68 = .ok (.goto 4, 3) := by decide +kernel
theorem dX8_as_71 : decode cX8_as 71 = .ok (.iconst (-1), 1) := by decide +kernel
theorem dX8_as_72 : decode cX8_as 72 = .ok (.ireturn, 1) := by decide +kernel
set_option maxRecDepth 20000 in
theorem ggX8_sees_X8_isPerson : GoodIn wsX8_sees wsX8_isPerson := goodIn_r _ [5, 6, 7, 8, 4, 9, 22, 23, 24, 25, 26, 27, 28, 29, 30, 31, 32, 33, 34, 35, 36, 37, 38, 39, 40, 41, 42, 43, 44, 45, 46] (by decide +kernel) (by decide +kernel)
set_option maxRecDepth 20000 in
theorem gX8_sees_X8_isPerson : GoodIn wsX8_sees (wsV RX8 124 RX8 yX8_isPerson wsX8_isPerson) := goodIn_app (goodIn_of _ (by decide +kernel)) ggX8_sees_X8_isPerson
set_option maxRecDepth 20000 in
theorem ggX8_sees_X8_isHue : GoodIn wsX8_sees wsX8_isHue := goodIn_r _ [12, 13, 7, 8, 4, 9] (by decide +kernel) (by decide +kernel)
set_option maxRecDepth 20000 in
theorem gX8_sees_X8_isHue : GoodIn wsX8_sees (va_wsS RX8 103 yX8_isHue wsX8_isHue) := goodIn_app (goodIn_of _ (by decide +kernel)) ggX8_sees_X8_isHue
set_option maxRecDepth 20000 in
theorem ggX8_sees_X8_seesOf : GoodIn wsX8_sees wsX8_seesOf := goodIn_r _ [17, 18, 19, 20, 4, 21, 22, 23, 24, 25, 26, 27, 28, 29, 30, 31, 32, 33, 34, 35, 36, 37, 38, 39, 40, 41, 42, 43, 44, 45, 46] (by decide +kernel) (by decide +kernel)
set_option maxRecDepth 20000 in
theorem gX8_sees_X8_seesOf : GoodIn wsX8_sees (wsV RX8 106 RX8 yX8_seesOf wsX8_seesOf) := goodIn_app (goodIn_of _ (by decide +kernel)) ggX8_sees_X8_seesOf
theorem dX8_sees_0 : decode cX8_sees 0 = .ok (.aload_n 0, 1) := by decide +kernel
theorem dX8_sees_1 : decode cX8_sees 1 = .ok (.iload_n 1, 1) := by decide +kernel
theorem dX8_sees_2 : decode cX8_sees 2 = .ok (.invokevirtual 124, 3) := by decide +kernel
theorem dX8_sees_5 : decode cX8_sees 5 = .ok (.ifCond .ne 6, 3) := by decide +kernel
theorem dX8_sees_8 : decode cX8_sees 8 = .ok (.bipush (-101), 2) := by decide +kernel
end
section
theorem dX8_sees_10 : decode cX8_sees 10 = .ok (.ireturn, 1) := by decide +kernel
theorem dX8_sees_11 : decode cX8_sees 11 = .ok (.iload_n 2, 1) := by decide +kernel
theorem dX8_sees_12 : decode cX8_sees 12 = .ok (.invokestatic 103, 3) := by decide +kernel
theorem dX8_sees_15 : decode cX8_sees 15 = .ok (.ifCond .eq 12, 3) := by decide +kernel
theorem dX8_sees_18 : decode cX8_sees 18 = .ok (.aload_n 0, 1) := by decide +kernel
theorem dX8_sees_19 : decode cX8_sees 19 = .ok (.iload_n 1, 1) := by decide +kernel
theorem dX8_sees_20 : decode cX8_sees 20 = .ok (.iload_n 2, 1) := by decide +kernel
theorem dX8_sees_21 : decode cX8_sees 21 = .ok (.invokevirtual 106, 3) := by decide +kernel
theorem dX8_sees_24 : decode cX8_sees 24 = .ok (.goto 5, 3) := by decide +kernel
theorem dX8_sees_27 : decode cX8_sees 27 = .ok (.bipush (-102), 2) := by decide +kernel
theorem dX8_sees_29 : decode cX8_sees 29 = .ok (.ireturn, 1) := by decide +kernel
set_option maxRecDepth 20000 in
theorem ggX8_eye_X8_isPerson : GoodIn wsX8_eye wsX8_isPerson := goodIn_r _ [6, 7, 8, 9, 5, 10, 15, 16, 17, 18, 19, 20, 21, 22, 23, 24, 25, 26, 27, 28, 29, 30, 31, 32, 33, 34, 35, 36, 37, 38, 39] (by decide +kernel) (by decide +kernel)
set_option maxRecDepth 20000 in
theorem gX8_eye_X8_isPerson : GoodIn wsX8_eye (wsV RX8 124 RX8 yX8_isPerson wsX8_isPerson) := goodIn_app (goodIn_of _ (by decide +kernel)) ggX8_eye_X8_isPerson
set_option maxRecDepth 20000 in
theorem ggX8_eye_X8_in : GoodIn wsX8_eye wsX8_in := goodIn_r _ [10] (by decide +kernel) (by decide +kernel)
set_option maxRecDepth 20000 in
theorem gX8_eye_X8_in : GoodIn wsX8_eye (va_wsS RX8 46 yX8_in wsX8_in) := goodIn_app (goodIn_of _ (by decide +kernel)) ggX8_eye_X8_in
set_option maxRecDepth 20000 in
theorem ggX8_eye_X8_isHue : GoodIn wsX8_eye wsX8_isHue := goodIn_r _ [13, 14, 8, 9, 5, 10] (by decide +kernel) (by decide +kernel)
set_option maxRecDepth 20000 in
theorem gX8_eye_X8_isHue : GoodIn wsX8_eye (va_wsS RX8 103 yX8_isHue wsX8_isHue) := goodIn_app (goodIn_of _ (by decide +kernel)) ggX8_eye_X8_isHue
theorem dX8_eye_0 : decode cX8_eye 0 = .ok (.aload_n 0, 1) := by decide +kernel
theorem dX8_eye_1 : decode cX8_eye 1 = .ok (.iload_n 1, 1) := by decide +kernel
theorem dX8_eye_2 : decode cX8_eye 2 = .ok (.invokevirtual 124, 3) := by decide +kernel
theorem dX8_eye_5 : decode cX8_eye 5 = .ok (.ifCond .ne 6, 3) := by decide +kernel
theorem dX8_eye_8 : decode cX8_eye 8 = .ok (.bipush (-101), 2) := by decide +kernel
theorem dX8_eye_10 : decode cX8_eye 10 = .ok (.ireturn, 1) := by decide +kernel
theorem dX8_eye_11 : decode cX8_eye 11 = .ok (.iload_n 2, 1) := by decide +kernel
theorem dX8_eye_12 : decode cX8_eye 12 = .ok (.i2l, 1) := by decide +kernel
theorem dX8_eye_13 : decode cX8_eye 13 = .ok (.lconst 0, 1) := by decide +kernel
theorem dX8_eye_14 : decode cX8_eye 14 = .ok (.lconst 1, 1) := by decide +kernel
theorem dX8_eye_15 : decode cX8_eye 15 = .ok (.invokestatic 46, 3) := by decide +kernel
theorem dX8_eye_18 : decode cX8_eye 18 = .ok (.ifCond .eq 10, 3) := by decide +kernel
theorem dX8_eye_21 : decode cX8_eye 21 = .ok (.iload_n 3, 1) := by decide +kernel
theorem dX8_eye_22 : decode cX8_eye 22 = .ok (.invokestatic 103, 3) := by decide +kernel
theorem dX8_eye_25 : decode cX8_eye 25 = .ok (.ifCond .ne 6, 3) := by decide +kernel
theorem dX8_eye_28 : decode cX8_eye 28 = .ok (.bipush (-102), 2) := by decide +kernel
theorem dX8_eye_30 : decode cX8_eye 30 = .ok (.ireturn, 1) := by decide +kernel
theorem dX8_eye_31 : decode cX8_eye 31 = .ok (.aload_n 0, 1) := by decide +kernel
theorem dX8_eye_32 : decode cX8_eye 32 = .ok (.getfield 16, 3) := by decide +kernel
theorem dX8_eye_35 : decode cX8_eye 35 = .ok (.bipush 10, 2) := by decide +kernel
theorem dX8_eye_37 : decode cX8_eye 37 = .ok (.iload_n 1, 1) := by decide +kernel
theorem dX8_eye_38 : decode cX8_eye 38 = .ok (.imul, 1) := by decide +kernel
theorem dX8_eye_39 : decode cX8_eye 39 = .ok (.iconst 1, 1) := by decide +kernel
theorem dX8_eye_40 : decode cX8_eye 40 = .ok (.iadd, 1) := by decide +kernel
theorem dX8_eye_41 : decode cX8_eye 41 = .ok (.iload_n 2, 1) := by decide +kernel
theorem dX8_eye_42 : decode cX8_eye 42 = .ok (.iadd, 1) := by decide +kernel
theorem dX8_eye_43 : decode cX8_eye 43 = .ok (.iaload, 1) := by decide +kernel
theorem dX8_eye_44 : decode cX8_eye 44 = .ok (.istore 4, 2) := by decide +kernel
theorem dX8_eye_46 : decode cX8_eye 46 = .ok (.aload_n 0, 1) := by decide +kernel
theorem dX8_eye_47 : decode cX8_eye 47 = .ok (.getfield 16, 3) := by decide +kernel
theorem dX8_eye_50 : decode cX8_eye 50 = .ok (.bipush 10, 2) := by decide +kernel
theorem dX8_eye_52 : decode cX8_eye 52 = .ok (.iload_n 1, 1) := by decide +kernel
theorem dX8_eye_53 : decode cX8_eye 53 = .ok (.imul, 1) := by decide +kernel
theorem dX8_eye_54 : decode cX8_eye 54 = .ok (.iconst 1, 1) := by decide +kernel
theorem dX8_eye_55 : decode cX8_eye 55 = .ok (.iadd, 1) := by decide +kernel
theorem dX8_eye_56 : decode cX8_eye 56 = .ok (.iload_n 2, 1) := by decide +kernel
theorem dX8_eye_57 : decode cX8_eye 57 = .ok (.iadd, 1) := by decide +kernel
theorem dX8_eye_58 : decode cX8_eye 58 = .ok (.iload_n 3, 1) := by decide +kernel
theorem dX8_eye_59 : decode cX8_eye 59 = .ok (.iastore, 1) := by decide +kernel
theorem dX8_eye_60 : decode cX8_eye 60 = .ok (.iload 4, 2) := by decide +kernel
theorem dX8_eye_62 : decode cX8_eye 62 = .ok (.ireturn, 1) := by decide +kernel
set_option maxRecDepth 20000 in
theorem ggX8_ink_X8_in : GoodIn wsX8_ink wsX8_in := goodIn_r _ [8] (by decide +kernel) (by decide +kernel)
set_option maxRecDepth 20000 in
theorem gX8_ink_X8_in : GoodIn wsX8_ink (va_wsS RX8 46 yX8_in wsX8_in) := goodIn_app (goodIn_of _ (by decide +kernel)) ggX8_ink_X8_in
theorem dX8_ink_0 : decode cX8_ink 0 = .ok (.iload_n 1, 1) := by decide +kernel
theorem dX8_ink_1 : decode cX8_ink 1 = .ok (.i2l, 1) := by decide +kernel
theorem dX8_ink_2 : decode cX8_ink 2 = .ok (.lconst 1, 1) := by decide +kernel
theorem dX8_ink_3 : decode cX8_ink 3 = .ok (.ldc2_w 44, 3) := by decide +kernel
theorem dX8_ink_6 : decode cX8_ink 6 = .ok (.invokestatic 46, 3) := by decide +kernel
theorem dX8_ink_9 : decode cX8_ink 9 = .ok (.ifCond .ne 6, 3) := by decide +kernel
theorem dX8_ink_12 : decode cX8_ink 12 = .ok (.bipush (-102), 2) := by decide +kernel
theorem dX8_ink_14 : decode cX8_ink 14 = .ok (.ireturn, 1) := by decide +kernel
theorem dX8_ink_15 : decode cX8_ink 15 = .ok (.aload_n 0, 1) := by decide +kernel
theorem dX8_ink_16 : decode cX8_ink 16 = .ok (.getfield 63, 3) := by decide +kernel
theorem dX8_ink_19 : decode cX8_ink 19 = .ok (.ifCond .ne 6, 3) := by decide +kernel
theorem dX8_ink_22 : decode cX8_ink 22 = .ok (.bipush (-103), 2) := by decide +kernel
theorem dX8_ink_24 : decode cX8_ink 24 = .ok (.ireturn, 1) := by decide +kernel
theorem dX8_ink_25 : decode cX8_ink 25 = .ok (.aload_n 0, 1) := by decide +kernel
theorem dX8_ink_26 : decode cX8_ink 26 = .ok (.getfield 74, 3) := by decide +kernel
theorem dX8_ink_29 : decode cX8_ink 29 = .ok (.iconst 5, 1) := by decide +kernel
theorem dX8_ink_30 : decode cX8_ink 30 = .ok (.if_icmp .ne 6, 3) := by decide +kernel
theorem dX8_ink_33 : decode cX8_ink 33 = .ok (.bipush (-104), 2) := by decide +kernel
theorem dX8_ink_35 : decode cX8_ink 35 = .ok (.ireturn, 1) := by decide +kernel
theorem dX8_ink_36 : decode cX8_ink 36 = .ok (.aload_n 0, 1) := by decide +kernel
theorem dX8_ink_37 : decode cX8_ink 37 = .ok (.getfield 19, 3) := by decide +kernel
theorem dX8_ink_40 : decode cX8_ink 40 = .ok (.aload_n 0, 1) := by decide +kernel
theorem dX8_ink_41 : decode cX8_ink 41 = .ok (.getfield 74, 3) := by decide +kernel
theorem dX8_ink_44 : decode cX8_ink 44 = .ok (.iload_n 1, 1) := by decide +kernel
theorem dX8_ink_45 : decode cX8_ink 45 = .ok (.iastore, 1) := by decide +kernel
theorem dX8_ink_46 : decode cX8_ink 46 = .ok (.aload_n 0, 1) := by decide +kernel
theorem dX8_ink_47 : decode cX8_ink 47 = .ok (.dup, 1) := by decide +kernel
theorem dX8_ink_48 : decode cX8_ink 48 = .ok (.getfield 74, 3) := by decide +kernel
theorem dX8_ink_51 : decode cX8_ink 51 = .ok (.iconst 1, 1) := by decide +kernel
theorem dX8_ink_52 : decode cX8_ink 52 = .ok (.iadd, 1) := by decide +kernel
theorem dX8_ink_53 : decode cX8_ink 53 = .ok (.putfield 74, 3) := by decide +kernel
theorem dX8_ink_56 : decode cX8_ink 56 = .ok (.aload_n 0, 1) := by decide +kernel
theorem dX8_ink_57 : decode cX8_ink 57 = .ok (.getfield 74, 3) := by decide +kernel
theorem dX8_ink_60 : decode cX8_ink 60 = .ok (.iconst 1, 1) := by decide +kernel
theorem dX8_ink_61 : decode cX8_ink 61 = .ok (.isub, 1) := by decide +kernel
theorem dX8_ink_62 : decode cX8_ink 62 = .ok (.ireturn, 1) := by decide +kernel
set_option maxRecDepth 20000 in
theorem ggX8_inkOf_X8_isInk : GoodIn wsX8_inkOf wsX8_isInk := goodIn_r _ [6, 7, 8, 9, 5, 10, 11, 12, 13, 14, 15, 16, 17, 18, 19, 20, 21, 22, 23, 24, 25, 26, 27, 28, 29, 30, 31, 32, 33, 34, 35] (by decide +kernel) (by decide +kernel)
set_option maxRecDepth 20000 in
theorem gX8_inkOf_X8_isInk : GoodIn wsX8_inkOf (wsV RX8 91 RX8 yX8_isInk wsX8_isInk) := goodIn_app (goodIn_of _ (by decide +kernel)) ggX8_inkOf_X8_isInk
theorem dX8_inkOf_0 : decode cX8_inkOf 0 = .ok (.aload_n 0, 1) := by decide +kernel
theorem dX8_inkOf_1 : decode cX8_inkOf 1 = .ok (.iload_n 1, 1) := by decide +kernel
theorem dX8_inkOf_2 : decode cX8_inkOf 2 = .ok (.invokevirtual 91, 3) := by decide +kernel
theorem dX8_inkOf_5 : decode cX8_inkOf 5 = .ok (.ifCond .eq 12, 3) := by decide +kernel
theorem dX8_inkOf_8 : decode cX8_inkOf 8 = .ok (.aload_n 0, 1) := by decide +kernel
theorem dX8_inkOf_9 : decode cX8_inkOf 9 = .ok (.getfield 19, 3) := by decide +kernel
theorem dX8_inkOf_12 : decode cX8_inkOf 12 = .ok (.iload_n 1, 1) := by decide +kernel
theorem dX8_inkOf_13 : decode cX8_inkOf 13 = .ok (.iaload, 1) := by decide +kernel
theorem dX8_inkOf_14 : decode cX8_inkOf 14 = .ok (.goto 5, 3) := by decide +kernel
theorem dX8_inkOf_17 : decode cX8_inkOf 17 = .ok (.bipush (-101), 2) := by decide +kernel
theorem dX8_inkOf_19 : decode cX8_inkOf 19 = .ok (.ireturn, 1) := by decide +kernel
theorem dX8_wordMany_0 : decode cX8_wordMany 0 = .ok (.iconst 0, 1) := by decide +kernel
theorem dX8_wordMany_1 : decode cX8_wordMany 1 = .ok (.istore_n 1, 1) := by decide +kernel
theorem dX8_wordMany_2 : decode cX8_wordMany 2 = .ok (.iconst 0, 1) := by decide +kernel
theorem dX8_wordMany_3 : decode cX8_wordMany 3 = .ok (.istore_n 2, 1) := by decide +kernel
theorem dX8_wordMany_4 : decode cX8_wordMany 4 = .ok (.iload_n 2, 1) := by decide +kernel
theorem dX8_wordMany_5 : decode cX8_wordMany 5 = .ok (.aload_n 0, 1) := by decide +kernel
theorem dX8_wordMany_6 : decode cX8_wordMany 6 = .ok (.getfield 71, 3) := by decide +kernel
theorem dX8_wordMany_9 : decode cX8_wordMany 9 = .ok (.if_icmp .ge 23, 3) := by decide +kernel
theorem dX8_wordMany_12 : decode cX8_wordMany 12 = .ok (.iload_n 1, 1) := by decide +kernel
theorem dX8_wordMany_13 : decode cX8_wordMany 13 = .ok (.aload_n 0, 1) := by decide +kernel
theorem dX8_wordMany_14 : decode cX8_wordMany 14 = .ok (.getfield 16, 3) := by decide +kernel
theorem dX8_wordMany_17 : decode cX8_wordMany 17 = .ok (.bipush 10, 2) := by decide +kernel
theorem dX8_wordMany_19 : decode cX8_wordMany 19 = .ok (.iload_n 2, 1) := by decide +kernel
theorem dX8_wordMany_20 : decode cX8_wordMany 20 = .ok (.imul, 1) := by decide +kernel
theorem dX8_wordMany_21 : decode cX8_wordMany 21 = .ok (.iconst 3, 1) := by decide +kernel
theorem dX8_wordMany_22 : decode cX8_wordMany 22 = .ok (.iadd, 1) := by decide +kernel
theorem dX8_wordMany_23 : decode cX8_wordMany 23 = .ok (.iaload, 1) := by decide +kernel
theorem dX8_wordMany_24 : decode cX8_wordMany 24 = .ok (.iadd, 1) := by decide +kernel
theorem dX8_wordMany_25 : decode cX8_wordMany 25 = .ok (.istore_n 1, 1) := by decide +kernel
theorem dX8_wordMany_26 : decode cX8_wordMany 26 = .ok (.iinc 2 1, 3) := by decide +kernel
theorem dX8_wordMany_29 : decode cX8_wordMany 29 = .ok (.goto (-25), 3) := by decide +kernel
theorem dX8_wordMany_32 : decode cX8_wordMany 32 = .ok (.iload_n 1, 1) := by decide +kernel
theorem dX8_wordMany_33 : decode cX8_wordMany 33 = .ok (.ireturn, 1) := by decide +kernel
set_option maxRecDepth 20000 in
theorem ggX8_word_X8_isPerson : GoodIn wsX8_word wsX8_isPerson := goodIn_r _ [8, 9, 10, 11, 7, 12, 27, 28, 29, 30, 31, 32, 33, 34, 35, 36, 37, 38, 39, 40, 41, 42, 43, 44, 45, 46, 47, 48, 49, 50, 51] (by decide +kernel) (by decide +kernel)
set_option maxRecDepth 20000 in
theorem gX8_word_X8_isPerson : GoodIn wsX8_word (wsV RX8 124 RX8 yX8_isPerson wsX8_isPerson) := goodIn_app (goodIn_of _ (by decide +kernel)) ggX8_word_X8_isPerson
set_option maxRecDepth 20000 in
theorem ggX8_word_X8_isSix : GoodIn wsX8_word wsX8_isSix := goodIn_r _ [16, 3, 17, 18, 19, 7, 20, 2, 21, 22, 10, 11, 12, 27, 28, 29, 30, 31, 32, 33, 34, 35, 36, 37, 38, 39, 40, 41, 42, 43, 44, 45, 46, 47, 48, 49, 50, 51] (by decide +kernel) (by decide +kernel)
set_option maxRecDepth 20000 in
theorem gX8_word_X8_isSix : GoodIn wsX8_word (wsV RX8 67 RX8 yX8_isSix wsX8_isSix) := goodIn_app (goodIn_of _ (by decide +kernel)) ggX8_word_X8_isSix
set_option maxRecDepth 20000 in
theorem ggX8_word_X8_wordMany : GoodIn wsX8_word wsX8_wordMany := goodIn_r _ [26, 9, 1, 27, 28, 29, 30, 31, 32, 33, 34, 35, 36, 37, 38, 39, 40, 41, 42, 43, 44, 45, 46, 47, 48, 49, 50, 51] (by decide +kernel) (by decide +kernel)
set_option maxRecDepth 20000 in
theorem gX8_word_X8_wordMany : GoodIn wsX8_word (wsV RX8 130 RX8 yX8_wordMany wsX8_wordMany) := goodIn_app (goodIn_of _ (by decide +kernel)) ggX8_word_X8_wordMany
theorem dX8_word_0 : decode cX8_word 0 = .ok (.aload_n 0, 1) := by decide +kernel
theorem dX8_word_1 : decode cX8_word 1 = .ok (.iload_n 1, 1) := by decide +kernel
theorem dX8_word_2 : decode cX8_word 2 = .ok (.invokevirtual 124, 3) := by decide +kernel
theorem dX8_word_5 : decode cX8_word 5 = .ok (.ifCond .ne 6, 3) := by decide +kernel
theorem dX8_word_8 : decode cX8_word 8 = .ok (.bipush (-101), 2) := by decide +kernel
theorem dX8_word_10 : decode cX8_word 10 = .ok (.ireturn, 1) := by decide +kernel
theorem dX8_word_11 : decode cX8_word 11 = .ok (.aload_n 0, 1) := by decide +kernel
theorem dX8_word_12 : decode cX8_word 12 = .ok (.invokevirtual 67, 3) := by decide +kernel
theorem dX8_word_15 : decode cX8_word 15 = .ok (.ifCond .ne 6, 3) := by decide +kernel
theorem dX8_word_18 : decode cX8_word 18 = .ok (.bipush (-103), 2) := by decide +kernel
theorem dX8_word_20 : decode cX8_word 20 = .ok (.ireturn, 1) := by decide +kernel
theorem dX8_word_21 : decode cX8_word 21 = .ok (.iconst 0, 1) := by decide +kernel
theorem dX8_word_22 : decode cX8_word 22 = .ok (.istore_n 2, 1) := by decide +kernel
theorem dX8_word_23 : decode cX8_word 23 = .ok (.iload_n 2, 1) := by decide +kernel
theorem dX8_word_24 : decode cX8_word 24 = .ok (.bipush 6, 2) := by decide +kernel
theorem dX8_word_26 : decode cX8_word 26 = .ok (.if_icmp .ge 31, 3) := by decide +kernel
theorem dX8_word_29 : decode cX8_word 29 = .ok (.aload_n 0, 1) := by decide +kernel
theorem dX8_word_30 : decode cX8_word 30 = .ok (.getfield 16, 3) := by decide +kernel
theorem dX8_word_33 : decode cX8_word 33 = .ok (.bipush 10, 2) := by decide +kernel
theorem dX8_word_35 : decode cX8_word 35 = .ok (.iload_n 1, 1) := by decide +kernel
theorem dX8_word_36 : decode cX8_word 36 = .ok (.imul, 1) := by decide +kernel
theorem dX8_word_37 : decode cX8_word 37 = .ok (.iconst 4, 1) := by decide +kernel
theorem dX8_word_38 : decode cX8_word 38 = .ok (.iadd, 1) := by decide +kernel
theorem dX8_word_39 : decode cX8_word 39 = .ok (.iload_n 2, 1) := by decide +kernel
theorem dX8_word_40 : decode cX8_word 40 = .ok (.iadd, 1) := by decide +kernel
theorem dX8_word_41 : decode cX8_word 41 = .ok (.aload_n 0, 1) := by decide +kernel
theorem dX8_word_42 : decode cX8_word 42 = .ok (.getfield 7, 3) := by decide +kernel
theorem dX8_word_45 : decode cX8_word 45 = .ok (.iload_n 2, 1) := by decide +kernel
theorem dX8_word_46 : decode cX8_word 46 = .ok (.iaload, 1) := by decide +kernel
theorem dX8_word_47 : decode cX8_word 47 = .ok (.bipush 48, 2) := by decide +kernel
theorem dX8_word_49 : decode cX8_word 49 = .ok (.isub, 1) := by decide +kernel
theorem dX8_word_50 : decode cX8_word 50 = .ok (.iastore, 1) := by decide +kernel
theorem dX8_word_51 : decode cX8_word 51 = .ok (.iinc 2 1, 3) := by decide +kernel
theorem dX8_word_54 : decode cX8_word 54 = .ok (.goto (-31), 3) := by decide +kernel
theorem dX8_word_57 : decode cX8_word 57 = .ok (.aload_n 0, 1) := by decide +kernel
theorem dX8_word_58 : decode cX8_word 58 = .ok (.getfield 16, 3) := by decide +kernel
theorem dX8_word_61 : decode cX8_word 61 = .ok (.bipush 10, 2) := by decide +kernel
theorem dX8_word_63 : decode cX8_word 63 = .ok (.iload_n 1, 1) := by decide +kernel
theorem dX8_word_64 : decode cX8_word 64 = .ok (.imul, 1) := by decide +kernel
theorem dX8_word_65 : decode cX8_word 65 = .ok (.iconst 3, 1) := by decide +kernel
theorem dX8_word_66 : decode cX8_word 66 = .ok (.iadd, 1) := by decide +kernel
theorem dX8_word_67 : decode cX8_word 67 = .ok (.iconst 1, 1) := by decide +kernel
theorem dX8_word_68 : decode cX8_word 68 = .ok (.iastore, 1) := by decide +kernel
theorem dX8_word_69 : decode cX8_word 69 = .ok (.aload_n 0, 1) := by decide +kernel
theorem dX8_word_70 : decode cX8_word 70 = .ok (.iconst 0, 1) := by decide +kernel
theorem dX8_word_71 : decode cX8_word 71 = .ok (.putfield 52, 3) := by decide +kernel
theorem dX8_word_74 : decode cX8_word 74 = .ok (.aload_n 0, 1) := by decide +kernel
theorem dX8_word_75 : decode cX8_word 75 = .ok (.invokevirtual 130, 3) := by decide +kernel
theorem dX8_word_78 : decode cX8_word 78 = .ok (.ireturn, 1) := by decide +kernel
set_option maxRecDepth 20000 in
theorem ggX8_unword_X8_isPerson : GoodIn wsX8_unword wsX8_isPerson := goodIn_r _ [6, 7, 8, 9, 5, 10, 11, 12, 13, 14, 15, 16, 17, 18, 19, 20, 21, 22, 23, 24, 25, 26, 27, 28, 29, 30, 31, 32, 33, 34, 35] (by decide +kernel) (by decide +kernel)
set_option maxRecDepth 20000 in
theorem gX8_unword_X8_isPerson : GoodIn wsX8_unword (wsV RX8 124 RX8 yX8_isPerson wsX8_isPerson) := goodIn_app (goodIn_of _ (by decide +kernel)) ggX8_unword_X8_isPerson
theorem dX8_unword_0 : decode cX8_unword 0 = .ok (.aload_n 0, 1) := by decide +kernel
theorem dX8_unword_1 : decode cX8_unword 1 = .ok (.iload_n 1, 1) := by decide +kernel
theorem dX8_unword_2 : decode cX8_unword 2 = .ok (.invokevirtual 124, 3) := by decide +kernel
theorem dX8_unword_5 : decode cX8_unword 5 = .ok (.ifCond .ne 6, 3) := by decide +kernel
theorem dX8_unword_8 : decode cX8_unword 8 = .ok (.bipush (-101), 2) := by decide +kernel
theorem dX8_unword_10 : decode cX8_unword 10 = .ok (.ireturn, 1) := by decide +kernel
theorem dX8_unword_11 : decode cX8_unword 11 = .ok (.aload_n 0, 1) := by decide +kernel
theorem dX8_unword_12 : decode cX8_unword 12 = .ok (.getfield 16, 3) := by decide +kernel
theorem dX8_unword_15 : decode cX8_unword 15 = .ok (.bipush 10, 2) := by decide +kernel
theorem dX8_unword_17 : decode cX8_unword 17 = .ok (.iload_n 1, 1) := by decide +kernel
theorem dX8_unword_18 : decode cX8_unword 18 = .ok (.imul, 1) := by decide +kernel
theorem dX8_unword_19 : decode cX8_unword 19 = .ok (.iconst 3, 1) := by decide +kernel
theorem dX8_unword_20 : decode cX8_unword 20 = .ok (.iadd, 1) := by decide +kernel
theorem dX8_unword_21 : decode cX8_unword 21 = .ok (.iaload, 1) := by decide +kernel
theorem dX8_unword_22 : decode cX8_unword 22 = .ok (.istore_n 2, 1) := by decide +kernel
theorem dX8_unword_23 : decode cX8_unword 23 = .ok (.aload_n 0, 1) := by decide +kernel
theorem dX8_unword_24 : decode cX8_unword 24 = .ok (.getfield 16, 3) := by decide +kernel
theorem dX8_unword_27 : decode cX8_unword 27 = .ok (.bipush 10, 2) := by decide +kernel
theorem dX8_unword_29 : decode cX8_unword 29 = .ok (.iload_n 1, 1) := by decide +kernel
theorem dX8_unword_30 : decode cX8_unword 30 = .ok (.imul, 1) := by decide +kernel
theorem dX8_unword_31 : decode cX8_unword 31 = .ok (.iconst 3, 1) := by decide +kernel
theorem dX8_unword_32 : decode cX8_unword 32 = .ok (.iadd, 1) := by decide +kernel
theorem dX8_unword_33 : decode cX8_unword 33 = .ok (.iconst 0, 1) := by decide +kernel
theorem dX8_unword_34 : decode cX8_unword 34 = .ok (.iastore, 1) := by decide +kernel
theorem dX8_unword_35 : decode cX8_unword 35 = .ok (.iload_n 2, 1) := by decide +kernel
theorem dX8_unword_36 : decode cX8_unword 36 = .ok (.ireturn, 1) := by decide +kernel
set_option maxRecDepth 20000 in
theorem ggX8_differOf_X8_seesOf : GoodIn wsX8_differOf wsX8_seesOf := goodIn_r _ [6, 7, 8, 9, 5, 10, 11, 12, 13, 14, 15, 16, 17, 18, 19, 20, 21, 22, 23, 24, 25, 26, 27, 28, 29, 30, 31, 32, 33, 34, 35] (by decide +kernel) (by decide +kernel)
set_option maxRecDepth 20000 in
theorem gX8_differOf_X8_seesOf : GoodIn wsX8_differOf (wsV RX8 106 RX8 yX8_seesOf wsX8_seesOf) := goodIn_app (goodIn_of _ (by decide +kernel)) ggX8_differOf_X8_seesOf
theorem dX8_differOf_0 : decode cX8_differOf 0 = .ok (.iconst 0, 1) := by decide +kernel
theorem dX8_differOf_1 : decode cX8_differOf 1 = .ok (.istore_n 3, 1) := by decide +kernel
theorem dX8_differOf_2 : decode cX8_differOf 2 = .ok (.iload_n 3, 1) := by decide +kernel
theorem dX8_differOf_3 : decode cX8_differOf 3 = .ok (.bipush 6, 2) := by decide +kernel
theorem dX8_differOf_5 : decode cX8_differOf 5 = .ok (.if_icmp .ge 36, 3) := by decide +kernel
theorem dX8_differOf_8 : decode cX8_differOf 8 = .ok (.aload_n 0, 1) := by decide +kernel
theorem dX8_differOf_9 : decode cX8_differOf 9 = .ok (.iload_n 1, 1) := by decide +kernel
theorem dX8_differOf_10 : decode cX8_differOf 10 = .ok (.aload_n 0, 1) := by decide +kernel
theorem dX8_differOf_11 : decode cX8_differOf 11 = .ok (.getfield 13, 3) := by decide +kernel
theorem dX8_differOf_14 : decode cX8_differOf 14 = .ok (.iload_n 3, 1) := by decide +kernel
theorem dX8_differOf_15 : decode cX8_differOf 15 = .ok (.iaload, 1) := by decide +kernel
theorem dX8_differOf_16 : decode cX8_differOf 16 = .ok (.invokevirtual 106, 3) := by decide +kernel
theorem dX8_differOf_19 : decode cX8_differOf 19 = .ok (.aload_n 0, 1) := by decide +kernel
theorem dX8_differOf_20 : decode cX8_differOf 20 = .ok (.iload_n 2, 1) := by decide +kernel
theorem dX8_differOf_21 : decode cX8_differOf 21 = .ok (.aload_n 0, 1) := by decide +kernel
theorem dX8_differOf_22 : decode cX8_differOf 22 = .ok (.getfield 13, 3) := by decide +kernel
theorem dX8_differOf_25 : decode cX8_differOf 25 = .ok (.iload_n 3, 1) := by decide +kernel
theorem dX8_differOf_26 : decode cX8_differOf 26 = .ok (.iaload, 1) := by decide +kernel
theorem dX8_differOf_27 : decode cX8_differOf 27 = .ok (.invokevirtual 106, 3) := by decide +kernel
theorem dX8_differOf_30 : decode cX8_differOf 30 = .ok (.if_icmp .eq 5, 3) := by decide +kernel
theorem dX8_differOf_33 : decode cX8_differOf 33 = .ok (.iload_n 3, 1) := by decide +kernel
theorem dX8_differOf_34 : decode cX8_differOf 34 = .ok (.ireturn, 1) := by decide +kernel
theorem dX8_differOf_35 : decode cX8_differOf 35 = .ok (.iinc 3 1, 3) := by decide +kernel
theorem dX8_differOf_38 : decode cX8_differOf 38 = .ok (.goto (-36), 3) := by decide +kernel
theorem dX8_differOf_41 : decode cX8_differOf 41 = .ok (.iconst (-1), 1) := by decide +kernel
theorem dX8_differOf_42 : decode cX8_differOf 42 = .ok (.ireturn, 1) := by decide +kernel
set_option maxRecDepth 20000 in
theorem ggX8_differ_X8_isPerson : GoodIn wsX8_differ wsX8_isPerson := goodIn_r _ [5, 6, 7, 8, 4, 9, 23, 24, 25, 26, 27, 28, 29, 30, 31, 32, 33, 34, 35, 36, 37, 38, 39, 40, 41, 42, 43, 44, 45, 46, 47] (by decide +kernel) (by decide +kernel)
set_option maxRecDepth 20000 in
theorem gX8_differ_X8_isPerson : GoodIn wsX8_differ (wsV RX8 124 RX8 yX8_isPerson wsX8_isPerson) := goodIn_app (goodIn_of _ (by decide +kernel)) ggX8_differ_X8_isPerson
set_option maxRecDepth 20000 in
theorem ggX8_differ_X8_differOf : GoodIn wsX8_differ wsX8_differOf := goodIn_r _ [13, 14, 15, 16, 17, 4, 18, 19, 20, 21, 22, 23, 24, 25, 26, 27, 28, 29, 30, 31, 32, 33, 34, 35, 36, 37, 38, 39, 40, 41, 42, 43, 44, 45, 46, 47] (by decide +kernel) (by decide +kernel)
set_option maxRecDepth 20000 in
theorem gX8_differ_X8_differOf : GoodIn wsX8_differ (wsV RX8 133 RX8 yX8_differOf wsX8_differOf) := goodIn_app (goodIn_of _ (by decide +kernel)) ggX8_differ_X8_differOf
theorem dX8_differ_0 : decode cX8_differ 0 = .ok (.aload_n 0, 1) := by decide +kernel
theorem dX8_differ_1 : decode cX8_differ 1 = .ok (.iload_n 1, 1) := by decide +kernel
theorem dX8_differ_2 : decode cX8_differ 2 = .ok (.invokevirtual 124, 3) := by decide +kernel
theorem dX8_differ_5 : decode cX8_differ 5 = .ok (.ifCond .eq 20, 3) := by decide +kernel
theorem dX8_differ_8 : decode cX8_differ 8 = .ok (.aload_n 0, 1) := by decide +kernel
theorem dX8_differ_9 : decode cX8_differ 9 = .ok (.iload_n 2, 1) := by decide +kernel
theorem dX8_differ_10 : decode cX8_differ 10 = .ok (.invokevirtual 124, 3) := by decide +kernel
theorem dX8_differ_13 : decode cX8_differ 13 = .ok (.ifCond .eq 12, 3) := by decide +kernel
theorem dX8_differ_16 : decode cX8_differ 16 = .ok (.aload_n 0, 1) := by decide +kernel
theorem dX8_differ_17 : decode cX8_differ 17 = .ok (.iload_n 1, 1) := by decide +kernel
theorem dX8_differ_18 : decode cX8_differ 18 = .ok (.iload_n 2, 1) := by decide +kernel
theorem dX8_differ_19 : decode cX8_differ 19 = .ok (.invokevirtual 133, 3) := by decide +kernel
theorem dX8_differ_22 : decode cX8_differ 22 = .ok (.goto 5, 3) := by decide +kernel
theorem dX8_differ_25 : decode cX8_differ 25 = .ok (.bipush (-101), 2) := by decide +kernel
theorem dX8_differ_27 : decode cX8_differ 27 = .ok (.ireturn, 1) := by decide +kernel
set_option maxRecDepth 20000 in
theorem ggX8_alikeOf_X8_seesOf : GoodIn wsX8_alikeOf wsX8_seesOf := goodIn_r _ [5, 6, 7, 8, 4, 9, 10, 11, 12, 13, 14, 15, 16, 17, 18, 19, 20, 21, 22, 23, 24, 25, 26, 27, 28, 29, 30, 31, 32, 33, 34] (by decide +kernel) (by decide +kernel)
set_option maxRecDepth 20000 in
theorem gX8_alikeOf_X8_seesOf : GoodIn wsX8_alikeOf (wsV RX8 106 RX8 yX8_seesOf wsX8_seesOf) := goodIn_app (goodIn_of _ (by decide +kernel)) ggX8_alikeOf_X8_seesOf
theorem dX8_alikeOf_0 : decode cX8_alikeOf 0 = .ok (.iconst 0, 1) := by decide +kernel
theorem dX8_alikeOf_1 : decode cX8_alikeOf 1 = .ok (.istore_n 3, 1) := by decide +kernel
theorem dX8_alikeOf_2 : decode cX8_alikeOf 2 = .ok (.iconst 0, 1) := by decide +kernel
theorem dX8_alikeOf_3 : decode cX8_alikeOf 3 = .ok (.istore 4, 2) := by decide +kernel
theorem dX8_alikeOf_5 : decode cX8_alikeOf 5 = .ok (.iload 4, 2) := by decide +kernel
theorem dX8_alikeOf_7 : decode cX8_alikeOf 7 = .ok (.bipush 8, 2) := by decide +kernel
theorem dX8_alikeOf_9 : decode cX8_alikeOf 9 = .ok (.if_icmp .ge 34, 3) := by decide +kernel
theorem dX8_alikeOf_12 : decode cX8_alikeOf 12 = .ok (.iload_n 3, 1) := by decide +kernel
theorem dX8_alikeOf_13 : decode cX8_alikeOf 13 = .ok (.aload_n 0, 1) := by decide +kernel
theorem dX8_alikeOf_14 : decode cX8_alikeOf 14 = .ok (.iload_n 1, 1) := by decide +kernel
theorem dX8_alikeOf_15 : decode cX8_alikeOf 15 = .ok (.iload 4, 2) := by decide +kernel
theorem dX8_alikeOf_17 : decode cX8_alikeOf 17 = .ok (.invokevirtual 106, 3) := by decide +kernel
theorem dX8_alikeOf_20 : decode cX8_alikeOf 20 = .ok (.aload_n 0, 1) := by decide +kernel
theorem dX8_alikeOf_21 : decode cX8_alikeOf 21 = .ok (.iload_n 2, 1) := by decide +kernel
theorem dX8_alikeOf_22 : decode cX8_alikeOf 22 = .ok (.iload 4, 2) := by decide +kernel
theorem dX8_alikeOf_24 : decode cX8_alikeOf 24 = .ok (.invokevirtual 106, 3) := by decide +kernel
theorem dX8_alikeOf_27 : decode cX8_alikeOf 27 = .ok (.if_icmp .ne 7, 3) := by decide +kernel
theorem dX8_alikeOf_30 : decode cX8_alikeOf 30 = .ok (.iconst 1, 1) := by decide +kernel
theorem dX8_alikeOf_31 : decode cX8_alikeOf 31 = .ok (.goto 4, 3) := by decide +kernel
theorem dX8_alikeOf_34 : decode cX8_alikeOf 34 = .ok (.iconst 0, 1) := by decide +kernel
theorem dX8_alikeOf_35 : decode cX8_alikeOf 35 = .ok (.iadd, 1) := by decide +kernel
theorem dX8_alikeOf_36 : decode cX8_alikeOf 36 = .ok (.istore_n 3, 1) := by decide +kernel
theorem dX8_alikeOf_37 : decode cX8_alikeOf 37 = .ok (.iinc 4 1, 3) := by decide +kernel
theorem dX8_alikeOf_40 : decode cX8_alikeOf 40 = .ok (.goto (-35), 3) := by decide +kernel
theorem dX8_alikeOf_43 : decode cX8_alikeOf 43 = .ok (.iload_n 3, 1) := by decide +kernel
theorem dX8_alikeOf_44 : decode cX8_alikeOf 44 = .ok (.ireturn, 1) := by decide +kernel
set_option maxRecDepth 20000 in
theorem ggX8_alike_X8_isPerson : GoodIn wsX8_alike wsX8_isPerson := goodIn_r _ [5, 6, 7, 8, 4, 9, 22, 23, 24, 25, 26, 27, 28, 29, 30, 31, 32, 33, 34, 35, 36, 37, 38, 39, 40, 41, 42, 43, 44, 45, 46] (by decide +kernel) (by decide +kernel)
set_option maxRecDepth 20000 in
theorem gX8_alike_X8_isPerson : GoodIn wsX8_alike (wsV RX8 124 RX8 yX8_isPerson wsX8_isPerson) := goodIn_app (goodIn_of _ (by decide +kernel)) ggX8_alike_X8_isPerson
set_option maxRecDepth 20000 in
theorem ggX8_alike_X8_alikeOf : GoodIn wsX8_alike wsX8_alikeOf := goodIn_r _ [13, 14, 15, 16, 4, 17, 18, 19, 20, 21, 22, 23, 24, 25, 26, 27, 28, 29, 30, 31, 32, 33, 34, 35, 36, 37, 38, 39, 40, 41, 42, 43, 44, 45, 46] (by decide +kernel) (by decide +kernel)
set_option maxRecDepth 20000 in
theorem gX8_alike_X8_alikeOf : GoodIn wsX8_alike (wsV RX8 136 RX8 yX8_alikeOf wsX8_alikeOf) := goodIn_app (goodIn_of _ (by decide +kernel)) ggX8_alike_X8_alikeOf
theorem dX8_alike_0 : decode cX8_alike 0 = .ok (.aload_n 0, 1) := by decide +kernel
theorem dX8_alike_1 : decode cX8_alike 1 = .ok (.iload_n 1, 1) := by decide +kernel
theorem dX8_alike_2 : decode cX8_alike 2 = .ok (.invokevirtual 124, 3) := by decide +kernel
theorem dX8_alike_5 : decode cX8_alike 5 = .ok (.ifCond .eq 20, 3) := by decide +kernel
theorem dX8_alike_8 : decode cX8_alike 8 = .ok (.aload_n 0, 1) := by decide +kernel
theorem dX8_alike_9 : decode cX8_alike 9 = .ok (.iload_n 2, 1) := by decide +kernel
theorem dX8_alike_10 : decode cX8_alike 10 = .ok (.invokevirtual 124, 3) := by decide +kernel
theorem dX8_alike_13 : decode cX8_alike 13 = .ok (.ifCond .eq 12, 3) := by decide +kernel
theorem dX8_alike_16 : decode cX8_alike 16 = .ok (.aload_n 0, 1) := by decide +kernel
theorem dX8_alike_17 : decode cX8_alike 17 = .ok (.iload_n 1, 1) := by decide +kernel
theorem dX8_alike_18 : decode cX8_alike 18 = .ok (.iload_n 2, 1) := by decide +kernel
theorem dX8_alike_19 : decode cX8_alike 19 = .ok (.invokevirtual 136, 3) := by decide +kernel
theorem dX8_alike_22 : decode cX8_alike 22 = .ok (.goto 5, 3) := by decide +kernel
theorem dX8_alike_25 : decode cX8_alike 25 = .ok (.bipush (-101), 2) := by decide +kernel
theorem dX8_alike_27 : decode cX8_alike 27 = .ok (.ireturn, 1) := by decide +kernel
set_option maxRecDepth 20000 in
theorem ggX8_isReadAt_X8_seesOf : GoodIn wsX8_isReadAt wsX8_seesOf := goodIn_r _ [7, 2, 8, 9, 6, 10, 11, 12, 13, 14, 15, 16, 17, 18, 19, 20, 21, 22, 23, 24, 25, 26, 27, 28, 29, 30, 31, 32, 33, 34, 35] (by decide +kernel) (by decide +kernel)
set_option maxRecDepth 20000 in
theorem gX8_isReadAt_X8_seesOf : GoodIn wsX8_isReadAt (wsV RX8 106 RX8 yX8_seesOf wsX8_seesOf) := goodIn_app (goodIn_of _ (by decide +kernel)) ggX8_isReadAt_X8_seesOf
theorem dX8_isReadAt_0 : decode cX8_isReadAt 0 = .ok (.iconst 1, 1) := by decide +kernel
theorem dX8_isReadAt_1 : decode cX8_isReadAt 1 = .ok (.istore_n 3, 1) := by decide +kernel
theorem dX8_isReadAt_2 : decode cX8_isReadAt 2 = .ok (.iconst 0, 1) := by decide +kernel
theorem dX8_isReadAt_3 : decode cX8_isReadAt 3 = .ok (.istore 4, 2) := by decide +kernel
theorem dX8_isReadAt_5 : decode cX8_isReadAt 5 = .ok (.iload 4, 2) := by decide +kernel
theorem dX8_isReadAt_7 : decode cX8_isReadAt 7 = .ok (.aload_n 0, 1) := by decide +kernel
theorem dX8_isReadAt_8 : decode cX8_isReadAt 8 = .ok (.getfield 71, 3) := by decide +kernel
theorem dX8_isReadAt_11 : decode cX8_isReadAt 11 = .ok (.if_icmp .ge 58, 3) := by decide +kernel
theorem dX8_isReadAt_14 : decode cX8_isReadAt 14 = .ok (.iload_n 3, 1) := by decide +kernel
theorem dX8_isReadAt_15 : decode cX8_isReadAt 15 = .ok (.ifCond .eq 46, 3) := by decide +kernel
theorem dX8_isReadAt_18 : decode cX8_isReadAt 18 = .ok (.aload_n 0, 1) := by decide +kernel
theorem dX8_isReadAt_19 : decode cX8_isReadAt 19 = .ok (.getfield 16, 3) := by decide +kernel
theorem dX8_isReadAt_22 : decode cX8_isReadAt 22 = .ok (.bipush 10, 2) := by decide +kernel
theorem dX8_isReadAt_24 : decode cX8_isReadAt 24 = .ok (.iload 4, 2) := by decide +kernel
theorem dX8_isReadAt_26 : decode cX8_isReadAt 26 = .ok (.imul, 1) := by decide +kernel
theorem dX8_isReadAt_27 : decode cX8_isReadAt 27 = .ok (.iconst 3, 1) := by decide +kernel
theorem dX8_isReadAt_28 : decode cX8_isReadAt 28 = .ok (.iadd, 1) := by decide +kernel
theorem dX8_isReadAt_29 : decode cX8_isReadAt 29 = .ok (.iaload, 1) := by decide +kernel
theorem dX8_isReadAt_30 : decode cX8_isReadAt 30 = .ok (.ifCond .eq 27, 3) := by decide +kernel
theorem dX8_isReadAt_33 : decode cX8_isReadAt 33 = .ok (.aload_n 0, 1) := by decide +kernel
theorem dX8_isReadAt_34 : decode cX8_isReadAt 34 = .ok (.iload 4, 2) := by decide +kernel
theorem dX8_isReadAt_36 : decode cX8_isReadAt 36 = .ok (.iload_n 2, 1) := by decide +kernel
theorem dX8_isReadAt_37 : decode cX8_isReadAt 37 = .ok (.invokevirtual 106, 3) := by decide +kernel
theorem dX8_isReadAt_40 : decode cX8_isReadAt 40 = .ok (.aload_n 0, 1) := by decide +kernel
theorem dX8_isReadAt_41 : decode cX8_isReadAt 41 = .ok (.getfield 16, 3) := by decide +kernel
theorem dX8_isReadAt_44 : decode cX8_isReadAt 44 = .ok (.bipush 10, 2) := by decide +kernel
theorem dX8_isReadAt_46 : decode cX8_isReadAt 46 = .ok (.iload 4, 2) := by decide +kernel
theorem dX8_isReadAt_48 : decode cX8_isReadAt 48 = .ok (.imul, 1) := by decide +kernel
theorem dX8_isReadAt_49 : decode cX8_isReadAt 49 = .ok (.iconst 4, 1) := by decide +kernel
theorem dX8_isReadAt_50 : decode cX8_isReadAt 50 = .ok (.iadd, 1) := by decide +kernel
theorem dX8_isReadAt_51 : decode cX8_isReadAt 51 = .ok (.iload_n 1, 1) := by decide +kernel
theorem dX8_isReadAt_52 : decode cX8_isReadAt 52 = .ok (.iadd, 1) := by decide +kernel
theorem dX8_isReadAt_53 : decode cX8_isReadAt 53 = .ok (.iaload, 1) := by decide +kernel
theorem dX8_isReadAt_54 : decode cX8_isReadAt 54 = .ok (.if_icmp .ne 7, 3) := by decide +kernel
theorem dX8_isReadAt_57 : decode cX8_isReadAt 57 = .ok (.iconst 1, 1) := by decide +kernel
theorem dX8_isReadAt_58 : decode cX8_isReadAt 58 = .ok (.goto 4, 3) := by decide +kernel
theorem dX8_isReadAt_61 : decode cX8_isReadAt 61 = .ok (.iconst 0, 1) := by decide +kernel
theorem dX8_isReadAt_62 : decode cX8_isReadAt 62 = .ok (.istore_n 3, 1) := by decide +kernel
theorem dX8_isReadAt_63 : decode cX8_isReadAt 63 = .ok (.iinc 4 1, 3) := by decide +kernel
theorem dX8_isReadAt_66 : decode cX8_isReadAt 66 = .ok (.goto (-61), 3) := by decide +kernel
theorem dX8_isReadAt_69 : decode cX8_isReadAt 69 = .ok (.iload_n 3, 1) := by decide +kernel
theorem dX8_isReadAt_70 : decode cX8_isReadAt 70 = .ok (.ireturn, 1) := by decide +kernel
set_option maxRecDepth 20000 in
theorem ggX8_mayBeRead_X8_isReadAt : GoodIn wsX8_mayBeRead wsX8_isReadAt := goodIn_r _ [8, 9, 10, 11, 12, 13, 7, 14, 15, 16, 17, 18, 19, 20, 21, 22, 23, 24, 25, 26, 27, 28, 29, 30, 31, 32, 33, 34, 35, 36, 37, 38, 39, 40, 41, 42] (by decide +kernel) (by decide +kernel)
set_option maxRecDepth 20000 in
theorem gX8_mayBeRead_X8_isReadAt : GoodIn wsX8_mayBeRead (wsV RX8 139 RX8 yX8_isReadAt wsX8_isReadAt) := goodIn_app (goodIn_of _ (by decide +kernel)) ggX8_mayBeRead_X8_isReadAt
theorem dX8_mayBeRead_0 : decode cX8_mayBeRead 0 = .ok (.iconst 0, 1) := by decide +kernel
theorem dX8_mayBeRead_1 : decode cX8_mayBeRead 1 = .ok (.istore_n 3, 1) := by decide +kernel
theorem dX8_mayBeRead_2 : decode cX8_mayBeRead 2 = .ok (.iload_n 3, 1) := by decide +kernel
theorem dX8_mayBeRead_3 : decode cX8_mayBeRead 3 = .ok (.bipush 32, 2) := by decide +kernel
theorem dX8_mayBeRead_5 : decode cX8_mayBeRead 5 = .ok (.if_icmp .ge 81, 3) := by decide +kernel
theorem dX8_mayBeRead_8 : decode cX8_mayBeRead 8 = .ok (.iload_n 3, 1) := by decide +kernel
theorem dX8_mayBeRead_9 : decode cX8_mayBeRead 9 = .ok (.iload_n 2, 1) := by decide +kernel
theorem dX8_mayBeRead_10 : decode cX8_mayBeRead 10 = .ok (.iconst (-1), 1) := by decide +kernel
theorem dX8_mayBeRead_11 : decode cX8_mayBeRead 11 = .ok (.ixor, 1) := by decide +kernel
theorem dX8_mayBeRead_12 : decode cX8_mayBeRead 12 = .ok (.iand, 1) := by decide +kernel
theorem dX8_mayBeRead_13 : decode cX8_mayBeRead 13 = .ok (.ifCond .ne 67, 3) := by decide +kernel
theorem dX8_mayBeRead_16 : decode cX8_mayBeRead 16 = .ok (.aload_n 0, 1) := by decide +kernel
theorem dX8_mayBeRead_17 : decode cX8_mayBeRead 17 = .ok (.getfield 13, 3) := by decide +kernel
theorem dX8_mayBeRead_20 : decode cX8_mayBeRead 20 = .ok (.iload_n 1, 1) := by decide +kernel
theorem dX8_mayBeRead_21 : decode cX8_mayBeRead 21 = .ok (.iaload, 1) := by decide +kernel
theorem dX8_mayBeRead_22 : decode cX8_mayBeRead 22 = .ok (.istore 4, 2) := by decide +kernel
theorem dX8_mayBeRead_24 : decode cX8_mayBeRead 24 = .ok (.iconst 0, 1) := by decide +kernel
theorem dX8_mayBeRead_25 : decode cX8_mayBeRead 25 = .ok (.istore 5, 2) := by decide +kernel
theorem dX8_mayBeRead_27 : decode cX8_mayBeRead 27 = .ok (.iload 5, 2) := by decide +kernel
theorem dX8_mayBeRead_29 : decode cX8_mayBeRead 29 = .ok (.aload_n 0, 1) := by decide +kernel
theorem dX8_mayBeRead_30 : decode cX8_mayBeRead 30 = .ok (.getfield 74, 3) := by decide +kernel
theorem dX8_mayBeRead_33 : decode cX8_mayBeRead 33 = .ok (.if_icmp .ge 35, 3) := by decide +kernel
theorem dX8_mayBeRead_36 : decode cX8_mayBeRead 36 = .ok (.iload 4, 2) := by decide +kernel
theorem dX8_mayBeRead_38 : decode cX8_mayBeRead 38 = .ok (.iload_n 3, 1) := by decide +kernel
theorem dX8_mayBeRead_39 : decode cX8_mayBeRead 39 = .ok (.iload 5, 2) := by decide +kernel
theorem dX8_mayBeRead_41 : decode cX8_mayBeRead 41 = .ok (.ishr, 1) := by decide +kernel
theorem dX8_mayBeRead_42 : decode cX8_mayBeRead 42 = .ok (.iconst 1, 1) := by decide +kernel
theorem dX8_mayBeRead_43 : decode cX8_mayBeRead 43 = .ok (.iand, 1) := by decide +kernel
theorem dX8_mayBeRead_44 : decode cX8_mayBeRead 44 = .ok (.iconst 1, 1) := by decide +kernel
theorem dX8_mayBeRead_45 : decode cX8_mayBeRead 45 = .ok (.if_icmp .ne 13, 3) := by decide +kernel
theorem dX8_mayBeRead_48 : decode cX8_mayBeRead 48 = .ok (.aload_n 0, 1) := by decide +kernel
theorem dX8_mayBeRead_49 : decode cX8_mayBeRead 49 = .ok (.getfield 19, 3) := by decide +kernel
theorem dX8_mayBeRead_52 : decode cX8_mayBeRead 52 = .ok (.iload 5, 2) := by decide +kernel
theorem dX8_mayBeRead_54 : decode cX8_mayBeRead 54 = .ok (.iaload, 1) := by decide +kernel
theorem dX8_mayBeRead_55 : decode cX8_mayBeRead 55 = .ok (.goto 4, 3) := by decide +kernel
theorem dX8_mayBeRead_58 : decode cX8_mayBeRead 58 = .ok (.iconst 0, 1) := by decide +kernel
theorem dX8_mayBeRead_59 : decode cX8_mayBeRead 59 = .ok (.ior, 1) := by decide +kernel
theorem dX8_mayBeRead_60 : decode cX8_mayBeRead 60 = .ok (.istore 4, 2) := by decide +kernel
theorem dX8_mayBeRead_62 : decode cX8_mayBeRead 62 = .ok (.iinc 5 1, 3) := by decide +kernel
theorem dX8_mayBeRead_65 : decode cX8_mayBeRead 65 = .ok (.goto (-38), 3) := by decide +kernel
theorem dX8_mayBeRead_68 : decode cX8_mayBeRead 68 = .ok (.aload_n 0, 1) := by decide +kernel
theorem dX8_mayBeRead_69 : decode cX8_mayBeRead 69 = .ok (.iload_n 1, 1) := by decide +kernel
theorem dX8_mayBeRead_70 : decode cX8_mayBeRead 70 = .ok (.iload 4, 2) := by decide +kernel
theorem dX8_mayBeRead_72 : decode cX8_mayBeRead 72 = .ok (.invokevirtual 139, 3) := by decide +kernel
theorem dX8_mayBeRead_75 : decode cX8_mayBeRead 75 = .ok (.ifCond .eq 5, 3) := by decide +kernel
theorem dX8_mayBeRead_78 : decode cX8_mayBeRead 78 = .ok (.iconst 1, 1) := by decide +kernel
theorem dX8_mayBeRead_79 : decode cX8_mayBeRead 79 = .ok (.ireturn, 1) := by decide +kernel
theorem dX8_mayBeRead_80 : decode cX8_mayBeRead 80 = .ok (.iinc 3 1, 3) := by decide +kernel
theorem dX8_mayBeRead_83 : decode cX8_mayBeRead 83 = .ok (.goto (-81), 3) := by decide +kernel
theorem dX8_mayBeRead_86 : decode cX8_mayBeRead 86 = .ok (.iconst 0, 1) := by decide +kernel
theorem dX8_mayBeRead_87 : decode cX8_mayBeRead 87 = .ok (.ireturn, 1) := by decide +kernel
theorem dX8_ones_0 : decode cX8_ones 0 = .ok (.iconst 0, 1) := by decide +kernel
theorem dX8_ones_1 : decode cX8_ones 1 = .ok (.istore_n 1, 1) := by decide +kernel
theorem dX8_ones_2 : decode cX8_ones 2 = .ok (.iconst 0, 1) := by decide +kernel
theorem dX8_ones_3 : decode cX8_ones 3 = .ok (.istore_n 2, 1) := by decide +kernel
theorem dX8_ones_4 : decode cX8_ones 4 = .ok (.iload_n 2, 1) := by decide +kernel
theorem dX8_ones_5 : decode cX8_ones 5 = .ok (.iconst 5, 1) := by decide +kernel
theorem dX8_ones_6 : decode cX8_ones 6 = .ok (.if_icmp .ge 17, 3) := by decide +kernel
theorem dX8_ones_9 : decode cX8_ones 9 = .ok (.iload_n 1, 1) := by decide +kernel
theorem dX8_ones_10 : decode cX8_ones 10 = .ok (.iload_n 0, 1) := by decide +kernel
theorem dX8_ones_11 : decode cX8_ones 11 = .ok (.iload_n 2, 1) := by decide +kernel
theorem dX8_ones_12 : decode cX8_ones 12 = .ok (.ishr, 1) := by decide +kernel
theorem dX8_ones_13 : decode cX8_ones 13 = .ok (.iconst 1, 1) := by decide +kernel
theorem dX8_ones_14 : decode cX8_ones 14 = .ok (.iand, 1) := by decide +kernel
theorem dX8_ones_15 : decode cX8_ones 15 = .ok (.iadd, 1) := by decide +kernel
theorem dX8_ones_16 : decode cX8_ones 16 = .ok (.istore_n 1, 1) := by decide +kernel
theorem dX8_ones_17 : decode cX8_ones 17 = .ok (.iinc 2 1, 3) := by decide +kernel
theorem dX8_ones_20 : decode cX8_ones 20 = .ok (.goto (-16), 3) := by decide +kernel
theorem dX8_ones_23 : decode cX8_ones 23 = .ok (.iload_n 1, 1) := by decide +kernel
theorem dX8_ones_24 : decode cX8_ones 24 = .ok (.ireturn, 1) := by decide +kernel
set_option maxRecDepth 20000 in
theorem ggX8_fewSet_X8_ones : GoodIn wsX8_fewSet wsX8_ones := goodIn_r _ [5] (by decide +kernel) (by decide +kernel)
set_option maxRecDepth 20000 in
theorem gX8_fewSet_X8_ones : GoodIn wsX8_fewSet (va_wsS RX8 143 yX8_ones wsX8_ones) := goodIn_app (goodIn_of _ (by decide +kernel)) ggX8_fewSet_X8_ones
set_option maxRecDepth 20000 in
theorem ggX8_fewSet_X8_mayBeRead : GoodIn wsX8_fewSet wsX8_mayBeRead := goodIn_r _ [9, 10, 1, 11, 12, 13, 14, 4, 15, 16, 17, 18, 19, 20, 21, 22, 23, 24, 25, 26, 27, 28, 29, 30, 31, 32, 33, 34, 35, 36, 37, 38, 39, 40, 41, 42, 43, 44, 45, 46, 47, 48, 49] (by decide +kernel) (by decide +kernel)
set_option maxRecDepth 20000 in
theorem gX8_fewSet_X8_mayBeRead : GoodIn wsX8_fewSet (wsV RX8 146 RX8 yX8_mayBeRead wsX8_mayBeRead) := goodIn_app (goodIn_of _ (by decide +kernel)) ggX8_fewSet_X8_mayBeRead
theorem dX8_fewSet_0 : decode cX8_fewSet 0 = .ok (.iconst (-1), 1) := by decide +kernel
theorem dX8_fewSet_1 : decode cX8_fewSet 1 = .ok (.istore_n 1, 1) := by decide +kernel
theorem dX8_fewSet_2 : decode cX8_fewSet 2 = .ok (.iconst 0, 1) := by decide +kernel
theorem dX8_fewSet_3 : decode cX8_fewSet 3 = .ok (.istore_n 2, 1) := by decide +kernel
theorem dX8_fewSet_4 : decode cX8_fewSet 4 = .ok (.iload_n 2, 1) := by decide +kernel
theorem dX8_fewSet_5 : decode cX8_fewSet 5 = .ok (.iconst 1, 1) := by decide +kernel
theorem dX8_fewSet_6 : decode cX8_fewSet 6 = .ok (.aload_n 0, 1) := by decide +kernel
theorem dX8_fewSet_7 : decode cX8_fewSet 7 = .ok (.getfield 74, 3) := by decide +kernel
theorem dX8_fewSet_10 : decode cX8_fewSet 10 = .ok (.ishl, 1) := by decide +kernel
theorem dX8_fewSet_11 : decode cX8_fewSet 11 = .ok (.if_icmp .ge 69, 3) := by decide +kernel
theorem dX8_fewSet_14 : decode cX8_fewSet 14 = .ok (.iload_n 1, 1) := by decide +kernel
theorem dX8_fewSet_15 : decode cX8_fewSet 15 = .ok (.iconst (-1), 1) := by decide +kernel
theorem dX8_fewSet_16 : decode cX8_fewSet 16 = .ok (.if_icmp .eq 14, 3) := by decide +kernel
theorem dX8_fewSet_19 : decode cX8_fewSet 19 = .ok (.iload_n 2, 1) := by decide +kernel
theorem dX8_fewSet_20 : decode cX8_fewSet 20 = .ok (.invokestatic 143, 3) := by decide +kernel
theorem dX8_fewSet_23 : decode cX8_fewSet 23 = .ok (.iload_n 1, 1) := by decide +kernel
theorem dX8_fewSet_24 : decode cX8_fewSet 24 = .ok (.invokestatic 143, 3) := by decide +kernel
theorem dX8_fewSet_27 : decode cX8_fewSet 27 = .ok (.if_icmp .ge 7, 3) := by decide +kernel
theorem dX8_fewSet_30 : decode cX8_fewSet 30 = .ok (.iconst 1, 1) := by decide +kernel
theorem dX8_fewSet_31 : decode cX8_fewSet 31 = .ok (.goto 4, 3) := by decide +kernel
theorem dX8_fewSet_34 : decode cX8_fewSet 34 = .ok (.iconst 0, 1) := by decide +kernel
theorem dX8_fewSet_35 : decode cX8_fewSet 35 = .ok (.istore_n 3, 1) := by decide +kernel
theorem dX8_fewSet_36 : decode cX8_fewSet 36 = .ok (.iconst 0, 1) := by decide +kernel
theorem dX8_fewSet_37 : decode cX8_fewSet 37 = .ok (.istore 4, 2) := by decide +kernel
theorem dX8_fewSet_39 : decode cX8_fewSet 39 = .ok (.iload 4, 2) := by decide +kernel
theorem dX8_fewSet_41 : decode cX8_fewSet 41 = .ok (.bipush 6, 2) := by decide +kernel
theorem dX8_fewSet_43 : decode cX8_fewSet 43 = .ok (.if_icmp .ge 21, 3) := by decide +kernel
theorem dX8_fewSet_46 : decode cX8_fewSet 46 = .ok (.iload_n 3, 1) := by decide +kernel
theorem dX8_fewSet_47 : decode cX8_fewSet 47 = .ok (.ifCond .eq 17, 3) := by decide +kernel
theorem dX8_fewSet_50 : decode cX8_fewSet 50 = .ok (.aload_n 0, 1) := by decide +kernel
theorem dX8_fewSet_51 : decode cX8_fewSet 51 = .ok (.iload 4, 2) := by decide +kernel
theorem dX8_fewSet_53 : decode cX8_fewSet 53 = .ok (.iload_n 2, 1) := by decide +kernel
theorem dX8_fewSet_54 : decode cX8_fewSet 54 = .ok (.invokevirtual 146, 3) := by decide +kernel
theorem dX8_fewSet_57 : decode cX8_fewSet 57 = .ok (.istore_n 3, 1) := by decide +kernel
theorem dX8_fewSet_58 : decode cX8_fewSet 58 = .ok (.iinc 4 1, 3) := by decide +kernel
theorem dX8_fewSet_61 : decode cX8_fewSet 61 = .ok (.goto (-22), 3) := by decide +kernel
theorem dX8_fewSet_64 : decode cX8_fewSet 64 = .ok (.iload_n 3, 1) := by decide +kernel
theorem dX8_fewSet_65 : decode cX8_fewSet 65 = .ok (.ifCond .eq 7, 3) := by decide +kernel
theorem dX8_fewSet_68 : decode cX8_fewSet 68 = .ok (.iload_n 2, 1) := by decide +kernel
theorem dX8_fewSet_69 : decode cX8_fewSet 69 = .ok (.goto 4, 3) := by decide +kernel
theorem dX8_fewSet_72 : decode cX8_fewSet 72 = .ok (.iload_n 1, 1) := by decide +kernel
theorem dX8_fewSet_73 : decode cX8_fewSet 73 = .ok (.istore_n 1, 1) := by decide +kernel
theorem dX8_fewSet_74 : decode cX8_fewSet 74 = .ok (.iinc 2 1, 3) := by decide +kernel
theorem dX8_fewSet_77 : decode cX8_fewSet 77 = .ok (.goto (-73), 3) := by decide +kernel
theorem dX8_fewSet_80 : decode cX8_fewSet 80 = .ok (.iload_n 1, 1) := by decide +kernel
theorem dX8_fewSet_81 : decode cX8_fewSet 81 = .ok (.ireturn, 1) := by decide +kernel
set_option maxRecDepth 20000 in
theorem ggX8_fewOf_X8_fewSet : GoodIn wsX8_fewOf wsX8_fewSet := goodIn_r _ [5, 6, 7, 8, 4, 9, 10, 11, 12, 13, 14, 15, 16, 17, 18, 19, 20, 21, 22, 23, 24, 25, 26, 27, 28, 29, 30, 31, 32, 33, 34, 35, 36, 37, 38, 39, 40, 41, 42, 43, 44, 45, 46, 47, 48, 49, 50, 51, 52, 53] (by decide +kernel) (by decide +kernel)
set_option maxRecDepth 20000 in
theorem gX8_fewOf_X8_fewSet : GoodIn wsX8_fewOf (wsV RX8 149 RX8 yX8_fewSet wsX8_fewSet) := goodIn_app (goodIn_of _ (by decide +kernel)) ggX8_fewOf_X8_fewSet
set_option maxRecDepth 20000 in
theorem ggX8_fewOf_X8_ones : GoodIn wsX8_fewOf wsX8_ones := goodIn_r _ [9] (by decide +kernel) (by decide +kernel)
set_option maxRecDepth 20000 in
theorem gX8_fewOf_X8_ones : GoodIn wsX8_fewOf (va_wsS RX8 143 yX8_ones wsX8_ones) := goodIn_app (goodIn_of _ (by decide +kernel)) ggX8_fewOf_X8_ones
theorem dX8_fewOf_0 : decode cX8_fewOf 0 = .ok (.aload_n 0, 1) := by decide +kernel
theorem dX8_fewOf_1 : decode cX8_fewOf 1 = .ok (.invokevirtual 149, 3) := by decide +kernel
theorem dX8_fewOf_4 : decode cX8_fewOf 4 = .ok (.istore_n 2, 1) := by decide +kernel
theorem dX8_fewOf_5 : decode cX8_fewOf 5 = .ok (.iload_n 2, 1) := by decide +kernel
theorem dX8_fewOf_6 : decode cX8_fewOf 6 = .ok (.iconst (-1), 1) := by decide +kernel
theorem dX8_fewOf_7 : decode cX8_fewOf 7 = .ok (.if_icmp .eq 8, 3) := by decide +kernel
theorem dX8_fewOf_10 : decode cX8_fewOf 10 = .ok (.iload_n 1, 1) := by decide +kernel
theorem dX8_fewOf_11 : decode cX8_fewOf 11 = .ok (.iconst 1, 1) := by decide +kernel
theorem dX8_fewOf_12 : decode cX8_fewOf 12 = .ok (.if_icmp .ne 7, 3) := by decide +kernel
theorem dX8_fewOf_15 : decode cX8_fewOf 15 = .ok (.iload_n 2, 1) := by decide +kernel
theorem dX8_fewOf_16 : decode cX8_fewOf 16 = .ok (.goto 7, 3) := by decide +kernel
theorem dX8_fewOf_19 : decode cX8_fewOf 19 = .ok (.iload_n 2, 1) := by decide +kernel
theorem dX8_fewOf_20 : decode cX8_fewOf 20 = .ok (.invokestatic 143, 3) := by decide +kernel
theorem dX8_fewOf_23 : decode cX8_fewOf 23 = .ok (.ireturn, 1) := by decide +kernel
set_option maxRecDepth 20000 in
theorem ggX8_few_X8_in : GoodIn wsX8_few wsX8_in := goodIn_r _ [5] (by decide +kernel) (by decide +kernel)
set_option maxRecDepth 20000 in
theorem gX8_few_X8_in : GoodIn wsX8_few (va_wsS RX8 46 yX8_in wsX8_in) := goodIn_app (goodIn_of _ (by decide +kernel)) ggX8_few_X8_in
set_option maxRecDepth 20000 in
theorem ggX8_few_X8_fewOf : GoodIn wsX8_few wsX8_fewOf := goodIn_r _ [9, 10, 11, 12, 4, 13, 14, 15, 16, 17, 18, 19, 20, 21, 22, 23, 24, 25, 26, 27, 28, 29, 30, 31, 32, 33, 34, 35, 36, 37, 38, 39, 40, 41, 42, 43, 44, 45, 46, 47, 48, 49, 50, 51, 52, 53, 54, 55, 56, 57, 58, 59, 60, 61] (by decide +kernel) (by decide +kernel)
set_option maxRecDepth 20000 in
theorem gX8_few_X8_fewOf : GoodIn wsX8_few (wsV RX8 152 RX8 yX8_fewOf wsX8_fewOf) := goodIn_app (goodIn_of _ (by decide +kernel)) ggX8_few_X8_fewOf
theorem dX8_few_0 : decode cX8_few 0 = .ok (.iload_n 1, 1) := by decide +kernel
theorem dX8_few_1 : decode cX8_few 1 = .ok (.i2l, 1) := by decide +kernel
theorem dX8_few_2 : decode cX8_few 2 = .ok (.lconst 0, 1) := by decide +kernel
theorem dX8_few_3 : decode cX8_few 3 = .ok (.lconst 1, 1) := by decide +kernel
theorem dX8_few_4 : decode cX8_few 4 = .ok (.invokestatic 46, 3) := by decide +kernel
theorem dX8_few_7 : decode cX8_few 7 = .ok (.ifCond .ne 6, 3) := by decide +kernel
theorem dX8_few_10 : decode cX8_few 10 = .ok (.bipush (-102), 2) := by decide +kernel
theorem dX8_few_12 : decode cX8_few 12 = .ok (.ireturn, 1) := by decide +kernel
theorem dX8_few_13 : decode cX8_few 13 = .ok (.aload_n 0, 1) := by decide +kernel
theorem dX8_few_14 : decode cX8_few 14 = .ok (.getfield 63, 3) := by decide +kernel
theorem dX8_few_17 : decode cX8_few 17 = .ok (.ifCond .eq 11, 3) := by decide +kernel
theorem dX8_few_20 : decode cX8_few 20 = .ok (.aload_n 0, 1) := by decide +kernel
theorem dX8_few_21 : decode cX8_few 21 = .ok (.iload_n 1, 1) := by decide +kernel
theorem dX8_few_22 : decode cX8_few 22 = .ok (.invokevirtual 152, 3) := by decide +kernel
theorem dX8_few_25 : decode cX8_few 25 = .ok (.goto 5, 3) := by decide +kernel
theorem dX8_few_28 : decode cX8_few 28 = .ok (.bipush (-103), 2) := by decide +kernel
theorem dX8_few_30 : decode cX8_few 30 = .ok (.ireturn, 1) := by decide +kernel
set_option maxRecDepth 20000 in
theorem ggX8_card_X8_isHue : GoodIn wsX8_card wsX8_isHue := goodIn_r _ [6, 7, 8, 9, 5, 10] (by decide +kernel) (by decide +kernel)
set_option maxRecDepth 20000 in
theorem gX8_card_X8_isHue : GoodIn wsX8_card (va_wsS RX8 103 yX8_isHue wsX8_isHue) := goodIn_app (goodIn_of _ (by decide +kernel)) ggX8_card_X8_isHue
theorem dX8_card_0 : decode cX8_card 0 = .ok (.iload_n 1, 1) := by decide +kernel
theorem dX8_card_1 : decode cX8_card 1 = .ok (.invokestatic 103, 3) := by decide +kernel
theorem dX8_card_4 : decode cX8_card 4 = .ok (.ifCond .eq 10, 3) := by decide +kernel
theorem dX8_card_7 : decode cX8_card 7 = .ok (.iload_n 2, 1) := by decide +kernel
theorem dX8_card_8 : decode cX8_card 8 = .ok (.invokestatic 103, 3) := by decide +kernel
theorem dX8_card_11 : decode cX8_card 11 = .ok (.ifCond .ne 6, 3) := by decide +kernel
theorem dX8_card_14 : decode cX8_card 14 = .ok (.bipush (-102), 2) := by decide +kernel
theorem dX8_card_16 : decode cX8_card 16 = .ok (.ireturn, 1) := by decide +kernel
theorem dX8_card_17 : decode cX8_card 17 = .ok (.aload_n 0, 1) := by decide +kernel
theorem dX8_card_18 : decode cX8_card 18 = .ok (.getfield 77, 3) := by decide +kernel
theorem dX8_card_21 : decode cX8_card 21 = .ok (.bipush 8, 2) := by decide +kernel
theorem dX8_card_23 : decode cX8_card 23 = .ok (.if_icmp .ne 6, 3) := by decide +kernel
theorem dX8_card_26 : decode cX8_card 26 = .ok (.bipush (-104), 2) := by decide +kernel
theorem dX8_card_28 : decode cX8_card 28 = .ok (.ireturn, 1) := by decide +kernel
theorem dX8_card_29 : decode cX8_card 29 = .ok (.aload_n 0, 1) := by decide +kernel
theorem dX8_card_30 : decode cX8_card 30 = .ok (.getfield 22, 3) := by decide +kernel
theorem dX8_card_33 : decode cX8_card 33 = .ok (.iconst 2, 1) := by decide +kernel
theorem dX8_card_34 : decode cX8_card 34 = .ok (.aload_n 0, 1) := by decide +kernel
theorem dX8_card_35 : decode cX8_card 35 = .ok (.getfield 77, 3) := by decide +kernel
theorem dX8_card_38 : decode cX8_card 38 = .ok (.imul, 1) := by decide +kernel
theorem dX8_card_39 : decode cX8_card 39 = .ok (.iload_n 1, 1) := by decide +kernel
theorem dX8_card_40 : decode cX8_card 40 = .ok (.iastore, 1) := by decide +kernel
theorem dX8_card_41 : decode cX8_card 41 = .ok (.aload_n 0, 1) := by decide +kernel
theorem dX8_card_42 : decode cX8_card 42 = .ok (.getfield 22, 3) := by decide +kernel
theorem dX8_card_45 : decode cX8_card 45 = .ok (.iconst 2, 1) := by decide +kernel
theorem dX8_card_46 : decode cX8_card 46 = .ok (.aload_n 0, 1) := by decide +kernel
theorem dX8_card_47 : decode cX8_card 47 = .ok (.getfield 77, 3) := by decide +kernel
theorem dX8_card_50 : decode cX8_card 50 = .ok (.imul, 1) := by decide +kernel
theorem dX8_card_51 : decode cX8_card 51 = .ok (.iconst 1, 1) := by decide +kernel
theorem dX8_card_52 : decode cX8_card 52 = .ok (.iadd, 1) := by decide +kernel
theorem dX8_card_53 : decode cX8_card 53 = .ok (.iload_n 2, 1) := by decide +kernel
theorem dX8_card_54 : decode cX8_card 54 = .ok (.iastore, 1) := by decide +kernel
theorem dX8_card_55 : decode cX8_card 55 = .ok (.aload_n 0, 1) := by decide +kernel
theorem dX8_card_56 : decode cX8_card 56 = .ok (.dup, 1) := by decide +kernel
theorem dX8_card_57 : decode cX8_card 57 = .ok (.getfield 77, 3) := by decide +kernel
theorem dX8_card_60 : decode cX8_card 60 = .ok (.iconst 1, 1) := by decide +kernel
theorem dX8_card_61 : decode cX8_card 61 = .ok (.iadd, 1) := by decide +kernel
theorem dX8_card_62 : decode cX8_card 62 = .ok (.putfield 77, 3) := by decide +kernel
theorem dX8_card_65 : decode cX8_card 65 = .ok (.aload_n 0, 1) := by decide +kernel
theorem dX8_card_66 : decode cX8_card 66 = .ok (.getfield 77, 3) := by decide +kernel
theorem dX8_card_69 : decode cX8_card 69 = .ok (.ireturn, 1) := by decide +kernel
theorem dX8_forget_0 : decode cX8_forget 0 = .ok (.aload_n 0, 1) := by decide +kernel
theorem dX8_forget_1 : decode cX8_forget 1 = .ok (.getfield 77, 3) := by decide +kernel
theorem dX8_forget_4 : decode cX8_forget 4 = .ok (.istore_n 1, 1) := by decide +kernel
theorem dX8_forget_5 : decode cX8_forget 5 = .ok (.aload_n 0, 1) := by decide +kernel
theorem dX8_forget_6 : decode cX8_forget 6 = .ok (.iconst 0, 1) := by decide +kernel
theorem dX8_forget_7 : decode cX8_forget 7 = .ok (.putfield 77, 3) := by decide +kernel
theorem dX8_forget_10 : decode cX8_forget 10 = .ok (.iload_n 1, 1) := by decide +kernel
theorem dX8_forget_11 : decode cX8_forget 11 = .ok (.ireturn, 1) := by decide +kernel
set_option maxRecDepth 20000 in
theorem ggX8_seenByCode_X8_seenBy : GoodIn wsX8_seenByCode wsX8_seenBy := goodIn_r _ [4] (by decide +kernel) (by decide +kernel)
set_option maxRecDepth 20000 in
theorem gX8_seenByCode_X8_seenBy : GoodIn wsX8_seenByCode (va_wsS RX8 97 yX8_seenBy wsX8_seenBy) := goodIn_app (goodIn_of _ (by decide +kernel)) ggX8_seenByCode_X8_seenBy
theorem dX8_seenByCode_0 : decode cX8_seenByCode 0 = .ok (.iload_n 0, 1) := by decide +kernel
theorem dX8_seenByCode_1 : decode cX8_seenByCode 1 = .ok (.bipush 64, 2) := by decide +kernel
theorem dX8_seenByCode_3 : decode cX8_seenByCode 3 = .ok (.idiv, 1) := by decide +kernel
theorem dX8_seenByCode_4 : decode cX8_seenByCode 4 = .ok (.iload_n 0, 1) := by decide +kernel
theorem dX8_seenByCode_5 : decode cX8_seenByCode 5 = .ok (.bipush 8, 2) := by decide +kernel
theorem dX8_seenByCode_7 : decode cX8_seenByCode 7 = .ok (.idiv, 1) := by decide +kernel
theorem dX8_seenByCode_8 : decode cX8_seenByCode 8 = .ok (.bipush 8, 2) := by decide +kernel
theorem dX8_seenByCode_10 : decode cX8_seenByCode 10 = .ok (.irem, 1) := by decide +kernel
theorem dX8_seenByCode_11 : decode cX8_seenByCode 11 = .ok (.iload_n 0, 1) := by decide +kernel
theorem dX8_seenByCode_12 : decode cX8_seenByCode 12 = .ok (.bipush 8, 2) := by decide +kernel
theorem dX8_seenByCode_14 : decode cX8_seenByCode 14 = .ok (.irem, 1) := by decide +kernel
theorem dX8_seenByCode_15 : decode cX8_seenByCode 15 = .ok (.iload_n 1, 1) := by decide +kernel
theorem dX8_seenByCode_16 : decode cX8_seenByCode 16 = .ok (.invokestatic 97, 3) := by decide +kernel
theorem dX8_seenByCode_19 : decode cX8_seenByCode 19 = .ok (.ireturn, 1) := by decide +kernel
set_option maxRecDepth 20000 in
theorem ggX8_isSo_X8_seenByCode : GoodIn wsX8_isSo wsX8_seenByCode := goodIn_r _ [6, 7, 8, 5, 9] (by decide +kernel) (by decide +kernel)
set_option maxRecDepth 20000 in
theorem gX8_isSo_X8_seenByCode : GoodIn wsX8_isSo (va_wsS RX8 155 yX8_seenByCode wsX8_seenByCode) := goodIn_app (goodIn_of _ (by decide +kernel)) ggX8_isSo_X8_seenByCode
theorem dX8_isSo_0 : decode cX8_isSo 0 = .ok (.iconst 1, 1) := by decide +kernel
theorem dX8_isSo_1 : decode cX8_isSo 1 = .ok (.istore_n 2, 1) := by decide +kernel
theorem dX8_isSo_2 : decode cX8_isSo 2 = .ok (.iconst 0, 1) := by decide +kernel
theorem dX8_isSo_3 : decode cX8_isSo 3 = .ok (.istore_n 3, 1) := by decide +kernel
theorem dX8_isSo_4 : decode cX8_isSo 4 = .ok (.iload_n 3, 1) := by decide +kernel
theorem dX8_isSo_5 : decode cX8_isSo 5 = .ok (.aload_n 0, 1) := by decide +kernel
theorem dX8_isSo_6 : decode cX8_isSo 6 = .ok (.getfield 77, 3) := by decide +kernel
theorem dX8_isSo_9 : decode cX8_isSo 9 = .ok (.if_icmp .ge 44, 3) := by decide +kernel
theorem dX8_isSo_12 : decode cX8_isSo 12 = .ok (.iload_n 2, 1) := by decide +kernel
theorem dX8_isSo_13 : decode cX8_isSo 13 = .ok (.ifCond .eq 32, 3) := by decide +kernel
theorem dX8_isSo_16 : decode cX8_isSo 16 = .ok (.iload_n 1, 1) := by decide +kernel
theorem dX8_isSo_17 : decode cX8_isSo 17 = .ok (.aload_n 0, 1) := by decide +kernel
theorem dX8_isSo_18 : decode cX8_isSo 18 = .ok (.getfield 22, 3) := by decide +kernel
theorem dX8_isSo_21 : decode cX8_isSo 21 = .ok (.iconst 2, 1) := by decide +kernel
theorem dX8_isSo_22 : decode cX8_isSo 22 = .ok (.iload_n 3, 1) := by decide +kernel
theorem dX8_isSo_23 : decode cX8_isSo 23 = .ok (.imul, 1) := by decide +kernel
theorem dX8_isSo_24 : decode cX8_isSo 24 = .ok (.iaload, 1) := by decide +kernel
theorem dX8_isSo_25 : decode cX8_isSo 25 = .ok (.invokestatic 155, 3) := by decide +kernel
theorem dX8_isSo_28 : decode cX8_isSo 28 = .ok (.aload_n 0, 1) := by decide +kernel
theorem dX8_isSo_29 : decode cX8_isSo 29 = .ok (.getfield 22, 3) := by decide +kernel
theorem dX8_isSo_32 : decode cX8_isSo 32 = .ok (.iconst 2, 1) := by decide +kernel
theorem dX8_isSo_33 : decode cX8_isSo 33 = .ok (.iload_n 3, 1) := by decide +kernel
theorem dX8_isSo_34 : decode cX8_isSo 34 = .ok (.imul, 1) := by decide +kernel
theorem dX8_isSo_35 : decode cX8_isSo 35 = .ok (.iconst 1, 1) := by decide +kernel
theorem dX8_isSo_36 : decode cX8_isSo 36 = .ok (.iadd, 1) := by decide +kernel
theorem dX8_isSo_37 : decode cX8_isSo 37 = .ok (.iaload, 1) := by decide +kernel
theorem dX8_isSo_38 : decode cX8_isSo 38 = .ok (.if_icmp .ne 7, 3) := by decide +kernel
theorem dX8_isSo_41 : decode cX8_isSo 41 = .ok (.iconst 1, 1) := by decide +kernel
theorem dX8_isSo_42 : decode cX8_isSo 42 = .ok (.goto 4, 3) := by decide +kernel
theorem dX8_isSo_45 : decode cX8_isSo 45 = .ok (.iconst 0, 1) := by decide +kernel
theorem dX8_isSo_46 : decode cX8_isSo 46 = .ok (.istore_n 2, 1) := by decide +kernel
theorem dX8_isSo_47 : decode cX8_isSo 47 = .ok (.iinc 3 1, 3) := by decide +kernel
theorem dX8_isSo_50 : decode cX8_isSo 50 = .ok (.goto (-46), 3) := by decide +kernel
theorem dX8_isSo_53 : decode cX8_isSo 53 = .ok (.iload_n 2, 1) := by decide +kernel
theorem dX8_isSo_54 : decode cX8_isSo 54 = .ok (.ireturn, 1) := by decide +kernel
set_option maxRecDepth 20000 in
theorem ggX8_who_X8_in : GoodIn wsX8_who wsX8_in := goodIn_r _ [5] (by decide +kernel) (by decide +kernel)
set_option maxRecDepth 20000 in
theorem gX8_who_X8_in : GoodIn wsX8_who (va_wsS RX8 46 yX8_in wsX8_in) := goodIn_app (goodIn_of _ (by decide +kernel)) ggX8_who_X8_in
set_option maxRecDepth 20000 in
theorem ggX8_who_X8_isSo : GoodIn wsX8_who wsX8_isSo := goodIn_r _ [9, 10, 11, 12, 13, 4, 14, 15, 16, 17, 18, 19, 20, 21, 22, 23, 24, 25, 26, 27, 28, 29, 30, 31, 32, 33, 34, 35, 36, 37, 38, 39, 40, 41, 42] (by decide +kernel) (by decide +kernel)
set_option maxRecDepth 20000 in
theorem gX8_who_X8_isSo : GoodIn wsX8_who (wsV RX8 161 RX8 yX8_isSo wsX8_isSo) := goodIn_app (goodIn_of _ (by decide +kernel)) ggX8_who_X8_isSo
theorem dX8_who_0 : decode cX8_who 0 = .ok (.iload_n 1, 1) := by decide +kernel
theorem dX8_who_1 : decode cX8_who 1 = .ok (.i2l, 1) := by decide +kernel
theorem dX8_who_2 : decode cX8_who 2 = .ok (.lconst 0, 1) := by decide +kernel
theorem dX8_who_3 : decode cX8_who 3 = .ok (.lconst 1, 1) := by decide +kernel
theorem dX8_who_4 : decode cX8_who 4 = .ok (.invokestatic 46, 3) := by decide +kernel
theorem dX8_who_7 : decode cX8_who 7 = .ok (.ifCond .ne 6, 3) := by decide +kernel
theorem dX8_who_10 : decode cX8_who 10 = .ok (.bipush (-102), 2) := by decide +kernel
theorem dX8_who_12 : decode cX8_who 12 = .ok (.ireturn, 1) := by decide +kernel
theorem dX8_who_13 : decode cX8_who 13 = .ok (.aload_n 0, 1) := by decide +kernel
theorem dX8_who_14 : decode cX8_who 14 = .ok (.getfield 158, 3) := by decide +kernel
theorem dX8_who_17 : decode cX8_who 17 = .ok (.bipush 60, 2) := by decide +kernel
theorem dX8_who_19 : decode cX8_who 19 = .ok (.if_icmp .ne 6, 3) := by decide +kernel
theorem dX8_who_22 : decode cX8_who 22 = .ok (.bipush (-103), 2) := by decide +kernel
theorem dX8_who_24 : decode cX8_who 24 = .ok (.ireturn, 1) := by decide +kernel
theorem dX8_who_25 : decode cX8_who 25 = .ok (.aload_n 0, 1) := by decide +kernel
theorem dX8_who_26 : decode cX8_who 26 = .ok (.dup, 1) := by decide +kernel
theorem dX8_who_27 : decode cX8_who 27 = .ok (.getfield 158, 3) := by decide +kernel
theorem dX8_who_30 : decode cX8_who 30 = .ok (.iconst 1, 1) := by decide +kernel
theorem dX8_who_31 : decode cX8_who 31 = .ok (.iadd, 1) := by decide +kernel
theorem dX8_who_32 : decode cX8_who 32 = .ok (.putfield 158, 3) := by decide +kernel
end
section
theorem dX8_who_35 : decode cX8_who 35 = .ok (.iconst 0, 1) := by decide +kernel
theorem dX8_who_36 : decode cX8_who 36 = .ok (.istore_n 2, 1) := by decide +kernel
theorem dX8_who_37 : decode cX8_who 37 = .ok (.iconst (-1), 1) := by decide +kernel
theorem dX8_who_38 : decode cX8_who 38 = .ok (.istore_n 3, 1) := by decide +kernel
theorem dX8_who_39 : decode cX8_who 39 = .ok (.sipush 319, 3) := by decide +kernel
theorem dX8_who_42 : decode cX8_who 42 = .ok (.istore 4, 2) := by decide +kernel
theorem dX8_who_44 : decode cX8_who 44 = .ok (.iload 4, 2) := by decide +kernel
theorem dX8_who_46 : decode cX8_who 46 = .ok (.ifCond .lt 24, 3) := by decide +kernel
theorem dX8_who_49 : decode cX8_who 49 = .ok (.aload_n 0, 1) := by decide +kernel
theorem dX8_who_50 : decode cX8_who 50 = .ok (.iload 4, 2) := by decide +kernel
theorem dX8_who_52 : decode cX8_who 52 = .ok (.invokevirtual 161, 3) := by decide +kernel
theorem dX8_who_55 : decode cX8_who 55 = .ok (.ifCond .eq 9, 3) := by decide +kernel
theorem dX8_who_58 : decode cX8_who 58 = .ok (.iinc 2 1, 3) := by decide +kernel
theorem dX8_who_61 : decode cX8_who 61 = .ok (.iload 4, 2) := by decide +kernel
theorem dX8_who_63 : decode cX8_who 63 = .ok (.istore_n 3, 1) := by decide +kernel
theorem dX8_who_64 : decode cX8_who 64 = .ok (.iinc 4 (-1), 3) := by decide +kernel
theorem dX8_who_67 : decode cX8_who 67 = .ok (.goto (-23), 3) := by decide +kernel
theorem dX8_who_70 : decode cX8_who 70 = .ok (.iload_n 1, 1) := by decide +kernel
theorem dX8_who_71 : decode cX8_who 71 = .ok (.ifCond .ne 7, 3) := by decide +kernel
theorem dX8_who_74 : decode cX8_who 74 = .ok (.iload_n 2, 1) := by decide +kernel
theorem dX8_who_75 : decode cX8_who 75 = .ok (.goto 4, 3) := by decide +kernel
theorem dX8_who_78 : decode cX8_who 78 = .ok (.iload_n 3, 1) := by decide +kernel
theorem dX8_who_79 : decode cX8_who 79 = .ok (.ireturn, 1) := by decide +kernel
set_option maxRecDepth 20000 in
theorem ggX8_next_X8_seenByCode : GoodIn wsX8_next wsX8_seenByCode := goodIn_r _ [6, 7, 8, 5, 9] (by decide +kernel) (by decide +kernel)
set_option maxRecDepth 20000 in
theorem gX8_next_X8_seenByCode : GoodIn wsX8_next (va_wsS RX8 155 yX8_seenByCode wsX8_seenByCode) := goodIn_app (goodIn_of _ (by decide +kernel)) ggX8_next_X8_seenByCode
set_option maxRecDepth 20000 in
theorem ggX8_next_X8_isSo : GoodIn wsX8_next wsX8_isSo := goodIn_r _ [13, 14, 15, 3, 4, 5, 6, 7, 8, 9, 16, 17, 18, 19, 20, 21, 22, 23, 24, 25, 26, 27, 28, 29, 30, 31, 32, 33, 34, 35, 36, 37, 38, 39, 40] (by decide +kernel) (by decide +kernel)
set_option maxRecDepth 20000 in
theorem gX8_next_X8_isSo : GoodIn wsX8_next (wsV RX8 161 RX8 yX8_isSo wsX8_isSo) := goodIn_app (goodIn_of _ (by decide +kernel)) ggX8_next_X8_isSo
theorem dX8_next_0 : decode cX8_next 0 = .ok (.aload_n 0, 1) := by decide +kernel
theorem dX8_next_1 : decode cX8_next 1 = .ok (.getfield 158, 3) := by decide +kernel
theorem dX8_next_4 : decode cX8_next 4 = .ok (.bipush 60, 2) := by decide +kernel
theorem dX8_next_6 : decode cX8_next 6 = .ok (.if_icmp .ne 6, 3) := by decide +kernel
theorem dX8_next_9 : decode cX8_next 9 = .ok (.bipush (-103), 2) := by decide +kernel
theorem dX8_next_11 : decode cX8_next 11 = .ok (.ireturn, 1) := by decide +kernel
theorem dX8_next_12 : decode cX8_next 12 = .ok (.aload_n 0, 1) := by decide +kernel
theorem dX8_next_13 : decode cX8_next 13 = .ok (.dup, 1) := by decide +kernel
theorem dX8_next_14 : decode cX8_next 14 = .ok (.getfield 158, 3) := by decide +kernel
theorem dX8_next_17 : decode cX8_next 17 = .ok (.iconst 1, 1) := by decide +kernel
theorem dX8_next_18 : decode cX8_next 18 = .ok (.iadd, 1) := by decide +kernel
theorem dX8_next_19 : decode cX8_next 19 = .ok (.putfield 158, 3) := by decide +kernel
theorem dX8_next_22 : decode cX8_next 22 = .ok (.iconst (-1), 1) := by decide +kernel
theorem dX8_next_23 : decode cX8_next 23 = .ok (.istore_n 1, 1) := by decide +kernel
theorem dX8_next_24 : decode cX8_next 24 = .ok (.sipush 321, 3) := by decide +kernel
theorem dX8_next_27 : decode cX8_next 27 = .ok (.istore_n 2, 1) := by decide +kernel
theorem dX8_next_28 : decode cX8_next 28 = .ok (.iconst 0, 1) := by decide +kernel
theorem dX8_next_29 : decode cX8_next 29 = .ok (.istore_n 3, 1) := by decide +kernel
theorem dX8_next_30 : decode cX8_next 30 = .ok (.iload_n 3, 1) := by decide +kernel
theorem dX8_next_31 : decode cX8_next 31 = .ok (.bipush 8, 2) := by decide +kernel
theorem dX8_next_33 : decode cX8_next 33 = .ok (.if_icmp .ge 153, 3) := by decide +kernel
theorem dX8_next_36 : decode cX8_next 36 = .ok (.iconst 0, 1) := by decide +kernel
theorem dX8_next_37 : decode cX8_next 37 = .ok (.istore 4, 2) := by decide +kernel
theorem dX8_next_39 : decode cX8_next 39 = .ok (.iload 4, 2) := by decide +kernel
theorem dX8_next_41 : decode cX8_next 41 = .ok (.bipush 8, 2) := by decide +kernel
theorem dX8_next_43 : decode cX8_next 43 = .ok (.if_icmp .ge 17, 3) := by decide +kernel
theorem dX8_next_46 : decode cX8_next 46 = .ok (.aload_n 0, 1) := by decide +kernel
theorem dX8_next_47 : decode cX8_next 47 = .ok (.getfield 25, 3) := by decide +kernel
theorem dX8_next_50 : decode cX8_next 50 = .ok (.iload 4, 2) := by decide +kernel
theorem dX8_next_52 : decode cX8_next 52 = .ok (.iconst 0, 1) := by decide +kernel
theorem dX8_next_53 : decode cX8_next 53 = .ok (.iastore, 1) := by decide +kernel
theorem dX8_next_54 : decode cX8_next 54 = .ok (.iinc 4 1, 3) := by decide +kernel
theorem dX8_next_57 : decode cX8_next 57 = .ok (.goto (-18), 3) := by decide +kernel
theorem dX8_next_60 : decode cX8_next 60 = .ok (.iconst 0, 1) := by decide +kernel
theorem dX8_next_61 : decode cX8_next 61 = .ok (.istore 4, 2) := by decide +kernel
theorem dX8_next_63 : decode cX8_next 63 = .ok (.iload 4, 2) := by decide +kernel
theorem dX8_next_65 : decode cX8_next 65 = .ok (.sipush 320, 3) := by decide +kernel
theorem dX8_next_68 : decode cX8_next 68 = .ok (.if_icmp .ge 37, 3) := by decide +kernel
theorem dX8_next_71 : decode cX8_next 71 = .ok (.aload_n 0, 1) := by decide +kernel
theorem dX8_next_72 : decode cX8_next 72 = .ok (.getfield 25, 3) := by decide +kernel
theorem dX8_next_75 : decode cX8_next 75 = .ok (.iload 4, 2) := by decide +kernel
theorem dX8_next_77 : decode cX8_next 77 = .ok (.iload_n 3, 1) := by decide +kernel
theorem dX8_next_78 : decode cX8_next 78 = .ok (.invokestatic 155, 3) := by decide +kernel
theorem dX8_next_81 : decode cX8_next 81 = .ok (.dup2, 1) := by decide +kernel
theorem dX8_next_82 : decode cX8_next 82 = .ok (.iaload, 1) := by decide +kernel
theorem dX8_next_83 : decode cX8_next 83 = .ok (.aload_n 0, 1) := by decide +kernel
theorem dX8_next_84 : decode cX8_next 84 = .ok (.iload 4, 2) := by decide +kernel
theorem dX8_next_86 : decode cX8_next 86 = .ok (.invokevirtual 161, 3) := by decide +kernel
theorem dX8_next_89 : decode cX8_next 89 = .ok (.ifCond .eq 7, 3) := by decide +kernel
theorem dX8_next_92 : decode cX8_next 92 = .ok (.iconst 1, 1) := by decide +kernel
theorem dX8_next_93 : decode cX8_next 93 = .ok (.goto 4, 3) := by decide +kernel
theorem dX8_next_96 : decode cX8_next 96 = .ok (.iconst 0, 1) := by decide +kernel
theorem dX8_next_97 : decode cX8_next 97 = .ok (.iadd, 1) := by decide +kernel
theorem dX8_next_98 : decode cX8_next 98 = .ok (.iastore, 1) := by decide +kernel
theorem dX8_next_99 : decode cX8_next 99 = .ok (.iinc 4 1, 3) := by decide +kernel
theorem dX8_next_102 : decode cX8_next 102 = .ok (.goto (-39), 3) := by decide +kernel
theorem dX8_next_105 : decode cX8_next 105 = .ok (.iconst 0, 1) := by decide +kernel
theorem dX8_next_106 : decode cX8_next 106 = .ok (.istore 4, 2) := by decide +kernel
theorem dX8_next_108 : decode cX8_next 108 = .ok (.iconst 0, 1) := by decide +kernel
theorem dX8_next_109 : decode cX8_next 109 = .ok (.istore 5, 2) := by decide +kernel
theorem dX8_next_111 : decode cX8_next 111 = .ok (.iload 5, 2) := by decide +kernel
theorem dX8_next_113 : decode cX8_next 113 = .ok (.bipush 8, 2) := by decide +kernel
theorem dX8_next_115 : decode cX8_next 115 = .ok (.if_icmp .ge 35, 3) := by decide +kernel
theorem dX8_next_118 : decode cX8_next 118 = .ok (.aload_n 0, 1) := by decide +kernel
theorem dX8_next_119 : decode cX8_next 119 = .ok (.getfield 25, 3) := by decide +kernel
theorem dX8_next_122 : decode cX8_next 122 = .ok (.iload 5, 2) := by decide +kernel
theorem dX8_next_124 : decode cX8_next 124 = .ok (.iaload, 1) := by decide +kernel
theorem dX8_next_125 : decode cX8_next 125 = .ok (.iload 4, 2) := by decide +kernel
theorem dX8_next_127 : decode cX8_next 127 = .ok (.if_icmp .le 13, 3) := by decide +kernel
theorem dX8_next_130 : decode cX8_next 130 = .ok (.aload_n 0, 1) := by decide +kernel
theorem dX8_next_131 : decode cX8_next 131 = .ok (.getfield 25, 3) := by decide +kernel
theorem dX8_next_134 : decode cX8_next 134 = .ok (.iload 5, 2) := by decide +kernel
theorem dX8_next_136 : decode cX8_next 136 = .ok (.iaload, 1) := by decide +kernel
theorem dX8_next_137 : decode cX8_next 137 = .ok (.goto 5, 3) := by decide +kernel
theorem dX8_next_140 : decode cX8_next 140 = .ok (.iload 4, 2) := by decide +kernel
theorem dX8_next_142 : decode cX8_next 142 = .ok (.istore 4, 2) := by decide +kernel
theorem dX8_next_144 : decode cX8_next 144 = .ok (.iinc 5 1, 3) := by decide +kernel
theorem dX8_next_147 : decode cX8_next 147 = .ok (.goto (-36), 3) := by decide +kernel
theorem dX8_next_150 : decode cX8_next 150 = .ok (.iload 4, 2) := by decide +kernel
theorem dX8_next_152 : decode cX8_next 152 = .ok (.ifCond .le 13, 3) := by decide +kernel
theorem dX8_next_155 : decode cX8_next 155 = .ok (.iload 4, 2) := by decide +kernel
theorem dX8_next_157 : decode cX8_next 157 = .ok (.iload_n 2, 1) := by decide +kernel
theorem dX8_next_158 : decode cX8_next 158 = .ok (.if_icmp .ge 7, 3) := by decide +kernel
theorem dX8_next_161 : decode cX8_next 161 = .ok (.iload_n 3, 1) := by decide +kernel
theorem dX8_next_162 : decode cX8_next 162 = .ok (.goto 4, 3) := by decide +kernel
theorem dX8_next_165 : decode cX8_next 165 = .ok (.iload_n 1, 1) := by decide +kernel
theorem dX8_next_166 : decode cX8_next 166 = .ok (.istore_n 1, 1) := by decide +kernel
theorem dX8_next_167 : decode cX8_next 167 = .ok (.iload 4, 2) := by decide +kernel
theorem dX8_next_169 : decode cX8_next 169 = .ok (.iload_n 2, 1) := by decide +kernel
theorem dX8_next_170 : decode cX8_next 170 = .ok (.if_icmp .ge 8, 3) := by decide +kernel
theorem dX8_next_173 : decode cX8_next 173 = .ok (.iload 4, 2) := by decide +kernel
theorem dX8_next_175 : decode cX8_next 175 = .ok (.goto 4, 3) := by decide +kernel
theorem dX8_next_178 : decode cX8_next 178 = .ok (.iload_n 2, 1) := by decide +kernel
theorem dX8_next_179 : decode cX8_next 179 = .ok (.istore_n 2, 1) := by decide +kernel
theorem dX8_next_180 : decode cX8_next 180 = .ok (.iinc 3 1, 3) := by decide +kernel
theorem dX8_next_183 : decode cX8_next 183 = .ok (.goto (-153), 3) := by decide +kernel
theorem dX8_next_186 : decode cX8_next 186 = .ok (.iload_n 1, 1) := by decide +kernel
theorem dX8_next_187 : decode cX8_next 187 = .ok (.ireturn, 1) := by decide +kernel
theorem dX8_draw_0 : decode cX8_draw 0 = .ok (.aload_n 0, 1) := by decide +kernel
theorem dX8_draw_1 : decode cX8_draw 1 = .ok (.ldc2_w 164, 3) := by decide +kernel
theorem dX8_draw_4 : decode cX8_draw 4 = .ok (.aload_n 0, 1) := by decide +kernel
theorem dX8_draw_5 : decode cX8_draw 5 = .ok (.getfield 166, 3) := by decide +kernel
theorem dX8_draw_8 : decode cX8_draw 8 = .ok (.i2l, 1) := by decide +kernel
theorem dX8_draw_9 : decode cX8_draw 9 = .ok (.lmul, 1) := by decide +kernel
theorem dX8_draw_10 : decode cX8_draw 10 = .ok (.ldc2_w 169, 3) := by decide +kernel
theorem dX8_draw_13 : decode cX8_draw 13 = .ok (.ladd, 1) := by decide +kernel
theorem dX8_draw_14 : decode cX8_draw 14 = .ok (.ldc2_w 171, 3) := by decide +kernel
theorem dX8_draw_17 : decode cX8_draw 17 = .ok (.land, 1) := by decide +kernel
theorem dX8_draw_18 : decode cX8_draw 18 = .ok (.l2i, 1) := by decide +kernel
theorem dX8_draw_19 : decode cX8_draw 19 = .ok (.putfield 166, 3) := by decide +kernel
theorem dX8_draw_22 : decode cX8_draw 22 = .ok (.aload_n 0, 1) := by decide +kernel
theorem dX8_draw_23 : decode cX8_draw 23 = .ok (.getfield 166, 3) := by decide +kernel
theorem dX8_draw_26 : decode cX8_draw 26 = .ok (.ldc 173, 2) := by decide +kernel
theorem dX8_draw_28 : decode cX8_draw 28 = .ok (.idiv, 1) := by decide +kernel
theorem dX8_draw_29 : decode cX8_draw 29 = .ok (.iload_n 1, 1) := by decide +kernel
theorem dX8_draw_30 : decode cX8_draw 30 = .ok (.irem, 1) := by decide +kernel
theorem dX8_draw_31 : decode cX8_draw 31 = .ok (.ireturn, 1) := by decide +kernel
theorem dX8_parts_0 : decode cX8_parts 0 = .ok (.iload_n 0, 1) := by decide +kernel
theorem dX8_parts_1 : decode cX8_parts 1 = .ok (.iconst 1, 1) := by decide +kernel
theorem dX8_parts_2 : decode cX8_parts 2 = .ok (.iand, 1) := by decide +kernel
theorem dX8_parts_3 : decode cX8_parts 3 = .ok (.iload_n 0, 1) := by decide +kernel
theorem dX8_parts_4 : decode cX8_parts 4 = .ok (.iconst 1, 1) := by decide +kernel
theorem dX8_parts_5 : decode cX8_parts 5 = .ok (.ishr, 1) := by decide +kernel
theorem dX8_parts_6 : decode cX8_parts 6 = .ok (.iconst 1, 1) := by decide +kernel
theorem dX8_parts_7 : decode cX8_parts 7 = .ok (.iand, 1) := by decide +kernel
theorem dX8_parts_8 : decode cX8_parts 8 = .ok (.iadd, 1) := by decide +kernel
theorem dX8_parts_9 : decode cX8_parts 9 = .ok (.iload_n 0, 1) := by decide +kernel
theorem dX8_parts_10 : decode cX8_parts 10 = .ok (.iconst 2, 1) := by decide +kernel
theorem dX8_parts_11 : decode cX8_parts 11 = .ok (.ishr, 1) := by decide +kernel
theorem dX8_parts_12 : decode cX8_parts 12 = .ok (.iconst 1, 1) := by decide +kernel
theorem dX8_parts_13 : decode cX8_parts 13 = .ok (.iand, 1) := by decide +kernel
theorem dX8_parts_14 : decode cX8_parts 14 = .ok (.iadd, 1) := by decide +kernel
theorem dX8_parts_15 : decode cX8_parts 15 = .ok (.ireturn, 1) := by decide +kernel
set_option maxRecDepth 20000 in
theorem ggX8_readsAlike_X8_seenBy : GoodIn wsX8_readsAlike wsX8_seenBy := goodIn_r _ [6] (by decide +kernel) (by decide +kernel)
set_option maxRecDepth 20000 in
theorem gX8_readsAlike_X8_seenBy : GoodIn wsX8_readsAlike (va_wsS RX8 97 yX8_seenBy wsX8_seenBy) := goodIn_app (goodIn_of _ (by decide +kernel)) ggX8_readsAlike_X8_seenBy
set_option maxRecDepth 20000 in
theorem ggX8_readsAlike_X8_seesOf : GoodIn wsX8_readsAlike wsX8_seesOf := goodIn_r _ [10, 1, 3, 4, 5, 6, 11, 12, 13, 14, 15, 16, 17, 18, 19, 20, 21, 22, 23, 24, 25, 26, 27, 28, 29, 30, 31, 32, 33, 34, 35] (by decide +kernel) (by decide +kernel)
set_option maxRecDepth 20000 in
theorem gX8_readsAlike_X8_seesOf : GoodIn wsX8_readsAlike (wsV RX8 106 RX8 yX8_seesOf wsX8_seesOf) := goodIn_app (goodIn_of _ (by decide +kernel)) ggX8_readsAlike_X8_seesOf
theorem dX8_readsAlike_0 : decode cX8_readsAlike 0 = .ok (.iconst 1, 1) := by decide +kernel
theorem dX8_readsAlike_1 : decode cX8_readsAlike 1 = .ok (.istore 4, 2) := by decide +kernel
theorem dX8_readsAlike_3 : decode cX8_readsAlike 3 = .ok (.iconst 0, 1) := by decide +kernel
theorem dX8_readsAlike_4 : decode cX8_readsAlike 4 = .ok (.istore 5, 2) := by decide +kernel
theorem dX8_readsAlike_6 : decode cX8_readsAlike 6 = .ok (.iload 5, 2) := by decide +kernel
theorem dX8_readsAlike_8 : decode cX8_readsAlike 8 = .ok (.bipush 6, 2) := by decide +kernel
theorem dX8_readsAlike_10 : decode cX8_readsAlike 10 = .ok (.if_icmp .ge 57, 3) := by decide +kernel
theorem dX8_readsAlike_13 : decode cX8_readsAlike 13 = .ok (.iload 4, 2) := by decide +kernel
theorem dX8_readsAlike_15 : decode cX8_readsAlike 15 = .ok (.ifCond .eq 43, 3) := by decide +kernel
theorem dX8_readsAlike_18 : decode cX8_readsAlike 18 = .ok (.aload_n 0, 1) := by decide +kernel
theorem dX8_readsAlike_19 : decode cX8_readsAlike 19 = .ok (.getfield 16, 3) := by decide +kernel
theorem dX8_readsAlike_22 : decode cX8_readsAlike 22 = .ok (.bipush 10, 2) := by decide +kernel
theorem dX8_readsAlike_24 : decode cX8_readsAlike 24 = .ok (.iload_n 1, 1) := by decide +kernel
theorem dX8_readsAlike_25 : decode cX8_readsAlike 25 = .ok (.imul, 1) := by decide +kernel
theorem dX8_readsAlike_26 : decode cX8_readsAlike 26 = .ok (.iaload, 1) := by decide +kernel
theorem dX8_readsAlike_27 : decode cX8_readsAlike 27 = .ok (.iload_n 2, 1) := by decide +kernel
theorem dX8_readsAlike_28 : decode cX8_readsAlike 28 = .ok (.iload_n 3, 1) := by decide +kernel
theorem dX8_readsAlike_29 : decode cX8_readsAlike 29 = .ok (.aload_n 0, 1) := by decide +kernel
theorem dX8_readsAlike_30 : decode cX8_readsAlike 30 = .ok (.getfield 13, 3) := by decide +kernel
theorem dX8_readsAlike_33 : decode cX8_readsAlike 33 = .ok (.iload 5, 2) := by decide +kernel
theorem dX8_readsAlike_35 : decode cX8_readsAlike 35 = .ok (.iaload, 1) := by decide +kernel
theorem dX8_readsAlike_36 : decode cX8_readsAlike 36 = .ok (.invokestatic 97, 3) := by decide +kernel
theorem dX8_readsAlike_39 : decode cX8_readsAlike 39 = .ok (.aload_n 0, 1) := by decide +kernel
theorem dX8_readsAlike_40 : decode cX8_readsAlike 40 = .ok (.iload_n 1, 1) := by decide +kernel
theorem dX8_readsAlike_41 : decode cX8_readsAlike 41 = .ok (.aload_n 0, 1) := by decide +kernel
theorem dX8_readsAlike_42 : decode cX8_readsAlike 42 = .ok (.getfield 13, 3) := by decide +kernel
theorem dX8_readsAlike_45 : decode cX8_readsAlike 45 = .ok (.iload 5, 2) := by decide +kernel
theorem dX8_readsAlike_47 : decode cX8_readsAlike 47 = .ok (.iaload, 1) := by decide +kernel
theorem dX8_readsAlike_48 : decode cX8_readsAlike 48 = .ok (.invokevirtual 106, 3) := by decide +kernel
theorem dX8_readsAlike_51 : decode cX8_readsAlike 51 = .ok (.if_icmp .ne 7, 3) := by decide +kernel
theorem dX8_readsAlike_54 : decode cX8_readsAlike 54 = .ok (.iconst 1, 1) := by decide +kernel
theorem dX8_readsAlike_55 : decode cX8_readsAlike 55 = .ok (.goto 4, 3) := by decide +kernel
theorem dX8_readsAlike_58 : decode cX8_readsAlike 58 = .ok (.iconst 0, 1) := by decide +kernel
theorem dX8_readsAlike_59 : decode cX8_readsAlike 59 = .ok (.istore 4, 2) := by decide +kernel
theorem dX8_readsAlike_61 : decode cX8_readsAlike 61 = .ok (.iinc 5 1, 3) := by decide +kernel
theorem dX8_readsAlike_64 : decode cX8_readsAlike 64 = .ok (.goto (-58), 3) := by decide +kernel
theorem dX8_readsAlike_67 : decode cX8_readsAlike 67 = .ok (.iload 4, 2) := by decide +kernel
theorem dX8_readsAlike_69 : decode cX8_readsAlike 69 = .ok (.ireturn, 1) := by decide +kernel
set_option maxRecDepth 20000 in
theorem ggX8_ageing_X8_isPerson : GoodIn wsX8_ageing wsX8_isPerson := goodIn_r _ [9, 10, 11, 12, 8, 13, 37, 38, 39, 40, 41, 42, 43, 44, 45, 46, 47, 48, 49, 50, 51, 52, 53, 54, 55, 56, 57, 58, 59, 60, 61] (by decide +kernel) (by decide +kernel)
set_option maxRecDepth 20000 in
theorem gX8_ageing_X8_isPerson : GoodIn wsX8_ageing (wsV RX8 124 RX8 yX8_isPerson wsX8_isPerson) := goodIn_app (goodIn_of _ (by decide +kernel)) ggX8_ageing_X8_isPerson
set_option maxRecDepth 20000 in
theorem ggX8_ageing_X8_in : GoodIn wsX8_ageing wsX8_in := goodIn_r _ [13] (by decide +kernel) (by decide +kernel)
set_option maxRecDepth 20000 in
theorem gX8_ageing_X8_in : GoodIn wsX8_ageing (va_wsS RX8 46 yX8_in wsX8_in) := goodIn_app (goodIn_of _ (by decide +kernel)) ggX8_ageing_X8_in
set_option maxRecDepth 20000 in
theorem ggX8_ageing_X8_draw : GoodIn wsX8_ageing wsX8_draw := goodIn_r _ [17, 18, 4, 19, 20, 21, 37, 38, 39, 40, 41, 42, 43, 44, 45, 46, 47, 48, 49, 50, 51, 52, 53, 54, 55, 56, 57, 58, 59, 60, 61] (by decide +kernel) (by decide +kernel)
set_option maxRecDepth 20000 in
theorem gX8_ageing_X8_draw : GoodIn wsX8_ageing (wsV RX8 176 RX8 yX8_draw wsX8_draw) := goodIn_app (goodIn_of _ (by decide +kernel)) ggX8_ageing_X8_draw
set_option maxRecDepth 20000 in
theorem ggX8_ageing_X8_readsAlike : GoodIn wsX8_ageing wsX8_readsAlike := goodIn_r _ [25, 3, 26, 27, 28, 8, 29, 30, 31, 32, 33, 37, 38, 39, 40, 41, 42, 43, 44, 45, 46, 47, 48, 49, 50, 51, 52, 53, 54, 55, 56, 57, 58, 59, 60, 61] (by decide +kernel) (by decide +kernel)
set_option maxRecDepth 20000 in
theorem gX8_ageing_X8_readsAlike : GoodIn wsX8_ageing (wsV RX8 179 RX8 yX8_readsAlike wsX8_readsAlike) := goodIn_app (goodIn_of _ (by decide +kernel)) ggX8_ageing_X8_readsAlike
set_option maxRecDepth 20000 in
theorem ggX8_ageing_X8_parts : GoodIn wsX8_ageing wsX8_parts := goodIn_r _ [36] (by decide +kernel) (by decide +kernel)
set_option maxRecDepth 20000 in
theorem gX8_ageing_X8_parts : GoodIn wsX8_ageing (va_wsS RX8 183 yX8_parts wsX8_parts) := goodIn_app (goodIn_of _ (by decide +kernel)) ggX8_ageing_X8_parts
theorem dX8_ageing_0 : decode cX8_ageing 0 = .ok (.aload_n 0, 1) := by decide +kernel
theorem dX8_ageing_1 : decode cX8_ageing 1 = .ok (.iload_n 1, 1) := by decide +kernel
theorem dX8_ageing_2 : decode cX8_ageing 2 = .ok (.invokevirtual 124, 3) := by decide +kernel
theorem dX8_ageing_5 : decode cX8_ageing 5 = .ok (.ifCond .ne 6, 3) := by decide +kernel
theorem dX8_ageing_8 : decode cX8_ageing 8 = .ok (.bipush (-101), 2) := by decide +kernel
theorem dX8_ageing_10 : decode cX8_ageing 10 = .ok (.ireturn, 1) := by decide +kernel
theorem dX8_ageing_11 : decode cX8_ageing 11 = .ok (.iload_n 2, 1) := by decide +kernel
theorem dX8_ageing_12 : decode cX8_ageing 12 = .ok (.i2l, 1) := by decide +kernel
theorem dX8_ageing_13 : decode cX8_ageing 13 = .ok (.lconst 1, 1) := by decide +kernel
theorem dX8_ageing_14 : decode cX8_ageing 14 = .ok (.ldc2_w 174, 3) := by decide +kernel
theorem dX8_ageing_17 : decode cX8_ageing 17 = .ok (.invokestatic 46, 3) := by decide +kernel
theorem dX8_ageing_20 : decode cX8_ageing 20 = .ok (.ifCond .eq 20, 3) := by decide +kernel
theorem dX8_ageing_23 : decode cX8_ageing 23 = .ok (.iload_n 3, 1) := by decide +kernel
theorem dX8_ageing_24 : decode cX8_ageing 24 = .ok (.ifCond .lt 16, 3) := by decide +kernel
theorem dX8_ageing_27 : decode cX8_ageing 27 = .ok (.iload 4, 2) := by decide +kernel
theorem dX8_ageing_29 : decode cX8_ageing 29 = .ok (.i2l, 1) := by decide +kernel
theorem dX8_ageing_30 : decode cX8_ageing 30 = .ok (.lconst 0, 1) := by decide +kernel
theorem dX8_ageing_31 : decode cX8_ageing 31 = .ok (.ldc2_w 110, 3) := by decide +kernel
theorem dX8_ageing_34 : decode cX8_ageing 34 = .ok (.invokestatic 46, 3) := by decide +kernel
theorem dX8_ageing_37 : decode cX8_ageing 37 = .ok (.ifCond .ne 6, 3) := by decide +kernel
theorem dX8_ageing_40 : decode cX8_ageing 40 = .ok (.bipush (-102), 2) := by decide +kernel
theorem dX8_ageing_42 : decode cX8_ageing 42 = .ok (.ireturn, 1) := by decide +kernel
theorem dX8_ageing_43 : decode cX8_ageing 43 = .ok (.aload_n 0, 1) := by decide +kernel
theorem dX8_ageing_44 : decode cX8_ageing 44 = .ok (.getfield 16, 3) := by decide +kernel
theorem dX8_ageing_47 : decode cX8_ageing 47 = .ok (.bipush 10, 2) := by decide +kernel
theorem dX8_ageing_49 : decode cX8_ageing 49 = .ok (.iload_n 1, 1) := by decide +kernel
theorem dX8_ageing_50 : decode cX8_ageing 50 = .ok (.imul, 1) := by decide +kernel
theorem dX8_ageing_51 : decode cX8_ageing 51 = .ok (.iconst 1, 1) := by decide +kernel
theorem dX8_ageing_52 : decode cX8_ageing 52 = .ok (.iadd, 1) := by decide +kernel
theorem dX8_ageing_53 : decode cX8_ageing 53 = .ok (.iaload, 1) := by decide +kernel
theorem dX8_ageing_54 : decode cX8_ageing 54 = .ok (.istore 5, 2) := by decide +kernel
theorem dX8_ageing_56 : decode cX8_ageing 56 = .ok (.aload_n 0, 1) := by decide +kernel
theorem dX8_ageing_57 : decode cX8_ageing 57 = .ok (.getfield 16, 3) := by decide +kernel
theorem dX8_ageing_60 : decode cX8_ageing 60 = .ok (.bipush 10, 2) := by decide +kernel
theorem dX8_ageing_62 : decode cX8_ageing 62 = .ok (.iload_n 1, 1) := by decide +kernel
theorem dX8_ageing_63 : decode cX8_ageing 63 = .ok (.imul, 1) := by decide +kernel
theorem dX8_ageing_64 : decode cX8_ageing 64 = .ok (.iconst 2, 1) := by decide +kernel
theorem dX8_ageing_65 : decode cX8_ageing 65 = .ok (.iadd, 1) := by decide +kernel
theorem dX8_ageing_66 : decode cX8_ageing 66 = .ok (.iaload, 1) := by decide +kernel
theorem dX8_ageing_67 : decode cX8_ageing 67 = .ok (.istore 6, 2) := by decide +kernel
theorem dX8_ageing_69 : decode cX8_ageing 69 = .ok (.iconst (-1), 1) := by decide +kernel
theorem dX8_ageing_70 : decode cX8_ageing 70 = .ok (.istore 7, 2) := by decide +kernel
theorem dX8_ageing_72 : decode cX8_ageing 72 = .ok (.aload_n 0, 1) := by decide +kernel
theorem dX8_ageing_73 : decode cX8_ageing 73 = .ok (.iload_n 3, 1) := by decide +kernel
theorem dX8_ageing_74 : decode cX8_ageing 74 = .ok (.putfield 166, 3) := by decide +kernel
theorem dX8_ageing_77 : decode cX8_ageing 77 = .ok (.iconst 1, 1) := by decide +kernel
theorem dX8_ageing_78 : decode cX8_ageing 78 = .ok (.istore 8, 2) := by decide +kernel
theorem dX8_ageing_80 : decode cX8_ageing 80 = .ok (.iload 8, 2) := by decide +kernel
theorem dX8_ageing_82 : decode cX8_ageing 82 = .ok (.iload_n 2, 1) := by decide +kernel
theorem dX8_ageing_83 : decode cX8_ageing 83 = .ok (.if_icmp .gt 106, 3) := by decide +kernel
theorem dX8_ageing_86 : decode cX8_ageing 86 = .ok (.aload_n 0, 1) := by decide +kernel
theorem dX8_ageing_87 : decode cX8_ageing 87 = .ok (.iconst 2, 1) := by decide +kernel
theorem dX8_ageing_88 : decode cX8_ageing 88 = .ok (.invokevirtual 176, 3) := by decide +kernel
theorem dX8_ageing_91 : decode cX8_ageing 91 = .ok (.istore 9, 2) := by decide +kernel
theorem dX8_ageing_93 : decode cX8_ageing 93 = .ok (.aload_n 0, 1) := by decide +kernel
theorem dX8_ageing_94 : decode cX8_ageing 94 = .ok (.bipush 8, 2) := by decide +kernel
theorem dX8_ageing_96 : decode cX8_ageing 96 = .ok (.invokevirtual 176, 3) := by decide +kernel
theorem dX8_ageing_99 : decode cX8_ageing 99 = .ok (.istore 10, 2) := by decide +kernel
theorem dX8_ageing_101 : decode cX8_ageing 101 = .ok (.iload 10, 2) := by decide +kernel
theorem dX8_ageing_103 : decode cX8_ageing 103 = .ok (.iconst 3, 1) := by decide +kernel
theorem dX8_ageing_104 : decode cX8_ageing 104 = .ok (.if_icmp .ge 10, 3) := by decide +kernel
theorem dX8_ageing_107 : decode cX8_ageing 107 = .ok (.iconst 1, 1) := by decide +kernel
theorem dX8_ageing_108 : decode cX8_ageing 108 = .ok (.iload 10, 2) := by decide +kernel
theorem dX8_ageing_110 : decode cX8_ageing 110 = .ok (.ishl, 1) := by decide +kernel
theorem dX8_ageing_111 : decode cX8_ageing 111 = .ok (.goto 4, 3) := by decide +kernel
theorem dX8_ageing_114 : decode cX8_ageing 114 = .ok (.iconst 0, 1) := by decide +kernel
theorem dX8_ageing_115 : decode cX8_ageing 115 = .ok (.istore 11, 2) := by decide +kernel
theorem dX8_ageing_117 : decode cX8_ageing 117 = .ok (.iload 9, 2) := by decide +kernel
theorem dX8_ageing_119 : decode cX8_ageing 119 = .ok (.ifCond .ne 13, 3) := by decide +kernel
theorem dX8_ageing_122 : decode cX8_ageing 122 = .ok (.iload 5, 2) := by decide +kernel
theorem dX8_ageing_124 : decode cX8_ageing 124 = .ok (.iload 11, 2) := by decide +kernel
theorem dX8_ageing_126 : decode cX8_ageing 126 = .ok (.iconst (-1), 1) := by decide +kernel
theorem dX8_ageing_127 : decode cX8_ageing 127 = .ok (.ixor, 1) := by decide +kernel
theorem dX8_ageing_128 : decode cX8_ageing 128 = .ok (.iand, 1) := by decide +kernel
theorem dX8_ageing_129 : decode cX8_ageing 129 = .ok (.goto 5, 3) := by decide +kernel
theorem dX8_ageing_132 : decode cX8_ageing 132 = .ok (.iload 5, 2) := by decide +kernel
theorem dX8_ageing_134 : decode cX8_ageing 134 = .ok (.istore 5, 2) := by decide +kernel
theorem dX8_ageing_136 : decode cX8_ageing 136 = .ok (.iload 9, 2) := by decide +kernel
theorem dX8_ageing_138 : decode cX8_ageing 138 = .ok (.iconst 1, 1) := by decide +kernel
theorem dX8_ageing_139 : decode cX8_ageing 139 = .ok (.if_icmp .ne 13, 3) := by decide +kernel
theorem dX8_ageing_142 : decode cX8_ageing 142 = .ok (.iload 6, 2) := by decide +kernel
theorem dX8_ageing_144 : decode cX8_ageing 144 = .ok (.iload 11, 2) := by decide +kernel
theorem dX8_ageing_146 : decode cX8_ageing 146 = .ok (.iconst (-1), 1) := by decide +kernel
theorem dX8_ageing_147 : decode cX8_ageing 147 = .ok (.ixor, 1) := by decide +kernel
theorem dX8_ageing_148 : decode cX8_ageing 148 = .ok (.iand, 1) := by decide +kernel
theorem dX8_ageing_149 : decode cX8_ageing 149 = .ok (.goto 5, 3) := by decide +kernel
theorem dX8_ageing_152 : decode cX8_ageing 152 = .ok (.iload 6, 2) := by decide +kernel
theorem dX8_ageing_154 : decode cX8_ageing 154 = .ok (.istore 6, 2) := by decide +kernel
theorem dX8_ageing_156 : decode cX8_ageing 156 = .ok (.iload 7, 2) := by decide +kernel
theorem dX8_ageing_158 : decode cX8_ageing 158 = .ok (.iconst (-1), 1) := by decide +kernel
theorem dX8_ageing_159 : decode cX8_ageing 159 = .ok (.if_icmp .ne 20, 3) := by decide +kernel
theorem dX8_ageing_162 : decode cX8_ageing 162 = .ok (.aload_n 0, 1) := by decide +kernel
theorem dX8_ageing_163 : decode cX8_ageing 163 = .ok (.iload_n 1, 1) := by decide +kernel
theorem dX8_ageing_164 : decode cX8_ageing 164 = .ok (.iload 5, 2) := by decide +kernel
theorem dX8_ageing_166 : decode cX8_ageing 166 = .ok (.iload 6, 2) := by decide +kernel
theorem dX8_ageing_168 : decode cX8_ageing 168 = .ok (.invokevirtual 179, 3) := by decide +kernel
theorem dX8_ageing_171 : decode cX8_ageing 171 = .ok (.ifCond .ne 8, 3) := by decide +kernel
theorem dX8_ageing_174 : decode cX8_ageing 174 = .ok (.iload 8, 2) := by decide +kernel
theorem dX8_ageing_176 : decode cX8_ageing 176 = .ok (.goto 5, 3) := by decide +kernel
theorem dX8_ageing_179 : decode cX8_ageing 179 = .ok (.iload 7, 2) := by decide +kernel
theorem dX8_ageing_181 : decode cX8_ageing 181 = .ok (.istore 7, 2) := by decide +kernel
theorem dX8_ageing_183 : decode cX8_ageing 183 = .ok (.iinc 8 1, 3) := by decide +kernel
theorem dX8_ageing_186 : decode cX8_ageing 186 = .ok (.goto (-106), 3) := by decide +kernel
theorem dX8_ageing_189 : decode cX8_ageing 189 = .ok (.iload 4, 2) := by decide +kernel
theorem dX8_ageing_191 : decode cX8_ageing 191 = .ok (.ifCond .ne 8, 3) := by decide +kernel
theorem dX8_ageing_194 : decode cX8_ageing 194 = .ok (.iload 7, 2) := by decide +kernel
theorem dX8_ageing_196 : decode cX8_ageing 196 = .ok (.goto 27, 3) := by decide +kernel
theorem dX8_ageing_199 : decode cX8_ageing 199 = .ok (.iload 4, 2) := by decide +kernel
theorem dX8_ageing_201 : decode cX8_ageing 201 = .ok (.iconst 1, 1) := by decide +kernel
theorem dX8_ageing_202 : decode cX8_ageing 202 = .ok (.if_icmp .ne 17, 3) := by decide +kernel
theorem dX8_ageing_205 : decode cX8_ageing 205 = .ok (.iload 5, 2) := by decide +kernel
theorem dX8_ageing_207 : decode cX8_ageing 207 = .ok (.invokestatic 183, 3) := by decide +kernel
theorem dX8_ageing_210 : decode cX8_ageing 210 = .ok (.iload 6, 2) := by decide +kernel
theorem dX8_ageing_212 : decode cX8_ageing 212 = .ok (.invokestatic 183, 3) := by decide +kernel
theorem dX8_ageing_215 : decode cX8_ageing 215 = .ok (.iadd, 1) := by decide +kernel
theorem dX8_ageing_216 : decode cX8_ageing 216 = .ok (.goto 7, 3) := by decide +kernel
theorem dX8_ageing_219 : decode cX8_ageing 219 = .ok (.aload_n 0, 1) := by decide +kernel
theorem dX8_ageing_220 : decode cX8_ageing 220 = .ok (.getfield 166, 3) := by decide +kernel
theorem dX8_ageing_223 : decode cX8_ageing 223 = .ok (.ireturn, 1) := by decide +kernel
theorem dX8_copy_0 : decode cX8_copy 0 = .ok (.iconst 0, 1) := by decide +kernel
theorem dX8_copy_1 : decode cX8_copy 1 = .ok (.istore_n 2, 1) := by decide +kernel
theorem dX8_copy_2 : decode cX8_copy 2 = .ok (.iload_n 2, 1) := by decide +kernel
theorem dX8_copy_3 : decode cX8_copy 3 = .ok (.aload_n 0, 1) := by decide +kernel
theorem dX8_copy_4 : decode cX8_copy 4 = .ok (.arraylength, 1) := by decide +kernel
theorem dX8_copy_5 : decode cX8_copy 5 = .ok (.if_icmp .ge 15, 3) := by decide +kernel
theorem dX8_copy_8 : decode cX8_copy 8 = .ok (.aload_n 1, 1) := by decide +kernel
theorem dX8_copy_9 : decode cX8_copy 9 = .ok (.iload_n 2, 1) := by decide +kernel
theorem dX8_copy_10 : decode cX8_copy 10 = .ok (.aload_n 0, 1) := by decide +kernel
theorem dX8_copy_11 : decode cX8_copy 11 = .ok (.iload_n 2, 1) := by decide +kernel
theorem dX8_copy_12 : decode cX8_copy 12 = .ok (.iaload, 1) := by decide +kernel
theorem dX8_copy_13 : decode cX8_copy 13 = .ok (.iastore, 1) := by decide +kernel
theorem dX8_copy_14 : decode cX8_copy 14 = .ok (.iinc 2 1, 3) := by decide +kernel
theorem dX8_copy_17 : decode cX8_copy 17 = .ok (.goto (-15), 3) := by decide +kernel
theorem dX8_copy_20 : decode cX8_copy 20 = .ok (.return_, 1) := by decide +kernel
set_option maxRecDepth 20000 in
theorem ggX8_image_X8_copy : GoodIn wsX8_image wsX8_copy := goodIn_r _ [23] (by decide +kernel) (by decide +kernel)
set_option maxRecDepth 20000 in
theorem gX8_image_X8_copy : GoodIn wsX8_image (va_wsS RX8 186 yX8_copy wsX8_copy) := goodIn_app (goodIn_of _ (by decide +kernel)) ggX8_image_X8_copy
theorem dX8_image_0 : decode cX8_image 0 = .ok (.aload_n 0, 1) := by decide +kernel
theorem dX8_image_1 : decode cX8_image 1 = .ok (.getfield 63, 3) := by decide +kernel
theorem dX8_image_4 : decode cX8_image 4 = .ok (.ifCond .ne 6, 3) := by decide +kernel
theorem dX8_image_7 : decode cX8_image 7 = .ok (.bipush (-103), 2) := by decide +kernel
theorem dX8_image_9 : decode cX8_image 9 = .ok (.ireturn, 1) := by decide +kernel
theorem dX8_image_10 : decode cX8_image 10 = .ok (.aload_n 0, 1) := by decide +kernel
theorem dX8_image_11 : decode cX8_image 11 = .ok (.getfield 13, 3) := by decide +kernel
theorem dX8_image_14 : decode cX8_image 14 = .ok (.aload_n 0, 1) := by decide +kernel
theorem dX8_image_15 : decode cX8_image 15 = .ok (.getfield 28, 3) := by decide +kernel
theorem dX8_image_18 : decode cX8_image 18 = .ok (.invokestatic 186, 3) := by decide +kernel
theorem dX8_image_21 : decode cX8_image 21 = .ok (.aload_n 0, 1) := by decide +kernel
theorem dX8_image_22 : decode cX8_image 22 = .ok (.getfield 16, 3) := by decide +kernel
theorem dX8_image_25 : decode cX8_image 25 = .ok (.aload_n 0, 1) := by decide +kernel
theorem dX8_image_26 : decode cX8_image 26 = .ok (.getfield 31, 3) := by decide +kernel
theorem dX8_image_29 : decode cX8_image 29 = .ok (.invokestatic 186, 3) := by decide +kernel
theorem dX8_image_32 : decode cX8_image 32 = .ok (.aload_n 0, 1) := by decide +kernel
theorem dX8_image_33 : decode cX8_image 33 = .ok (.getfield 19, 3) := by decide +kernel
theorem dX8_image_36 : decode cX8_image 36 = .ok (.aload_n 0, 1) := by decide +kernel
theorem dX8_image_37 : decode cX8_image 37 = .ok (.getfield 34, 3) := by decide +kernel
theorem dX8_image_40 : decode cX8_image 40 = .ok (.invokestatic 186, 3) := by decide +kernel
theorem dX8_image_43 : decode cX8_image 43 = .ok (.aload_n 0, 1) := by decide +kernel
theorem dX8_image_44 : decode cX8_image 44 = .ok (.getfield 22, 3) := by decide +kernel
theorem dX8_image_47 : decode cX8_image 47 = .ok (.aload_n 0, 1) := by decide +kernel
theorem dX8_image_48 : decode cX8_image 48 = .ok (.getfield 37, 3) := by decide +kernel
theorem dX8_image_51 : decode cX8_image 51 = .ok (.invokestatic 186, 3) := by decide +kernel
theorem dX8_image_54 : decode cX8_image 54 = .ok (.aload_n 0, 1) := by decide +kernel
theorem dX8_image_55 : decode cX8_image 55 = .ok (.aload_n 0, 1) := by decide +kernel
theorem dX8_image_56 : decode cX8_image 56 = .ok (.getfield 71, 3) := by decide +kernel
theorem dX8_image_59 : decode cX8_image 59 = .ok (.putfield 190, 3) := by decide +kernel
theorem dX8_image_62 : decode cX8_image 62 = .ok (.aload_n 0, 1) := by decide +kernel
theorem dX8_image_63 : decode cX8_image 63 = .ok (.aload_n 0, 1) := by decide +kernel
theorem dX8_image_64 : decode cX8_image 64 = .ok (.getfield 74, 3) := by decide +kernel
theorem dX8_image_67 : decode cX8_image 67 = .ok (.putfield 193, 3) := by decide +kernel
theorem dX8_image_70 : decode cX8_image 70 = .ok (.aload_n 0, 1) := by decide +kernel
theorem dX8_image_71 : decode cX8_image 71 = .ok (.aload_n 0, 1) := by decide +kernel
theorem dX8_image_72 : decode cX8_image 72 = .ok (.getfield 77, 3) := by decide +kernel
theorem dX8_image_75 : decode cX8_image 75 = .ok (.putfield 196, 3) := by decide +kernel
theorem dX8_image_78 : decode cX8_image 78 = .ok (.aload_n 0, 1) := by decide +kernel
theorem dX8_image_79 : decode cX8_image 79 = .ok (.aload_n 0, 1) := by decide +kernel
theorem dX8_image_80 : decode cX8_image 80 = .ok (.getfield 80, 3) := by decide +kernel
theorem dX8_image_83 : decode cX8_image 83 = .ok (.putfield 199, 3) := by decide +kernel
theorem dX8_image_86 : decode cX8_image 86 = .ok (.aload_n 0, 1) := by decide +kernel
theorem dX8_image_87 : decode cX8_image 87 = .ok (.aload_n 0, 1) := by decide +kernel
theorem dX8_image_88 : decode cX8_image 88 = .ok (.getfield 83, 3) := by decide +kernel
theorem dX8_image_91 : decode cX8_image 91 = .ok (.putfield 40, 3) := by decide +kernel
theorem dX8_image_94 : decode cX8_image 94 = .ok (.aload_n 0, 1) := by decide +kernel
theorem dX8_image_95 : decode cX8_image 95 = .ok (.getfield 71, 3) := by decide +kernel
theorem dX8_image_98 : decode cX8_image 98 = .ok (.ireturn, 1) := by decide +kernel
set_option maxRecDepth 20000 in
theorem ggX8_restore_X8_copy : GoodIn wsX8_restore wsX8_copy := goodIn_r _ [22] (by decide +kernel) (by decide +kernel)
set_option maxRecDepth 20000 in
theorem gX8_restore_X8_copy : GoodIn wsX8_restore (va_wsS RX8 186 yX8_copy wsX8_copy) := goodIn_app (goodIn_of _ (by decide +kernel)) ggX8_restore_X8_copy
theorem dX8_restore_0 : decode cX8_restore 0 = .ok (.aload_n 0, 1) := by decide +kernel
theorem dX8_restore_1 : decode cX8_restore 1 = .ok (.getfield 40, 3) := by decide +kernel
theorem dX8_restore_4 : decode cX8_restore 4 = .ok (.aload_n 0, 1) := by decide +kernel
theorem dX8_restore_5 : decode cX8_restore 5 = .ok (.getfield 83, 3) := by decide +kernel
theorem dX8_restore_8 : decode cX8_restore 8 = .ok (.if_icmp .eq 6, 3) := by decide +kernel
theorem dX8_restore_11 : decode cX8_restore 11 = .ok (.bipush (-103), 2) := by decide +kernel
theorem dX8_restore_13 : decode cX8_restore 13 = .ok (.ireturn, 1) := by decide +kernel
theorem dX8_restore_14 : decode cX8_restore 14 = .ok (.aload_n 0, 1) := by decide +kernel
theorem dX8_restore_15 : decode cX8_restore 15 = .ok (.getfield 28, 3) := by decide +kernel
theorem dX8_restore_18 : decode cX8_restore 18 = .ok (.aload_n 0, 1) := by decide +kernel
theorem dX8_restore_19 : decode cX8_restore 19 = .ok (.getfield 13, 3) := by decide +kernel
theorem dX8_restore_22 : decode cX8_restore 22 = .ok (.invokestatic 186, 3) := by decide +kernel
theorem dX8_restore_25 : decode cX8_restore 25 = .ok (.aload_n 0, 1) := by decide +kernel
theorem dX8_restore_26 : decode cX8_restore 26 = .ok (.getfield 31, 3) := by decide +kernel
theorem dX8_restore_29 : decode cX8_restore 29 = .ok (.aload_n 0, 1) := by decide +kernel
theorem dX8_restore_30 : decode cX8_restore 30 = .ok (.getfield 16, 3) := by decide +kernel
theorem dX8_restore_33 : decode cX8_restore 33 = .ok (.invokestatic 186, 3) := by decide +kernel
theorem dX8_restore_36 : decode cX8_restore 36 = .ok (.aload_n 0, 1) := by decide +kernel
theorem dX8_restore_37 : decode cX8_restore 37 = .ok (.getfield 34, 3) := by decide +kernel
theorem dX8_restore_40 : decode cX8_restore 40 = .ok (.aload_n 0, 1) := by decide +kernel
theorem dX8_restore_41 : decode cX8_restore 41 = .ok (.getfield 19, 3) := by decide +kernel
theorem dX8_restore_44 : decode cX8_restore 44 = .ok (.invokestatic 186, 3) := by decide +kernel
theorem dX8_restore_47 : decode cX8_restore 47 = .ok (.aload_n 0, 1) := by decide +kernel
theorem dX8_restore_48 : decode cX8_restore 48 = .ok (.getfield 37, 3) := by decide +kernel
theorem dX8_restore_51 : decode cX8_restore 51 = .ok (.aload_n 0, 1) := by decide +kernel
theorem dX8_restore_52 : decode cX8_restore 52 = .ok (.getfield 22, 3) := by decide +kernel
theorem dX8_restore_55 : decode cX8_restore 55 = .ok (.invokestatic 186, 3) := by decide +kernel
theorem dX8_restore_58 : decode cX8_restore 58 = .ok (.aload_n 0, 1) := by decide +kernel
theorem dX8_restore_59 : decode cX8_restore 59 = .ok (.aload_n 0, 1) := by decide +kernel
theorem dX8_restore_60 : decode cX8_restore 60 = .ok (.getfield 190, 3) := by decide +kernel
theorem dX8_restore_63 : decode cX8_restore 63 = .ok (.putfield 71, 3) := by decide +kernel
theorem dX8_restore_66 : decode cX8_restore 66 = .ok (.aload_n 0, 1) := by decide +kernel
theorem dX8_restore_67 : decode cX8_restore 67 = .ok (.aload_n 0, 1) := by decide +kernel
theorem dX8_restore_68 : decode cX8_restore 68 = .ok (.getfield 193, 3) := by decide +kernel
theorem dX8_restore_71 : decode cX8_restore 71 = .ok (.putfield 74, 3) := by decide +kernel
theorem dX8_restore_74 : decode cX8_restore 74 = .ok (.aload_n 0, 1) := by decide +kernel
theorem dX8_restore_75 : decode cX8_restore 75 = .ok (.aload_n 0, 1) := by decide +kernel
theorem dX8_restore_76 : decode cX8_restore 76 = .ok (.getfield 196, 3) := by decide +kernel
theorem dX8_restore_79 : decode cX8_restore 79 = .ok (.putfield 77, 3) := by decide +kernel
theorem dX8_restore_82 : decode cX8_restore 82 = .ok (.aload_n 0, 1) := by decide +kernel
theorem dX8_restore_83 : decode cX8_restore 83 = .ok (.aload_n 0, 1) := by decide +kernel
theorem dX8_restore_84 : decode cX8_restore 84 = .ok (.getfield 199, 3) := by decide +kernel
theorem dX8_restore_87 : decode cX8_restore 87 = .ok (.putfield 80, 3) := by decide +kernel
theorem dX8_restore_90 : decode cX8_restore 90 = .ok (.aload_n 0, 1) := by decide +kernel
theorem dX8_restore_91 : decode cX8_restore 91 = .ok (.getfield 71, 3) := by decide +kernel
theorem dX8_restore_94 : decode cX8_restore 94 = .ok (.ireturn, 1) := by decide +kernel
set_option maxRecDepth 20000 in
theorem ggX8_countOf_X8_inkedCells : GoodIn wsX8_countOf wsX8_inkedCells := goodIn_r _ [12, 13, 14, 20, 21, 22, 23, 24, 25, 26, 27, 28, 29, 30, 31, 32, 33, 34, 35, 36, 37, 38, 39, 40, 41, 42, 43, 44] (by decide +kernel) (by decide +kernel)
set_option maxRecDepth 20000 in
theorem gX8_countOf_X8_inkedCells : GoodIn wsX8_countOf (wsV RX8 86 RX8 yX8_inkedCells wsX8_inkedCells) := goodIn_app (goodIn_of _ (by decide +kernel)) ggX8_countOf_X8_inkedCells
set_option maxRecDepth 20000 in
theorem ggX8_countOf_X8_wordMany : GoodIn wsX8_countOf wsX8_wordMany := goodIn_r _ [18, 1, 19, 20, 21, 22, 23, 24, 25, 26, 27, 28, 29, 30, 31, 32, 33, 34, 35, 36, 37, 38, 39, 40, 41, 42, 43, 44] (by decide +kernel) (by decide +kernel)
set_option maxRecDepth 20000 in
theorem gX8_countOf_X8_wordMany : GoodIn wsX8_countOf (wsV RX8 130 RX8 yX8_wordMany wsX8_wordMany) := goodIn_app (goodIn_of _ (by decide +kernel)) ggX8_countOf_X8_wordMany
theorem dX8_countOf_0 : decode cX8_countOf 0 = .ok (.iload_n 1, 1) := by decide +kernel
theorem dX8_countOf_1 : decode cX8_countOf 1 = .ok (.tableswitch 96 0 8 #[51, 56, 61, 66, 71, 76, 81, 86, 91], 51) := by decide +kernel
theorem dX8_countOf_52 : decode cX8_countOf 52 = .ok (.aload_n 0, 1) := by decide +kernel
theorem dX8_countOf_53 : decode cX8_countOf 53 = .ok (.invokevirtual 86, 3) := by decide +kernel
theorem dX8_countOf_56 : decode cX8_countOf 56 = .ok (.ireturn, 1) := by decide +kernel
theorem dX8_countOf_57 : decode cX8_countOf 57 = .ok (.aload_n 0, 1) := by decide +kernel
theorem dX8_countOf_58 : decode cX8_countOf 58 = .ok (.getfield 71, 3) := by decide +kernel
theorem dX8_countOf_61 : decode cX8_countOf 61 = .ok (.ireturn, 1) := by decide +kernel
theorem dX8_countOf_62 : decode cX8_countOf 62 = .ok (.aload_n 0, 1) := by decide +kernel
theorem dX8_countOf_63 : decode cX8_countOf 63 = .ok (.getfield 74, 3) := by decide +kernel
theorem dX8_countOf_66 : decode cX8_countOf 66 = .ok (.ireturn, 1) := by decide +kernel
theorem dX8_countOf_67 : decode cX8_countOf 67 = .ok (.aload_n 0, 1) := by decide +kernel
theorem dX8_countOf_68 : decode cX8_countOf 68 = .ok (.getfield 80, 3) := by decide +kernel
theorem dX8_countOf_71 : decode cX8_countOf 71 = .ok (.ireturn, 1) := by decide +kernel
theorem dX8_countOf_72 : decode cX8_countOf 72 = .ok (.aload_n 0, 1) := by decide +kernel
theorem dX8_countOf_73 : decode cX8_countOf 73 = .ok (.invokevirtual 130, 3) := by decide +kernel
theorem dX8_countOf_76 : decode cX8_countOf 76 = .ok (.ireturn, 1) := by decide +kernel
theorem dX8_countOf_77 : decode cX8_countOf 77 = .ok (.aload_n 0, 1) := by decide +kernel
theorem dX8_countOf_78 : decode cX8_countOf 78 = .ok (.getfield 77, 3) := by decide +kernel
theorem dX8_countOf_81 : decode cX8_countOf 81 = .ok (.ireturn, 1) := by decide +kernel
theorem dX8_countOf_82 : decode cX8_countOf 82 = .ok (.aload_n 0, 1) := by decide +kernel
theorem dX8_countOf_83 : decode cX8_countOf 83 = .ok (.getfield 52, 3) := by decide +kernel
theorem dX8_countOf_86 : decode cX8_countOf 86 = .ok (.ireturn, 1) := by decide +kernel
theorem dX8_countOf_87 : decode cX8_countOf 87 = .ok (.aload_n 0, 1) := by decide +kernel
theorem dX8_countOf_88 : decode cX8_countOf 88 = .ok (.getfield 83, 3) := by decide +kernel
theorem dX8_countOf_91 : decode cX8_countOf 91 = .ok (.ireturn, 1) := by decide +kernel
theorem dX8_countOf_92 : decode cX8_countOf 92 = .ok (.aload_n 0, 1) := by decide +kernel
theorem dX8_countOf_93 : decode cX8_countOf 93 = .ok (.getfield 158, 3) := by decide +kernel
theorem dX8_countOf_96 : decode cX8_countOf 96 = .ok (.ireturn, 1) := by decide +kernel
theorem dX8_countOf_97 : decode cX8_countOf 97 = .ok (.bipush (-102), 2) := by decide +kernel
theorem dX8_countOf_99 : decode cX8_countOf 99 = .ok (.ireturn, 1) := by decide +kernel
set_option maxRecDepth 20000 in
theorem ggX8_count_X8_countOf : GoodIn wsX8_count wsX8_countOf := goodIn_r _ [5, 6, 7, 8, 9, 10, 11, 12, 13, 14, 15, 4, 16, 17, 18, 19, 20, 21, 22, 23, 24, 25, 26, 27, 28, 29, 30, 31, 32, 33, 34, 35, 36, 37, 38, 39, 40, 41, 42, 43, 44, 45, 46, 47, 48] (by decide +kernel) (by decide +kernel)
set_option maxRecDepth 20000 in
theorem gX8_count_X8_countOf : GoodIn wsX8_count (wsV RX8 202 RX8 yX8_countOf wsX8_countOf) := goodIn_app (goodIn_of _ (by decide +kernel)) ggX8_count_X8_countOf
theorem dX8_count_0 : decode cX8_count 0 = .ok (.aload_n 0, 1) := by decide +kernel
theorem dX8_count_1 : decode cX8_count 1 = .ok (.iload_n 1, 1) := by decide +kernel
theorem dX8_count_2 : decode cX8_count 2 = .ok (.invokevirtual 202, 3) := by decide +kernel
theorem dX8_count_5 : decode cX8_count 5 = .ok (.ireturn, 1) := by decide +kernel
theorem dX8_say_0 : decode cX8_say 0 = .ok (.aload_n 0, 1) := by decide +kernel
theorem dX8_say_1 : decode cX8_say 1 = .ok (.ldc2_w 205, 3) := by decide +kernel
theorem dX8_say_4 : decode cX8_say 4 = .ok (.aload_n 0, 1) := by decide +kernel
theorem dX8_say_5 : decode cX8_say 5 = .ok (.getfield 207, 3) := by decide +kernel
theorem dX8_say_8 : decode cX8_say 8 = .ok (.lmul, 1) := by decide +kernel
theorem dX8_say_9 : decode cX8_say 9 = .ok (.lload_n 1, 1) := by decide +kernel
theorem dX8_say_10 : decode cX8_say 10 = .ok (.ladd, 1) := by decide +kernel
theorem dX8_say_11 : decode cX8_say 11 = .ok (.putfield 207, 3) := by decide +kernel
theorem dX8_say_14 : decode cX8_say 14 = .ok (.return_, 1) := by decide +kernel
set_option maxRecDepth 20000 in
theorem ggX8_sayPerson_X8_in : GoodIn wsX8_sayPerson wsX8_in := goodIn_r _ [7] (by decide +kernel) (by decide +kernel)
set_option maxRecDepth 20000 in
theorem gX8_sayPerson_X8_in : GoodIn wsX8_sayPerson (va_wsS RX8 46 yX8_in wsX8_in) := goodIn_app (goodIn_of _ (by decide +kernel)) ggX8_sayPerson_X8_in
set_option maxRecDepth 20000 in
theorem ggX8_sayPerson_X8_tell : GoodIn wsX8_sayPerson wsX8_tell := goodIn_r _ [11, 12, 13, 1, 2, 14, 15, 16, 4, 5, 6, 7, 17, 18, 19, 20, 21, 22, 23, 24, 25, 26, 27, 42, 43, 44, 45, 46, 47, 48, 49, 50, 51, 52, 53, 54, 55, 56, 57, 58, 59, 60, 61, 62, 63, 64, 65, 66] (by decide +kernel) (by decide +kernel)
set_option maxRecDepth 20000 in
theorem gX8_sayPerson_X8_tell : GoodIn wsX8_sayPerson (wsV RX8 127 RX8 yX8_tell wsX8_tell) := goodIn_app (goodIn_of _ (by decide +kernel)) ggX8_sayPerson_X8_tell
set_option maxRecDepth 20000 in
theorem ggX8_sayPerson_X8_say : GoodIn wsX8_sayPerson wsX8_say := goodIn_r _ [31, 32, 33, 42, 43, 44, 45, 46, 47, 48, 49, 50, 51, 52, 53, 54, 55, 56, 57, 58, 59, 60, 61, 62, 63, 64, 65, 66] (by decide +kernel) (by decide +kernel)
set_option maxRecDepth 20000 in
theorem gX8_sayPerson_X8_say : GoodIn wsX8_sayPerson (wsV RX8 211 RX8 yX8_say wsX8_say) := goodIn_app (goodIn_of _ (by decide +kernel)) ggX8_sayPerson_X8_say
set_option maxRecDepth 20000 in
theorem ggX8_sayPerson_X8_differOf : GoodIn wsX8_sayPerson wsX8_differOf := goodIn_r _ [37, 14, 17, 18, 19, 6, 20, 13, 21, 22, 23, 42, 43, 44, 45, 46, 47, 48, 49, 50, 51, 52, 53, 54, 55, 56, 57, 58, 59, 60, 61, 62, 63, 64, 65, 66] (by decide +kernel) (by decide +kernel)
set_option maxRecDepth 20000 in
theorem gX8_sayPerson_X8_differOf : GoodIn wsX8_sayPerson (wsV RX8 133 RX8 yX8_differOf wsX8_differOf) := goodIn_app (goodIn_of _ (by decide +kernel)) ggX8_sayPerson_X8_differOf
set_option maxRecDepth 20000 in
theorem ggX8_sayPerson_X8_alikeOf : GoodIn wsX8_sayPerson wsX8_alikeOf := goodIn_r _ [41, 17, 18, 19, 6, 20, 13, 21, 22, 23, 42, 43, 44, 45, 46, 47, 48, 49, 50, 51, 52, 53, 54, 55, 56, 57, 58, 59, 60, 61, 62, 63, 64, 65, 66] (by decide +kernel) (by decide +kernel)
set_option maxRecDepth 20000 in
theorem gX8_sayPerson_X8_alikeOf : GoodIn wsX8_sayPerson (wsV RX8 136 RX8 yX8_alikeOf wsX8_alikeOf) := goodIn_app (goodIn_of _ (by decide +kernel)) ggX8_sayPerson_X8_alikeOf
theorem dX8_sayPerson_0 : decode cX8_sayPerson 0 = .ok (.iconst 0, 1) := by decide +kernel
theorem dX8_sayPerson_1 : decode cX8_sayPerson 1 = .ok (.istore_n 2, 1) := by decide +kernel
theorem dX8_sayPerson_2 : decode cX8_sayPerson 2 = .ok (.iload_n 2, 1) := by decide +kernel
theorem dX8_sayPerson_3 : decode cX8_sayPerson 3 = .ok (.bipush 26, 2) := by decide +kernel
theorem dX8_sayPerson_5 : decode cX8_sayPerson 5 = .ok (.if_icmp .ge 45, 3) := by decide +kernel
theorem dX8_sayPerson_8 : decode cX8_sayPerson 8 = .ok (.iload_n 2, 1) := by decide +kernel
theorem dX8_sayPerson_9 : decode cX8_sayPerson 9 = .ok (.iconst 4, 1) := by decide +kernel
theorem dX8_sayPerson_10 : decode cX8_sayPerson 10 = .ok (.if_icmp .lt 23, 3) := by decide +kernel
theorem dX8_sayPerson_13 : decode cX8_sayPerson 13 = .ok (.iload_n 2, 1) := by decide +kernel
theorem dX8_sayPerson_14 : decode cX8_sayPerson 14 = .ok (.i2l, 1) := by decide +kernel
theorem dX8_sayPerson_15 : decode cX8_sayPerson 15 = .ok (.ldc2_w 112, 3) := by decide +kernel
theorem dX8_sayPerson_18 : decode cX8_sayPerson 18 = .ok (.ldc2_w 114, 3) := by decide +kernel
theorem dX8_sayPerson_21 : decode cX8_sayPerson 21 = .ok (.invokestatic 46, 3) := by decide +kernel
theorem dX8_sayPerson_24 : decode cX8_sayPerson 24 = .ok (.ifCond .ne 9, 3) := by decide +kernel
theorem dX8_sayPerson_27 : decode cX8_sayPerson 27 = .ok (.iload_n 2, 1) := by decide +kernel
theorem dX8_sayPerson_28 : decode cX8_sayPerson 28 = .ok (.bipush 19, 2) := by decide +kernel
theorem dX8_sayPerson_30 : decode cX8_sayPerson 30 = .ok (.if_icmp .le 14, 3) := by decide +kernel
theorem dX8_sayPerson_33 : decode cX8_sayPerson 33 = .ok (.aload_n 0, 1) := by decide +kernel
theorem dX8_sayPerson_34 : decode cX8_sayPerson 34 = .ok (.aload_n 0, 1) := by decide +kernel
theorem dX8_sayPerson_35 : decode cX8_sayPerson 35 = .ok (.iload_n 1, 1) := by decide +kernel
theorem dX8_sayPerson_36 : decode cX8_sayPerson 36 = .ok (.iload_n 2, 1) := by decide +kernel
theorem dX8_sayPerson_37 : decode cX8_sayPerson 37 = .ok (.invokevirtual 127, 3) := by decide +kernel
theorem dX8_sayPerson_40 : decode cX8_sayPerson 40 = .ok (.i2l, 1) := by decide +kernel
theorem dX8_sayPerson_41 : decode cX8_sayPerson 41 = .ok (.invokevirtual 211, 3) := by decide +kernel
theorem dX8_sayPerson_44 : decode cX8_sayPerson 44 = .ok (.iinc 2 1, 3) := by decide +kernel
theorem dX8_sayPerson_47 : decode cX8_sayPerson 47 = .ok (.goto (-45), 3) := by decide +kernel
theorem dX8_sayPerson_50 : decode cX8_sayPerson 50 = .ok (.iconst 0, 1) := by decide +kernel
theorem dX8_sayPerson_51 : decode cX8_sayPerson 51 = .ok (.istore_n 2, 1) := by decide +kernel
theorem dX8_sayPerson_52 : decode cX8_sayPerson 52 = .ok (.iload_n 2, 1) := by decide +kernel
theorem dX8_sayPerson_53 : decode cX8_sayPerson 53 = .ok (.aload_n 0, 1) := by decide +kernel
theorem dX8_sayPerson_54 : decode cX8_sayPerson 54 = .ok (.getfield 71, 3) := by decide +kernel
theorem dX8_sayPerson_57 : decode cX8_sayPerson 57 = .ok (.if_icmp .ge 31, 3) := by decide +kernel
theorem dX8_sayPerson_60 : decode cX8_sayPerson 60 = .ok (.aload_n 0, 1) := by decide +kernel
theorem dX8_sayPerson_61 : decode cX8_sayPerson 61 = .ok (.aload_n 0, 1) := by decide +kernel
theorem dX8_sayPerson_62 : decode cX8_sayPerson 62 = .ok (.iload_n 1, 1) := by decide +kernel
theorem dX8_sayPerson_63 : decode cX8_sayPerson 63 = .ok (.iload_n 2, 1) := by decide +kernel
theorem dX8_sayPerson_64 : decode cX8_sayPerson 64 = .ok (.invokevirtual 133, 3) := by decide +kernel
theorem dX8_sayPerson_67 : decode cX8_sayPerson 67 = .ok (.i2l, 1) := by decide +kernel
theorem dX8_sayPerson_68 : decode cX8_sayPerson 68 = .ok (.invokevirtual 211, 3) := by decide +kernel
theorem dX8_sayPerson_71 : decode cX8_sayPerson 71 = .ok (.aload_n 0, 1) := by decide +kernel
theorem dX8_sayPerson_72 : decode cX8_sayPerson 72 = .ok (.aload_n 0, 1) := by decide +kernel
theorem dX8_sayPerson_73 : decode cX8_sayPerson 73 = .ok (.iload_n 1, 1) := by decide +kernel
theorem dX8_sayPerson_74 : decode cX8_sayPerson 74 = .ok (.iload_n 2, 1) := by decide +kernel
theorem dX8_sayPerson_75 : decode cX8_sayPerson 75 = .ok (.invokevirtual 136, 3) := by decide +kernel
theorem dX8_sayPerson_78 : decode cX8_sayPerson 78 = .ok (.i2l, 1) := by decide +kernel
theorem dX8_sayPerson_79 : decode cX8_sayPerson 79 = .ok (.invokevirtual 211, 3) := by decide +kernel
theorem dX8_sayPerson_82 : decode cX8_sayPerson 82 = .ok (.iinc 2 1, 3) := by decide +kernel
theorem dX8_sayPerson_85 : decode cX8_sayPerson 85 = .ok (.goto (-33), 3) := by decide +kernel
theorem dX8_sayPerson_88 : decode cX8_sayPerson 88 = .ok (.return_, 1) := by decide +kernel
set_option maxRecDepth 20000 in
theorem ggX8_digest_X8_say : GoodIn wsX8_digest wsX8_say := goodIn_r _ [14, 15, 2, 87, 88, 89, 90, 91, 92, 93, 94, 95, 96, 97, 98, 99, 100, 101, 102, 103, 104, 105, 106, 107, 108, 109, 110, 111] (by decide +kernel) (by decide +kernel)
set_option maxRecDepth 20000 in
theorem gX8_digest_X8_say : GoodIn wsX8_digest (wsV RX8 211 RX8 yX8_say wsX8_say) := goodIn_app (goodIn_of _ (by decide +kernel)) ggX8_digest_X8_say
set_option maxRecDepth 20000 in
theorem ggX8_digest_X8_fewOf : GoodIn wsX8_digest wsX8_fewOf := goodIn_r _ [19, 20, 21, 22, 13, 23, 6, 24, 25, 26, 27, 28, 29, 30, 4, 7, 31, 32, 33, 34, 5, 35, 36, 37, 38, 39, 40, 41, 42, 87, 88, 89, 90, 91, 92, 93, 94, 95, 96, 97, 98, 99, 100, 101, 102, 103, 104, 105, 106, 107, 108, 109, 110, 111] (by decide +kernel) (by decide +kernel)
set_option maxRecDepth 20000 in
theorem gX8_digest_X8_fewOf : GoodIn wsX8_digest (wsV RX8 152 RX8 yX8_fewOf wsX8_fewOf) := goodIn_app (goodIn_of _ (by decide +kernel)) ggX8_digest_X8_fewOf
set_option maxRecDepth 20000 in
theorem ggX8_digest_X8_sayPerson : GoodIn wsX8_digest wsX8_sayPerson := goodIn_r _ [46, 47, 48, 5, 49, 50, 13, 51, 52, 53, 54, 55, 56, 35, 4, 57, 58, 36, 37, 38, 39, 40, 41, 42, 59, 60, 61, 62, 10, 11, 12, 14, 15, 2, 63, 64, 65, 66, 67, 68, 69, 70, 87, 88, 89, 90, 91, 92, 93, 94, 95, 96, 97, 98, 99, 100, 101, 102, 103, 104, 105, 106, 107, 108, 109, 110, 111] (by decide +kernel) (by decide +kernel)
set_option maxRecDepth 20000 in
theorem gX8_digest_X8_sayPerson : GoodIn wsX8_digest (wsV RX8 217 RX8 yX8_sayPerson wsX8_sayPerson) := goodIn_app (goodIn_of _ (by decide +kernel)) ggX8_digest_X8_sayPerson
set_option maxRecDepth 20000 in
theorem ggX8_digest_X8_countOf : GoodIn wsX8_digest wsX8_countOf := goodIn_r _ [74, 5, 6, 75, 76, 8, 77, 78, 79, 80, 81, 13, 82, 3, 4, 83, 84, 85, 86, 35, 87, 88, 89, 90, 91, 92, 93, 94, 95, 96, 97, 98, 99, 100, 101, 102, 103, 104, 105, 106, 107, 108, 109, 110, 111] (by decide +kernel) (by decide +kernel)
set_option maxRecDepth 20000 in
theorem gX8_digest_X8_countOf : GoodIn wsX8_digest (wsV RX8 202 RX8 yX8_countOf wsX8_countOf) := goodIn_app (goodIn_of _ (by decide +kernel)) ggX8_digest_X8_countOf
theorem dX8_digest_0 : decode cX8_digest 0 = .ok (.aload_n 0, 1) := by decide +kernel
theorem dX8_digest_1 : decode cX8_digest 1 = .ok (.ldc2_w 215, 3) := by decide +kernel
theorem dX8_digest_4 : decode cX8_digest 4 = .ok (.putfield 207, 3) := by decide +kernel
theorem dX8_digest_7 : decode cX8_digest 7 = .ok (.iconst 0, 1) := by decide +kernel
theorem dX8_digest_8 : decode cX8_digest 8 = .ok (.istore_n 1, 1) := by decide +kernel
theorem dX8_digest_9 : decode cX8_digest 9 = .ok (.iload_n 1, 1) := by decide +kernel
theorem dX8_digest_10 : decode cX8_digest 10 = .ok (.bipush 6, 2) := by decide +kernel
theorem dX8_digest_12 : decode cX8_digest 12 = .ok (.if_icmp .ge 27, 3) := by decide +kernel
theorem dX8_digest_15 : decode cX8_digest 15 = .ok (.aload_n 0, 1) := by decide +kernel
theorem dX8_digest_16 : decode cX8_digest 16 = .ok (.getfield 63, 3) := by decide +kernel
theorem dX8_digest_19 : decode cX8_digest 19 = .ok (.ifCond .eq 20, 3) := by decide +kernel
theorem dX8_digest_22 : decode cX8_digest 22 = .ok (.aload_n 0, 1) := by decide +kernel
theorem dX8_digest_23 : decode cX8_digest 23 = .ok (.aload_n 0, 1) := by decide +kernel
theorem dX8_digest_24 : decode cX8_digest 24 = .ok (.getfield 13, 3) := by decide +kernel
theorem dX8_digest_27 : decode cX8_digest 27 = .ok (.iload_n 1, 1) := by decide +kernel
theorem dX8_digest_28 : decode cX8_digest 28 = .ok (.iaload, 1) := by decide +kernel
theorem dX8_digest_29 : decode cX8_digest 29 = .ok (.i2l, 1) := by decide +kernel
theorem dX8_digest_30 : decode cX8_digest 30 = .ok (.invokevirtual 211, 3) := by decide +kernel
theorem dX8_digest_33 : decode cX8_digest 33 = .ok (.iinc 1 1, 3) := by decide +kernel
theorem dX8_digest_36 : decode cX8_digest 36 = .ok (.goto (-27), 3) := by decide +kernel
theorem dX8_digest_39 : decode cX8_digest 39 = .ok (.aload_n 0, 1) := by decide +kernel
theorem dX8_digest_40 : decode cX8_digest 40 = .ok (.getfield 63, 3) := by decide +kernel
theorem dX8_digest_43 : decode cX8_digest 43 = .ok (.ifCond .eq 23, 3) := by decide +kernel
theorem dX8_digest_46 : decode cX8_digest 46 = .ok (.aload_n 0, 1) := by decide +kernel
theorem dX8_digest_47 : decode cX8_digest 47 = .ok (.aload_n 0, 1) := by decide +kernel
theorem dX8_digest_48 : decode cX8_digest 48 = .ok (.iconst 0, 1) := by decide +kernel
theorem dX8_digest_49 : decode cX8_digest 49 = .ok (.invokevirtual 152, 3) := by decide +kernel
theorem dX8_digest_52 : decode cX8_digest 52 = .ok (.i2l, 1) := by decide +kernel
theorem dX8_digest_53 : decode cX8_digest 53 = .ok (.invokevirtual 211, 3) := by decide +kernel
theorem dX8_digest_56 : decode cX8_digest 56 = .ok (.aload_n 0, 1) := by decide +kernel
theorem dX8_digest_57 : decode cX8_digest 57 = .ok (.aload_n 0, 1) := by decide +kernel
theorem dX8_digest_58 : decode cX8_digest 58 = .ok (.iconst 1, 1) := by decide +kernel
theorem dX8_digest_59 : decode cX8_digest 59 = .ok (.invokevirtual 152, 3) := by decide +kernel
theorem dX8_digest_62 : decode cX8_digest 62 = .ok (.i2l, 1) := by decide +kernel
theorem dX8_digest_63 : decode cX8_digest 63 = .ok (.invokevirtual 211, 3) := by decide +kernel
theorem dX8_digest_66 : decode cX8_digest 66 = .ok (.iconst 0, 1) := by decide +kernel
theorem dX8_digest_67 : decode cX8_digest 67 = .ok (.istore_n 1, 1) := by decide +kernel
theorem dX8_digest_68 : decode cX8_digest 68 = .ok (.iload_n 1, 1) := by decide +kernel
theorem dX8_digest_69 : decode cX8_digest 69 = .ok (.aload_n 0, 1) := by decide +kernel
theorem dX8_digest_70 : decode cX8_digest 70 = .ok (.getfield 71, 3) := by decide +kernel
theorem dX8_digest_73 : decode cX8_digest 73 = .ok (.if_icmp .ge 14, 3) := by decide +kernel
theorem dX8_digest_76 : decode cX8_digest 76 = .ok (.aload_n 0, 1) := by decide +kernel
theorem dX8_digest_77 : decode cX8_digest 77 = .ok (.iload_n 1, 1) := by decide +kernel
theorem dX8_digest_78 : decode cX8_digest 78 = .ok (.invokevirtual 217, 3) := by decide +kernel
theorem dX8_digest_81 : decode cX8_digest 81 = .ok (.iinc 1 1, 3) := by decide +kernel
theorem dX8_digest_84 : decode cX8_digest 84 = .ok (.goto (-16), 3) := by decide +kernel
theorem dX8_digest_87 : decode cX8_digest 87 = .ok (.iconst 0, 1) := by decide +kernel
theorem dX8_digest_88 : decode cX8_digest 88 = .ok (.istore_n 1, 1) := by decide +kernel
theorem dX8_digest_89 : decode cX8_digest 89 = .ok (.iload_n 1, 1) := by decide +kernel
theorem dX8_digest_90 : decode cX8_digest 90 = .ok (.aload_n 0, 1) := by decide +kernel
theorem dX8_digest_91 : decode cX8_digest 91 = .ok (.getfield 74, 3) := by decide +kernel
theorem dX8_digest_94 : decode cX8_digest 94 = .ok (.if_icmp .ge 20, 3) := by decide +kernel
theorem dX8_digest_97 : decode cX8_digest 97 = .ok (.aload_n 0, 1) := by decide +kernel
theorem dX8_digest_98 : decode cX8_digest 98 = .ok (.aload_n 0, 1) := by decide +kernel
theorem dX8_digest_99 : decode cX8_digest 99 = .ok (.getfield 19, 3) := by decide +kernel
theorem dX8_digest_102 : decode cX8_digest 102 = .ok (.iload_n 1, 1) := by decide +kernel
theorem dX8_digest_103 : decode cX8_digest 103 = .ok (.iaload, 1) := by decide +kernel
theorem dX8_digest_104 : decode cX8_digest 104 = .ok (.i2l, 1) := by decide +kernel
theorem dX8_digest_105 : decode cX8_digest 105 = .ok (.invokevirtual 211, 3) := by decide +kernel
theorem dX8_digest_108 : decode cX8_digest 108 = .ok (.iinc 1 1, 3) := by decide +kernel
theorem dX8_digest_111 : decode cX8_digest 111 = .ok (.goto (-22), 3) := by decide +kernel
theorem dX8_digest_114 : decode cX8_digest 114 = .ok (.iconst 0, 1) := by decide +kernel
theorem dX8_digest_115 : decode cX8_digest 115 = .ok (.istore_n 1, 1) := by decide +kernel
theorem dX8_digest_116 : decode cX8_digest 116 = .ok (.iload_n 1, 1) := by decide +kernel
theorem dX8_digest_117 : decode cX8_digest 117 = .ok (.aload_n 0, 1) := by decide +kernel
theorem dX8_digest_118 : decode cX8_digest 118 = .ok (.getfield 52, 3) := by decide +kernel
theorem dX8_digest_121 : decode cX8_digest 121 = .ok (.if_icmp .ge 20, 3) := by decide +kernel
theorem dX8_digest_124 : decode cX8_digest 124 = .ok (.aload_n 0, 1) := by decide +kernel
theorem dX8_digest_125 : decode cX8_digest 125 = .ok (.aload_n 0, 1) := by decide +kernel
theorem dX8_digest_126 : decode cX8_digest 126 = .ok (.getfield 7, 3) := by decide +kernel
theorem dX8_digest_129 : decode cX8_digest 129 = .ok (.iload_n 1, 1) := by decide +kernel
theorem dX8_digest_130 : decode cX8_digest 130 = .ok (.iaload, 1) := by decide +kernel
theorem dX8_digest_131 : decode cX8_digest 131 = .ok (.i2l, 1) := by decide +kernel
theorem dX8_digest_132 : decode cX8_digest 132 = .ok (.invokevirtual 211, 3) := by decide +kernel
theorem dX8_digest_135 : decode cX8_digest 135 = .ok (.iinc 1 1, 3) := by decide +kernel
theorem dX8_digest_138 : decode cX8_digest 138 = .ok (.goto (-22), 3) := by decide +kernel
theorem dX8_digest_141 : decode cX8_digest 141 = .ok (.iconst 0, 1) := by decide +kernel
theorem dX8_digest_142 : decode cX8_digest 142 = .ok (.istore_n 1, 1) := by decide +kernel
theorem dX8_digest_143 : decode cX8_digest 143 = .ok (.iload_n 1, 1) := by decide +kernel
theorem dX8_digest_144 : decode cX8_digest 144 = .ok (.bipush 9, 2) := by decide +kernel
theorem dX8_digest_146 : decode cX8_digest 146 = .ok (.if_icmp .ge 19, 3) := by decide +kernel
theorem dX8_digest_149 : decode cX8_digest 149 = .ok (.aload_n 0, 1) := by decide +kernel
theorem dX8_digest_150 : decode cX8_digest 150 = .ok (.aload_n 0, 1) := by decide +kernel
theorem dX8_digest_151 : decode cX8_digest 151 = .ok (.iload_n 1, 1) := by decide +kernel
theorem dX8_digest_152 : decode cX8_digest 152 = .ok (.invokevirtual 202, 3) := by decide +kernel
theorem dX8_digest_155 : decode cX8_digest 155 = .ok (.i2l, 1) := by decide +kernel
theorem dX8_digest_156 : decode cX8_digest 156 = .ok (.invokevirtual 211, 3) := by decide +kernel
theorem dX8_digest_159 : decode cX8_digest 159 = .ok (.iinc 1 1, 3) := by decide +kernel
theorem dX8_digest_162 : decode cX8_digest 162 = .ok (.goto (-19), 3) := by decide +kernel
theorem dX8_digest_165 : decode cX8_digest 165 = .ok (.aload_n 0, 1) := by decide +kernel
theorem dX8_digest_166 : decode cX8_digest 166 = .ok (.getfield 207, 3) := by decide +kernel
theorem dX8_digest_169 : decode cX8_digest 169 = .ok (.lreturn, 1) := by decide +kernel
end
section
theorem dJ6_bitCount_0f7a4_0 : decode cJ6_bitCount_0f7a4 0 = .ok (.iload_n 0, 1) := by decide +kernel
theorem dJ6_bitCount_0f7a4_1 : decode cJ6_bitCount_0f7a4 1 = .ok (.iload_n 0, 1) := by decide +kernel
theorem dJ6_bitCount_0f7a4_2 : decode cJ6_bitCount_0f7a4 2 = .ok (.iconst 1, 1) := by decide +kernel
theorem dJ6_bitCount_0f7a4_3 : decode cJ6_bitCount_0f7a4 3 = .ok (.iushr, 1) := by decide +kernel
theorem dJ6_bitCount_0f7a4_4 : decode cJ6_bitCount_0f7a4 4 = .ok (.ldc_w 265, 3) := by decide +kernel
theorem dJ6_bitCount_0f7a4_7 : decode cJ6_bitCount_0f7a4 7 = .ok (.iand, 1) := by decide +kernel
theorem dJ6_bitCount_0f7a4_8 : decode cJ6_bitCount_0f7a4 8 = .ok (.isub, 1) := by decide +kernel
theorem dJ6_bitCount_0f7a4_9 : decode cJ6_bitCount_0f7a4 9 = .ok (.istore_n 0, 1) := by decide +kernel
theorem dJ6_bitCount_0f7a4_10 : decode cJ6_bitCount_0f7a4 10 = .ok (.iload_n 0, 1) := by decide +kernel
theorem dJ6_bitCount_0f7a4_11 : decode cJ6_bitCount_0f7a4 11 = .ok (.ldc_w 266, 3) := by decide +kernel
theorem dJ6_bitCount_0f7a4_14 : decode cJ6_bitCount_0f7a4 14 = .ok (.iand, 1) := by decide +kernel
theorem dJ6_bitCount_0f7a4_15 : decode cJ6_bitCount_0f7a4 15 = .ok (.iload_n 0, 1) := by decide +kernel
theorem dJ6_bitCount_0f7a4_16 : decode cJ6_bitCount_0f7a4 16 = .ok (.iconst 2, 1) := by decide +kernel
theorem dJ6_bitCount_0f7a4_17 : decode cJ6_bitCount_0f7a4 17 = .ok (.iushr, 1) := by decide +kernel
theorem dJ6_bitCount_0f7a4_18 : decode cJ6_bitCount_0f7a4 18 = .ok (.ldc_w 266, 3) := by decide +kernel
theorem dJ6_bitCount_0f7a4_21 : decode cJ6_bitCount_0f7a4 21 = .ok (.iand, 1) := by decide +kernel
theorem dJ6_bitCount_0f7a4_22 : decode cJ6_bitCount_0f7a4 22 = .ok (.iadd, 1) := by decide +kernel
theorem dJ6_bitCount_0f7a4_23 : decode cJ6_bitCount_0f7a4 23 = .ok (.istore_n 0, 1) := by decide +kernel
theorem dJ6_bitCount_0f7a4_24 : decode cJ6_bitCount_0f7a4 24 = .ok (.iload_n 0, 1) := by decide +kernel
theorem dJ6_bitCount_0f7a4_25 : decode cJ6_bitCount_0f7a4 25 = .ok (.iload_n 0, 1) := by decide +kernel
theorem dJ6_bitCount_0f7a4_26 : decode cJ6_bitCount_0f7a4 26 = .ok (.iconst 4, 1) := by decide +kernel
theorem dJ6_bitCount_0f7a4_27 : decode cJ6_bitCount_0f7a4 27 = .ok (.iushr, 1) := by decide +kernel
theorem dJ6_bitCount_0f7a4_28 : decode cJ6_bitCount_0f7a4 28 = .ok (.iadd, 1) := by decide +kernel
theorem dJ6_bitCount_0f7a4_29 : decode cJ6_bitCount_0f7a4 29 = .ok (.ldc_w 267, 3) := by decide +kernel
theorem dJ6_bitCount_0f7a4_32 : decode cJ6_bitCount_0f7a4 32 = .ok (.iand, 1) := by decide +kernel
theorem dJ6_bitCount_0f7a4_33 : decode cJ6_bitCount_0f7a4 33 = .ok (.istore_n 0, 1) := by decide +kernel
theorem dJ6_bitCount_0f7a4_34 : decode cJ6_bitCount_0f7a4 34 = .ok (.iload_n 0, 1) := by decide +kernel
theorem dJ6_bitCount_0f7a4_35 : decode cJ6_bitCount_0f7a4 35 = .ok (.iload_n 0, 1) := by decide +kernel
theorem dJ6_bitCount_0f7a4_36 : decode cJ6_bitCount_0f7a4 36 = .ok (.bipush 8, 2) := by decide +kernel
theorem dJ6_bitCount_0f7a4_38 : decode cJ6_bitCount_0f7a4 38 = .ok (.iushr, 1) := by decide +kernel
theorem dJ6_bitCount_0f7a4_39 : decode cJ6_bitCount_0f7a4 39 = .ok (.iadd, 1) := by decide +kernel
theorem dJ6_bitCount_0f7a4_40 : decode cJ6_bitCount_0f7a4 40 = .ok (.istore_n 0, 1) := by decide +kernel
theorem dJ6_bitCount_0f7a4_41 : decode cJ6_bitCount_0f7a4 41 = .ok (.iload_n 0, 1) := by decide +kernel
theorem dJ6_bitCount_0f7a4_42 : decode cJ6_bitCount_0f7a4 42 = .ok (.iload_n 0, 1) := by decide +kernel
theorem dJ6_bitCount_0f7a4_43 : decode cJ6_bitCount_0f7a4 43 = .ok (.bipush 16, 2) := by decide +kernel
theorem dJ6_bitCount_0f7a4_45 : decode cJ6_bitCount_0f7a4 45 = .ok (.iushr, 1) := by decide +kernel
theorem dJ6_bitCount_0f7a4_46 : decode cJ6_bitCount_0f7a4 46 = .ok (.iadd, 1) := by decide +kernel
theorem dJ6_bitCount_0f7a4_47 : decode cJ6_bitCount_0f7a4 47 = .ok (.istore_n 0, 1) := by decide +kernel
theorem dJ6_bitCount_0f7a4_48 : decode cJ6_bitCount_0f7a4 48 = .ok (.iload_n 0, 1) := by decide +kernel
theorem dJ6_bitCount_0f7a4_49 : decode cJ6_bitCount_0f7a4 49 = .ok (.bipush 63, 2) := by decide +kernel
theorem dJ6_bitCount_0f7a4_51 : decode cJ6_bitCount_0f7a4 51 = .ok (.iand, 1) := by decide +kernel
theorem dJ6_bitCount_0f7a4_52 : decode cJ6_bitCount_0f7a4 52 = .ok (.ireturn, 1) := by decide +kernel
theorem dJ9_max_7cf53_0 : decode cJ9_max_7cf53 0 = .ok (.iload_n 0, 1) := by decide +kernel
theorem dJ9_max_7cf53_1 : decode cJ9_max_7cf53 1 = .ok (.iload_n 1, 1) := by decide +kernel
theorem dJ9_max_7cf53_2 : decode cJ9_max_7cf53 2 = .ok (.if_icmp .lt 7, 3) := by decide +kernel
theorem dJ9_max_7cf53_5 : decode cJ9_max_7cf53 5 = .ok (.iload_n 0, 1) := by decide +kernel
theorem dJ9_max_7cf53_6 : decode cJ9_max_7cf53 6 = .ok (.goto 4, 3) := by decide +kernel
theorem dJ9_max_7cf53_9 : decode cJ9_max_7cf53 9 = .ok (.iload_n 1, 1) := by decide +kernel
theorem dJ9_max_7cf53_10 : decode cJ9_max_7cf53 10 = .ok (.ireturn, 1) := by decide +kernel
theorem dL_law_0 : decode cL_law 0 = .ok (.new 7, 3) := by decide +kernel
theorem dL_law_3 : decode cL_law 3 = .ok (.dup, 1) := by decide +kernel
theorem dL_law_4 : decode cL_law 4 = .ok (.invokespecial 9, 3) := by decide +kernel
theorem dL_law_7 : decode cL_law 7 = .ok (.astore_n 1, 1) := by decide +kernel
theorem dL_law_8 : decode cL_law 8 = .ok (.new 10, 3) := by decide +kernel
theorem dL_law_11 : decode cL_law 11 = .ok (.dup, 1) := by decide +kernel
theorem dL_law_12 : decode cL_law 12 = .ok (.invokespecial 12, 3) := by decide +kernel
theorem dL_law_15 : decode cL_law 15 = .ok (.astore_n 2, 1) := by decide +kernel
theorem dL_law_16 : decode cL_law 16 = .ok (.iconst 0, 1) := by decide +kernel
theorem dL_law_17 : decode cL_law 17 = .ok (.istore_n 3, 1) := by decide +kernel
theorem dL_law_18 : decode cL_law 18 = .ok (.iload_n 3, 1) := by decide +kernel
theorem dL_law_19 : decode cL_law 19 = .ok (.aload_n 0, 1) := by decide +kernel
theorem dL_law_20 : decode cL_law 20 = .ok (.arraylength, 1) := by decide +kernel
theorem dL_law_21 : decode cL_law 21 = .ok (.iconst 5, 1) := by decide +kernel
theorem dL_law_22 : decode cL_law 22 = .ok (.isub, 1) := by decide +kernel
theorem dL_law_23 : decode cL_law 23 = .ok (.if_icmp .gt 821, 3) := by decide +kernel
theorem dL_law_26 : decode cL_law 26 = .ok (.aload_n 0, 1) := by decide +kernel
theorem dL_law_27 : decode cL_law 27 = .ok (.iload_n 3, 1) := by decide +kernel
theorem dL_law_28 : decode cL_law 28 = .ok (.iaload, 1) := by decide +kernel
theorem dL_law_29 : decode cL_law 29 = .ok (.bipush 31, 2) := by decide +kernel
theorem dL_law_31 : decode cL_law 31 = .ok (.iand, 1) := by decide +kernel
theorem dL_law_32 : decode cL_law 32 = .ok (.tableswitch 806 0 26 #[124, 147, 160, 173, 186, 209, 242, 285, 318, 351, 384, 427, 450, 473, 496, 519, 552, 585, 608, 641, 654, 677, 690, 743, 756, 769, 792], 124) := by decide +kernel
theorem dL_law_156 : decode cL_law 156 = .ok (.aload_n 1, 1) := by decide +kernel
theorem dL_law_157 : decode cL_law 157 = .ok (.aload_n 0, 1) := by decide +kernel
theorem dL_law_158 : decode cL_law 158 = .ok (.iload_n 3, 1) := by decide +kernel
theorem dL_law_159 : decode cL_law 159 = .ok (.iconst 1, 1) := by decide +kernel
theorem dL_law_160 : decode cL_law 160 = .ok (.iadd, 1) := by decide +kernel
theorem dL_law_161 : decode cL_law 161 = .ok (.iaload, 1) := by decide +kernel
theorem dL_law_162 : decode cL_law 162 = .ok (.invokevirtual 13, 3) := by decide +kernel
theorem dL_law_165 : decode cL_law 165 = .ok (.aload_n 2, 1) := by decide +kernel
theorem dL_law_166 : decode cL_law 166 = .ok (.aload_n 0, 1) := by decide +kernel
theorem dL_law_167 : decode cL_law 167 = .ok (.iload_n 3, 1) := by decide +kernel
theorem dL_law_168 : decode cL_law 168 = .ok (.iconst 1, 1) := by decide +kernel
theorem dL_law_169 : decode cL_law 169 = .ok (.iadd, 1) := by decide +kernel
theorem dL_law_170 : decode cL_law 170 = .ok (.iaload, 1) := by decide +kernel
theorem dL_law_171 : decode cL_law 171 = .ok (.invokevirtual 17, 3) := by decide +kernel
theorem dL_law_174 : decode cL_law 174 = .ok (.if_icmp .eq 664, 3) := by decide +kernel
theorem dL_law_177 : decode cL_law 177 = .ok (.iconst 0, 1) := by decide +kernel
theorem dL_law_178 : decode cL_law 178 = .ok (.ireturn, 1) := by decide +kernel
theorem dL_law_179 : decode cL_law 179 = .ok (.aload_n 1, 1) := by decide +kernel
theorem dL_law_180 : decode cL_law 180 = .ok (.invokevirtual 18, 3) := by decide +kernel
theorem dL_law_183 : decode cL_law 183 = .ok (.aload_n 2, 1) := by decide +kernel
theorem dL_law_184 : decode cL_law 184 = .ok (.invokevirtual 22, 3) := by decide +kernel
theorem dL_law_187 : decode cL_law 187 = .ok (.if_icmp .eq 651, 3) := by decide +kernel
theorem dL_law_190 : decode cL_law 190 = .ok (.iconst 0, 1) := by decide +kernel
theorem dL_law_191 : decode cL_law 191 = .ok (.ireturn, 1) := by decide +kernel
theorem dL_law_192 : decode cL_law 192 = .ok (.aload_n 1, 1) := by decide +kernel
theorem dL_law_193 : decode cL_law 193 = .ok (.invokevirtual 23, 3) := by decide +kernel
theorem dL_law_196 : decode cL_law 196 = .ok (.aload_n 2, 1) := by decide +kernel
theorem dL_law_197 : decode cL_law 197 = .ok (.invokevirtual 26, 3) := by decide +kernel
theorem dL_law_200 : decode cL_law 200 = .ok (.if_icmp .eq 638, 3) := by decide +kernel
theorem dL_law_203 : decode cL_law 203 = .ok (.iconst 0, 1) := by decide +kernel
theorem dL_law_204 : decode cL_law 204 = .ok (.ireturn, 1) := by decide +kernel
theorem dL_law_205 : decode cL_law 205 = .ok (.aload_n 1, 1) := by decide +kernel
theorem dL_law_206 : decode cL_law 206 = .ok (.invokevirtual 27, 3) := by decide +kernel
theorem dL_law_209 : decode cL_law 209 = .ok (.aload_n 2, 1) := by decide +kernel
theorem dL_law_210 : decode cL_law 210 = .ok (.invokevirtual 30, 3) := by decide +kernel
theorem dL_law_213 : decode cL_law 213 = .ok (.if_icmp .eq 625, 3) := by decide +kernel
theorem dL_law_216 : decode cL_law 216 = .ok (.iconst 0, 1) := by decide +kernel
theorem dL_law_217 : decode cL_law 217 = .ok (.ireturn, 1) := by decide +kernel
theorem dL_law_218 : decode cL_law 218 = .ok (.aload_n 1, 1) := by decide +kernel
theorem dL_law_219 : decode cL_law 219 = .ok (.aload_n 0, 1) := by decide +kernel
theorem dL_law_220 : decode cL_law 220 = .ok (.iload_n 3, 1) := by decide +kernel
theorem dL_law_221 : decode cL_law 221 = .ok (.iconst 1, 1) := by decide +kernel
theorem dL_law_222 : decode cL_law 222 = .ok (.iadd, 1) := by decide +kernel
theorem dL_law_223 : decode cL_law 223 = .ok (.iaload, 1) := by decide +kernel
theorem dL_law_224 : decode cL_law 224 = .ok (.invokevirtual 31, 3) := by decide +kernel
theorem dL_law_227 : decode cL_law 227 = .ok (.aload_n 2, 1) := by decide +kernel
theorem dL_law_228 : decode cL_law 228 = .ok (.aload_n 0, 1) := by decide +kernel
theorem dL_law_229 : decode cL_law 229 = .ok (.iload_n 3, 1) := by decide +kernel
theorem dL_law_230 : decode cL_law 230 = .ok (.iconst 1, 1) := by decide +kernel
theorem dL_law_231 : decode cL_law 231 = .ok (.iadd, 1) := by decide +kernel
theorem dL_law_232 : decode cL_law 232 = .ok (.iaload, 1) := by decide +kernel
theorem dL_law_233 : decode cL_law 233 = .ok (.invokevirtual 34, 3) := by decide +kernel
theorem dL_law_236 : decode cL_law 236 = .ok (.if_icmp .eq 602, 3) := by decide +kernel
theorem dL_law_239 : decode cL_law 239 = .ok (.iconst 0, 1) := by decide +kernel
theorem dL_law_240 : decode cL_law 240 = .ok (.ireturn, 1) := by decide +kernel
theorem dL_law_241 : decode cL_law 241 = .ok (.aload_n 1, 1) := by decide +kernel
theorem dL_law_242 : decode cL_law 242 = .ok (.aload_n 0, 1) := by decide +kernel
theorem dL_law_243 : decode cL_law 243 = .ok (.iload_n 3, 1) := by decide +kernel
theorem dL_law_244 : decode cL_law 244 = .ok (.iconst 1, 1) := by decide +kernel
theorem dL_law_245 : decode cL_law 245 = .ok (.iadd, 1) := by decide +kernel
theorem dL_law_246 : decode cL_law 246 = .ok (.iaload, 1) := by decide +kernel
theorem dL_law_247 : decode cL_law 247 = .ok (.aload_n 0, 1) := by decide +kernel
theorem dL_law_248 : decode cL_law 248 = .ok (.iload_n 3, 1) := by decide +kernel
theorem dL_law_249 : decode cL_law 249 = .ok (.iconst 2, 1) := by decide +kernel
theorem dL_law_250 : decode cL_law 250 = .ok (.iadd, 1) := by decide +kernel
theorem dL_law_251 : decode cL_law 251 = .ok (.iaload, 1) := by decide +kernel
theorem dL_law_252 : decode cL_law 252 = .ok (.invokevirtual 35, 3) := by decide +kernel
theorem dL_law_255 : decode cL_law 255 = .ok (.aload_n 2, 1) := by decide +kernel
theorem dL_law_256 : decode cL_law 256 = .ok (.aload_n 0, 1) := by decide +kernel
theorem dL_law_257 : decode cL_law 257 = .ok (.iload_n 3, 1) := by decide +kernel
theorem dL_law_258 : decode cL_law 258 = .ok (.iconst 1, 1) := by decide +kernel
theorem dL_law_259 : decode cL_law 259 = .ok (.iadd, 1) := by decide +kernel
theorem dL_law_260 : decode cL_law 260 = .ok (.iaload, 1) := by decide +kernel
theorem dL_law_261 : decode cL_law 261 = .ok (.aload_n 0, 1) := by decide +kernel
theorem dL_law_262 : decode cL_law 262 = .ok (.iload_n 3, 1) := by decide +kernel
theorem dL_law_263 : decode cL_law 263 = .ok (.iconst 2, 1) := by decide +kernel
theorem dL_law_264 : decode cL_law 264 = .ok (.iadd, 1) := by decide +kernel
theorem dL_law_265 : decode cL_law 265 = .ok (.iaload, 1) := by decide +kernel
theorem dL_law_266 : decode cL_law 266 = .ok (.invokevirtual 39, 3) := by decide +kernel
theorem dL_law_269 : decode cL_law 269 = .ok (.if_icmp .eq 569, 3) := by decide +kernel
theorem dL_law_272 : decode cL_law 272 = .ok (.iconst 0, 1) := by decide +kernel
theorem dL_law_273 : decode cL_law 273 = .ok (.ireturn, 1) := by decide +kernel
theorem dL_law_274 : decode cL_law 274 = .ok (.aload_n 1, 1) := by decide +kernel
theorem dL_law_275 : decode cL_law 275 = .ok (.aload_n 0, 1) := by decide +kernel
theorem dL_law_276 : decode cL_law 276 = .ok (.iload_n 3, 1) := by decide +kernel
theorem dL_law_277 : decode cL_law 277 = .ok (.iconst 1, 1) := by decide +kernel
theorem dL_law_278 : decode cL_law 278 = .ok (.iadd, 1) := by decide +kernel
theorem dL_law_279 : decode cL_law 279 = .ok (.iaload, 1) := by decide +kernel
theorem dL_law_280 : decode cL_law 280 = .ok (.aload_n 0, 1) := by decide +kernel
theorem dL_law_281 : decode cL_law 281 = .ok (.iload_n 3, 1) := by decide +kernel
theorem dL_law_282 : decode cL_law 282 = .ok (.iconst 2, 1) := by decide +kernel
theorem dL_law_283 : decode cL_law 283 = .ok (.iadd, 1) := by decide +kernel
theorem dL_law_284 : decode cL_law 284 = .ok (.iaload, 1) := by decide +kernel
theorem dL_law_285 : decode cL_law 285 = .ok (.aload_n 0, 1) := by decide +kernel
theorem dL_law_286 : decode cL_law 286 = .ok (.iload_n 3, 1) := by decide +kernel
theorem dL_law_287 : decode cL_law 287 = .ok (.iconst 3, 1) := by decide +kernel
theorem dL_law_288 : decode cL_law 288 = .ok (.iadd, 1) := by decide +kernel
theorem dL_law_289 : decode cL_law 289 = .ok (.iaload, 1) := by decide +kernel
theorem dL_law_290 : decode cL_law 290 = .ok (.invokevirtual 40, 3) := by decide +kernel
theorem dL_law_293 : decode cL_law 293 = .ok (.aload_n 2, 1) := by decide +kernel
theorem dL_law_294 : decode cL_law 294 = .ok (.aload_n 0, 1) := by decide +kernel
theorem dL_law_295 : decode cL_law 295 = .ok (.iload_n 3, 1) := by decide +kernel
theorem dL_law_296 : decode cL_law 296 = .ok (.iconst 1, 1) := by decide +kernel
theorem dL_law_297 : decode cL_law 297 = .ok (.iadd, 1) := by decide +kernel
theorem dL_law_298 : decode cL_law 298 = .ok (.iaload, 1) := by decide +kernel
theorem dL_law_299 : decode cL_law 299 = .ok (.aload_n 0, 1) := by decide +kernel
theorem dL_law_300 : decode cL_law 300 = .ok (.iload_n 3, 1) := by decide +kernel
theorem dL_law_301 : decode cL_law 301 = .ok (.iconst 2, 1) := by decide +kernel
theorem dL_law_302 : decode cL_law 302 = .ok (.iadd, 1) := by decide +kernel
theorem dL_law_303 : decode cL_law 303 = .ok (.iaload, 1) := by decide +kernel
theorem dL_law_304 : decode cL_law 304 = .ok (.aload_n 0, 1) := by decide +kernel
theorem dL_law_305 : decode cL_law 305 = .ok (.iload_n 3, 1) := by decide +kernel
theorem dL_law_306 : decode cL_law 306 = .ok (.iconst 3, 1) := by decide +kernel
theorem dL_law_307 : decode cL_law 307 = .ok (.iadd, 1) := by decide +kernel
theorem dL_law_308 : decode cL_law 308 = .ok (.iaload, 1) := by decide +kernel
theorem dL_law_309 : decode cL_law 309 = .ok (.invokevirtual 44, 3) := by decide +kernel
theorem dL_law_312 : decode cL_law 312 = .ok (.if_icmp .eq 526, 3) := by decide +kernel
theorem dL_law_315 : decode cL_law 315 = .ok (.iconst 0, 1) := by decide +kernel
theorem dL_law_316 : decode cL_law 316 = .ok (.ireturn, 1) := by decide +kernel
theorem dL_law_317 : decode cL_law 317 = .ok (.aload_n 1, 1) := by decide +kernel
theorem dL_law_318 : decode cL_law 318 = .ok (.aload_n 0, 1) := by decide +kernel
theorem dL_law_319 : decode cL_law 319 = .ok (.iload_n 3, 1) := by decide +kernel
theorem dL_law_320 : decode cL_law 320 = .ok (.iconst 1, 1) := by decide +kernel
theorem dL_law_321 : decode cL_law 321 = .ok (.iadd, 1) := by decide +kernel
theorem dL_law_322 : decode cL_law 322 = .ok (.iaload, 1) := by decide +kernel
theorem dL_law_323 : decode cL_law 323 = .ok (.aload_n 0, 1) := by decide +kernel
theorem dL_law_324 : decode cL_law 324 = .ok (.iload_n 3, 1) := by decide +kernel
theorem dL_law_325 : decode cL_law 325 = .ok (.iconst 2, 1) := by decide +kernel
theorem dL_law_326 : decode cL_law 326 = .ok (.iadd, 1) := by decide +kernel
theorem dL_law_327 : decode cL_law 327 = .ok (.iaload, 1) := by decide +kernel
theorem dL_law_328 : decode cL_law 328 = .ok (.invokevirtual 45, 3) := by decide +kernel
theorem dL_law_331 : decode cL_law 331 = .ok (.aload_n 2, 1) := by decide +kernel
theorem dL_law_332 : decode cL_law 332 = .ok (.aload_n 0, 1) := by decide +kernel
theorem dL_law_333 : decode cL_law 333 = .ok (.iload_n 3, 1) := by decide +kernel
theorem dL_law_334 : decode cL_law 334 = .ok (.iconst 1, 1) := by decide +kernel
theorem dL_law_335 : decode cL_law 335 = .ok (.iadd, 1) := by decide +kernel
theorem dL_law_336 : decode cL_law 336 = .ok (.iaload, 1) := by decide +kernel
theorem dL_law_337 : decode cL_law 337 = .ok (.aload_n 0, 1) := by decide +kernel
theorem dL_law_338 : decode cL_law 338 = .ok (.iload_n 3, 1) := by decide +kernel
theorem dL_law_339 : decode cL_law 339 = .ok (.iconst 2, 1) := by decide +kernel
theorem dL_law_340 : decode cL_law 340 = .ok (.iadd, 1) := by decide +kernel
theorem dL_law_341 : decode cL_law 341 = .ok (.iaload, 1) := by decide +kernel
theorem dL_law_342 : decode cL_law 342 = .ok (.invokevirtual 48, 3) := by decide +kernel
theorem dL_law_345 : decode cL_law 345 = .ok (.if_icmp .eq 493, 3) := by decide +kernel
theorem dL_law_348 : decode cL_law 348 = .ok (.iconst 0, 1) := by decide +kernel
theorem dL_law_349 : decode cL_law 349 = .ok (.ireturn, 1) := by decide +kernel
theorem dL_law_350 : decode cL_law 350 = .ok (.aload_n 1, 1) := by decide +kernel
theorem dL_law_351 : decode cL_law 351 = .ok (.aload_n 0, 1) := by decide +kernel
theorem dL_law_352 : decode cL_law 352 = .ok (.iload_n 3, 1) := by decide +kernel
theorem dL_law_353 : decode cL_law 353 = .ok (.iconst 1, 1) := by decide +kernel
theorem dL_law_354 : decode cL_law 354 = .ok (.iadd, 1) := by decide +kernel
theorem dL_law_355 : decode cL_law 355 = .ok (.iaload, 1) := by decide +kernel
theorem dL_law_356 : decode cL_law 356 = .ok (.aload_n 0, 1) := by decide +kernel
theorem dL_law_357 : decode cL_law 357 = .ok (.iload_n 3, 1) := by decide +kernel
theorem dL_law_358 : decode cL_law 358 = .ok (.iconst 2, 1) := by decide +kernel
theorem dL_law_359 : decode cL_law 359 = .ok (.iadd, 1) := by decide +kernel
theorem dL_law_360 : decode cL_law 360 = .ok (.iaload, 1) := by decide +kernel
theorem dL_law_361 : decode cL_law 361 = .ok (.invokevirtual 49, 3) := by decide +kernel
theorem dL_law_364 : decode cL_law 364 = .ok (.aload_n 2, 1) := by decide +kernel
theorem dL_law_365 : decode cL_law 365 = .ok (.aload_n 0, 1) := by decide +kernel
theorem dL_law_366 : decode cL_law 366 = .ok (.iload_n 3, 1) := by decide +kernel
theorem dL_law_367 : decode cL_law 367 = .ok (.iconst 1, 1) := by decide +kernel
theorem dL_law_368 : decode cL_law 368 = .ok (.iadd, 1) := by decide +kernel
theorem dL_law_369 : decode cL_law 369 = .ok (.iaload, 1) := by decide +kernel
theorem dL_law_370 : decode cL_law 370 = .ok (.aload_n 0, 1) := by decide +kernel
theorem dL_law_371 : decode cL_law 371 = .ok (.iload_n 3, 1) := by decide +kernel
theorem dL_law_372 : decode cL_law 372 = .ok (.iconst 2, 1) := by decide +kernel
theorem dL_law_373 : decode cL_law 373 = .ok (.iadd, 1) := by decide +kernel
theorem dL_law_374 : decode cL_law 374 = .ok (.iaload, 1) := by decide +kernel
theorem dL_law_375 : decode cL_law 375 = .ok (.invokevirtual 52, 3) := by decide +kernel
theorem dL_law_378 : decode cL_law 378 = .ok (.if_icmp .eq 460, 3) := by decide +kernel
theorem dL_law_381 : decode cL_law 381 = .ok (.iconst 0, 1) := by decide +kernel
theorem dL_law_382 : decode cL_law 382 = .ok (.ireturn, 1) := by decide +kernel
theorem dL_law_383 : decode cL_law 383 = .ok (.aload_n 1, 1) := by decide +kernel
theorem dL_law_384 : decode cL_law 384 = .ok (.aload_n 0, 1) := by decide +kernel
theorem dL_law_385 : decode cL_law 385 = .ok (.iload_n 3, 1) := by decide +kernel
theorem dL_law_386 : decode cL_law 386 = .ok (.iconst 1, 1) := by decide +kernel
theorem dL_law_387 : decode cL_law 387 = .ok (.iadd, 1) := by decide +kernel
theorem dL_law_388 : decode cL_law 388 = .ok (.iaload, 1) := by decide +kernel
theorem dL_law_389 : decode cL_law 389 = .ok (.aload_n 0, 1) := by decide +kernel
theorem dL_law_390 : decode cL_law 390 = .ok (.iload_n 3, 1) := by decide +kernel
theorem dL_law_391 : decode cL_law 391 = .ok (.iconst 2, 1) := by decide +kernel
theorem dL_law_392 : decode cL_law 392 = .ok (.iadd, 1) := by decide +kernel
theorem dL_law_393 : decode cL_law 393 = .ok (.iaload, 1) := by decide +kernel
theorem dL_law_394 : decode cL_law 394 = .ok (.invokevirtual 53, 3) := by decide +kernel
theorem dL_law_397 : decode cL_law 397 = .ok (.aload_n 2, 1) := by decide +kernel
theorem dL_law_398 : decode cL_law 398 = .ok (.aload_n 0, 1) := by decide +kernel
theorem dL_law_399 : decode cL_law 399 = .ok (.iload_n 3, 1) := by decide +kernel
theorem dL_law_400 : decode cL_law 400 = .ok (.iconst 1, 1) := by decide +kernel
theorem dL_law_401 : decode cL_law 401 = .ok (.iadd, 1) := by decide +kernel
theorem dL_law_402 : decode cL_law 402 = .ok (.iaload, 1) := by decide +kernel
theorem dL_law_403 : decode cL_law 403 = .ok (.aload_n 0, 1) := by decide +kernel
theorem dL_law_404 : decode cL_law 404 = .ok (.iload_n 3, 1) := by decide +kernel
theorem dL_law_405 : decode cL_law 405 = .ok (.iconst 2, 1) := by decide +kernel
theorem dL_law_406 : decode cL_law 406 = .ok (.iadd, 1) := by decide +kernel
theorem dL_law_407 : decode cL_law 407 = .ok (.iaload, 1) := by decide +kernel
theorem dL_law_408 : decode cL_law 408 = .ok (.invokevirtual 56, 3) := by decide +kernel
theorem dL_law_411 : decode cL_law 411 = .ok (.if_icmp .eq 427, 3) := by decide +kernel
theorem dL_law_414 : decode cL_law 414 = .ok (.iconst 0, 1) := by decide +kernel
theorem dL_law_415 : decode cL_law 415 = .ok (.ireturn, 1) := by decide +kernel
theorem dL_law_416 : decode cL_law 416 = .ok (.aload_n 1, 1) := by decide +kernel
theorem dL_law_417 : decode cL_law 417 = .ok (.aload_n 0, 1) := by decide +kernel
theorem dL_law_418 : decode cL_law 418 = .ok (.iload_n 3, 1) := by decide +kernel
theorem dL_law_419 : decode cL_law 419 = .ok (.iconst 1, 1) := by decide +kernel
theorem dL_law_420 : decode cL_law 420 = .ok (.iadd, 1) := by decide +kernel
theorem dL_law_421 : decode cL_law 421 = .ok (.iaload, 1) := by decide +kernel
theorem dL_law_422 : decode cL_law 422 = .ok (.aload_n 0, 1) := by decide +kernel
theorem dL_law_423 : decode cL_law 423 = .ok (.iload_n 3, 1) := by decide +kernel
theorem dL_law_424 : decode cL_law 424 = .ok (.iconst 2, 1) := by decide +kernel
theorem dL_law_425 : decode cL_law 425 = .ok (.iadd, 1) := by decide +kernel
theorem dL_law_426 : decode cL_law 426 = .ok (.iaload, 1) := by decide +kernel
theorem dL_law_427 : decode cL_law 427 = .ok (.aload_n 0, 1) := by decide +kernel
theorem dL_law_428 : decode cL_law 428 = .ok (.iload_n 3, 1) := by decide +kernel
theorem dL_law_429 : decode cL_law 429 = .ok (.iconst 3, 1) := by decide +kernel
theorem dL_law_430 : decode cL_law 430 = .ok (.iadd, 1) := by decide +kernel
theorem dL_law_431 : decode cL_law 431 = .ok (.iaload, 1) := by decide +kernel
theorem dL_law_432 : decode cL_law 432 = .ok (.invokevirtual 57, 3) := by decide +kernel
theorem dL_law_435 : decode cL_law 435 = .ok (.aload_n 2, 1) := by decide +kernel
theorem dL_law_436 : decode cL_law 436 = .ok (.aload_n 0, 1) := by decide +kernel
theorem dL_law_437 : decode cL_law 437 = .ok (.iload_n 3, 1) := by decide +kernel
theorem dL_law_438 : decode cL_law 438 = .ok (.iconst 1, 1) := by decide +kernel
theorem dL_law_439 : decode cL_law 439 = .ok (.iadd, 1) := by decide +kernel
theorem dL_law_440 : decode cL_law 440 = .ok (.iaload, 1) := by decide +kernel
theorem dL_law_441 : decode cL_law 441 = .ok (.aload_n 0, 1) := by decide +kernel
theorem dL_law_442 : decode cL_law 442 = .ok (.iload_n 3, 1) := by decide +kernel
theorem dL_law_443 : decode cL_law 443 = .ok (.iconst 2, 1) := by decide +kernel
theorem dL_law_444 : decode cL_law 444 = .ok (.iadd, 1) := by decide +kernel
theorem dL_law_445 : decode cL_law 445 = .ok (.iaload, 1) := by decide +kernel
theorem dL_law_446 : decode cL_law 446 = .ok (.aload_n 0, 1) := by decide +kernel
theorem dL_law_447 : decode cL_law 447 = .ok (.iload_n 3, 1) := by decide +kernel
theorem dL_law_448 : decode cL_law 448 = .ok (.iconst 3, 1) := by decide +kernel
theorem dL_law_449 : decode cL_law 449 = .ok (.iadd, 1) := by decide +kernel
theorem dL_law_450 : decode cL_law 450 = .ok (.iaload, 1) := by decide +kernel
theorem dL_law_451 : decode cL_law 451 = .ok (.invokevirtual 60, 3) := by decide +kernel
theorem dL_law_454 : decode cL_law 454 = .ok (.if_icmp .eq 384, 3) := by decide +kernel
theorem dL_law_457 : decode cL_law 457 = .ok (.iconst 0, 1) := by decide +kernel
theorem dL_law_458 : decode cL_law 458 = .ok (.ireturn, 1) := by decide +kernel
theorem dL_law_459 : decode cL_law 459 = .ok (.aload_n 1, 1) := by decide +kernel
theorem dL_law_460 : decode cL_law 460 = .ok (.aload_n 0, 1) := by decide +kernel
theorem dL_law_461 : decode cL_law 461 = .ok (.iload_n 3, 1) := by decide +kernel
theorem dL_law_462 : decode cL_law 462 = .ok (.iconst 1, 1) := by decide +kernel
theorem dL_law_463 : decode cL_law 463 = .ok (.iadd, 1) := by decide +kernel
theorem dL_law_464 : decode cL_law 464 = .ok (.iaload, 1) := by decide +kernel
theorem dL_law_465 : decode cL_law 465 = .ok (.invokevirtual 61, 3) := by decide +kernel
theorem dL_law_468 : decode cL_law 468 = .ok (.aload_n 2, 1) := by decide +kernel
theorem dL_law_469 : decode cL_law 469 = .ok (.aload_n 0, 1) := by decide +kernel
theorem dL_law_470 : decode cL_law 470 = .ok (.iload_n 3, 1) := by decide +kernel
theorem dL_law_471 : decode cL_law 471 = .ok (.iconst 1, 1) := by decide +kernel
theorem dL_law_472 : decode cL_law 472 = .ok (.iadd, 1) := by decide +kernel
theorem dL_law_473 : decode cL_law 473 = .ok (.iaload, 1) := by decide +kernel
theorem dL_law_474 : decode cL_law 474 = .ok (.invokevirtual 64, 3) := by decide +kernel
theorem dL_law_477 : decode cL_law 477 = .ok (.if_icmp .eq 361, 3) := by decide +kernel
theorem dL_law_480 : decode cL_law 480 = .ok (.iconst 0, 1) := by decide +kernel
theorem dL_law_481 : decode cL_law 481 = .ok (.ireturn, 1) := by decide +kernel
theorem dL_law_482 : decode cL_law 482 = .ok (.aload_n 1, 1) := by decide +kernel
theorem dL_law_483 : decode cL_law 483 = .ok (.aload_n 0, 1) := by decide +kernel
theorem dL_law_484 : decode cL_law 484 = .ok (.iload_n 3, 1) := by decide +kernel
theorem dL_law_485 : decode cL_law 485 = .ok (.iconst 1, 1) := by decide +kernel
theorem dL_law_486 : decode cL_law 486 = .ok (.iadd, 1) := by decide +kernel
theorem dL_law_487 : decode cL_law 487 = .ok (.iaload, 1) := by decide +kernel
theorem dL_law_488 : decode cL_law 488 = .ok (.invokevirtual 65, 3) := by decide +kernel
theorem dL_law_491 : decode cL_law 491 = .ok (.aload_n 2, 1) := by decide +kernel
theorem dL_law_492 : decode cL_law 492 = .ok (.aload_n 0, 1) := by decide +kernel
theorem dL_law_493 : decode cL_law 493 = .ok (.iload_n 3, 1) := by decide +kernel
theorem dL_law_494 : decode cL_law 494 = .ok (.iconst 1, 1) := by decide +kernel
theorem dL_law_495 : decode cL_law 495 = .ok (.iadd, 1) := by decide +kernel
theorem dL_law_496 : decode cL_law 496 = .ok (.iaload, 1) := by decide +kernel
theorem dL_law_497 : decode cL_law 497 = .ok (.invokevirtual 68, 3) := by decide +kernel
theorem dL_law_500 : decode cL_law 500 = .ok (.if_icmp .eq 338, 3) := by decide +kernel
theorem dL_law_503 : decode cL_law 503 = .ok (.iconst 0, 1) := by decide +kernel
theorem dL_law_504 : decode cL_law 504 = .ok (.ireturn, 1) := by decide +kernel
theorem dL_law_505 : decode cL_law 505 = .ok (.aload_n 1, 1) := by decide +kernel
theorem dL_law_506 : decode cL_law 506 = .ok (.aload_n 0, 1) := by decide +kernel
theorem dL_law_507 : decode cL_law 507 = .ok (.iload_n 3, 1) := by decide +kernel
theorem dL_law_508 : decode cL_law 508 = .ok (.iconst 1, 1) := by decide +kernel
theorem dL_law_509 : decode cL_law 509 = .ok (.iadd, 1) := by decide +kernel
theorem dL_law_510 : decode cL_law 510 = .ok (.iaload, 1) := by decide +kernel
theorem dL_law_511 : decode cL_law 511 = .ok (.invokevirtual 69, 3) := by decide +kernel
theorem dL_law_514 : decode cL_law 514 = .ok (.aload_n 2, 1) := by decide +kernel
theorem dL_law_515 : decode cL_law 515 = .ok (.aload_n 0, 1) := by decide +kernel
theorem dL_law_516 : decode cL_law 516 = .ok (.iload_n 3, 1) := by decide +kernel
theorem dL_law_517 : decode cL_law 517 = .ok (.iconst 1, 1) := by decide +kernel
theorem dL_law_518 : decode cL_law 518 = .ok (.iadd, 1) := by decide +kernel
theorem dL_law_519 : decode cL_law 519 = .ok (.iaload, 1) := by decide +kernel
theorem dL_law_520 : decode cL_law 520 = .ok (.invokevirtual 72, 3) := by decide +kernel
theorem dL_law_523 : decode cL_law 523 = .ok (.if_icmp .eq 315, 3) := by decide +kernel
theorem dL_law_526 : decode cL_law 526 = .ok (.iconst 0, 1) := by decide +kernel
theorem dL_law_527 : decode cL_law 527 = .ok (.ireturn, 1) := by decide +kernel
theorem dL_law_528 : decode cL_law 528 = .ok (.aload_n 1, 1) := by decide +kernel
theorem dL_law_529 : decode cL_law 529 = .ok (.aload_n 0, 1) := by decide +kernel
theorem dL_law_530 : decode cL_law 530 = .ok (.iload_n 3, 1) := by decide +kernel
theorem dL_law_531 : decode cL_law 531 = .ok (.iconst 1, 1) := by decide +kernel
theorem dL_law_532 : decode cL_law 532 = .ok (.iadd, 1) := by decide +kernel
theorem dL_law_533 : decode cL_law 533 = .ok (.iaload, 1) := by decide +kernel
theorem dL_law_534 : decode cL_law 534 = .ok (.invokevirtual 73, 3) := by decide +kernel
theorem dL_law_537 : decode cL_law 537 = .ok (.aload_n 2, 1) := by decide +kernel
theorem dL_law_538 : decode cL_law 538 = .ok (.aload_n 0, 1) := by decide +kernel
theorem dL_law_539 : decode cL_law 539 = .ok (.iload_n 3, 1) := by decide +kernel
theorem dL_law_540 : decode cL_law 540 = .ok (.iconst 1, 1) := by decide +kernel
theorem dL_law_541 : decode cL_law 541 = .ok (.iadd, 1) := by decide +kernel
theorem dL_law_542 : decode cL_law 542 = .ok (.iaload, 1) := by decide +kernel
theorem dL_law_543 : decode cL_law 543 = .ok (.invokevirtual 76, 3) := by decide +kernel
theorem dL_law_546 : decode cL_law 546 = .ok (.if_icmp .eq 292, 3) := by decide +kernel
theorem dL_law_549 : decode cL_law 549 = .ok (.iconst 0, 1) := by decide +kernel
theorem dL_law_550 : decode cL_law 550 = .ok (.ireturn, 1) := by decide +kernel
theorem dL_law_551 : decode cL_law 551 = .ok (.aload_n 1, 1) := by decide +kernel
theorem dL_law_552 : decode cL_law 552 = .ok (.aload_n 0, 1) := by decide +kernel
theorem dL_law_553 : decode cL_law 553 = .ok (.iload_n 3, 1) := by decide +kernel
theorem dL_law_554 : decode cL_law 554 = .ok (.iconst 1, 1) := by decide +kernel
theorem dL_law_555 : decode cL_law 555 = .ok (.iadd, 1) := by decide +kernel
theorem dL_law_556 : decode cL_law 556 = .ok (.iaload, 1) := by decide +kernel
theorem dL_law_557 : decode cL_law 557 = .ok (.aload_n 0, 1) := by decide +kernel
theorem dL_law_558 : decode cL_law 558 = .ok (.iload_n 3, 1) := by decide +kernel
theorem dL_law_559 : decode cL_law 559 = .ok (.iconst 2, 1) := by decide +kernel
theorem dL_law_560 : decode cL_law 560 = .ok (.iadd, 1) := by decide +kernel
theorem dL_law_561 : decode cL_law 561 = .ok (.iaload, 1) := by decide +kernel
theorem dL_law_562 : decode cL_law 562 = .ok (.invokevirtual 77, 3) := by decide +kernel
theorem dL_law_565 : decode cL_law 565 = .ok (.aload_n 2, 1) := by decide +kernel
theorem dL_law_566 : decode cL_law 566 = .ok (.aload_n 0, 1) := by decide +kernel
theorem dL_law_567 : decode cL_law 567 = .ok (.iload_n 3, 1) := by decide +kernel
theorem dL_law_568 : decode cL_law 568 = .ok (.iconst 1, 1) := by decide +kernel
theorem dL_law_569 : decode cL_law 569 = .ok (.iadd, 1) := by decide +kernel
theorem dL_law_570 : decode cL_law 570 = .ok (.iaload, 1) := by decide +kernel
theorem dL_law_571 : decode cL_law 571 = .ok (.aload_n 0, 1) := by decide +kernel
theorem dL_law_572 : decode cL_law 572 = .ok (.iload_n 3, 1) := by decide +kernel
theorem dL_law_573 : decode cL_law 573 = .ok (.iconst 2, 1) := by decide +kernel
theorem dL_law_574 : decode cL_law 574 = .ok (.iadd, 1) := by decide +kernel
theorem dL_law_575 : decode cL_law 575 = .ok (.iaload, 1) := by decide +kernel
theorem dL_law_576 : decode cL_law 576 = .ok (.invokevirtual 80, 3) := by decide +kernel
theorem dL_law_579 : decode cL_law 579 = .ok (.if_icmp .eq 259, 3) := by decide +kernel
theorem dL_law_582 : decode cL_law 582 = .ok (.iconst 0, 1) := by decide +kernel
theorem dL_law_583 : decode cL_law 583 = .ok (.ireturn, 1) := by decide +kernel
theorem dL_law_584 : decode cL_law 584 = .ok (.aload_n 1, 1) := by decide +kernel
theorem dL_law_585 : decode cL_law 585 = .ok (.aload_n 0, 1) := by decide +kernel
theorem dL_law_586 : decode cL_law 586 = .ok (.iload_n 3, 1) := by decide +kernel
theorem dL_law_587 : decode cL_law 587 = .ok (.iconst 1, 1) := by decide +kernel
theorem dL_law_588 : decode cL_law 588 = .ok (.iadd, 1) := by decide +kernel
theorem dL_law_589 : decode cL_law 589 = .ok (.iaload, 1) := by decide +kernel
theorem dL_law_590 : decode cL_law 590 = .ok (.aload_n 0, 1) := by decide +kernel
theorem dL_law_591 : decode cL_law 591 = .ok (.iload_n 3, 1) := by decide +kernel
theorem dL_law_592 : decode cL_law 592 = .ok (.iconst 2, 1) := by decide +kernel
theorem dL_law_593 : decode cL_law 593 = .ok (.iadd, 1) := by decide +kernel
theorem dL_law_594 : decode cL_law 594 = .ok (.iaload, 1) := by decide +kernel
theorem dL_law_595 : decode cL_law 595 = .ok (.invokevirtual 81, 3) := by decide +kernel
theorem dL_law_598 : decode cL_law 598 = .ok (.aload_n 2, 1) := by decide +kernel
theorem dL_law_599 : decode cL_law 599 = .ok (.aload_n 0, 1) := by decide +kernel
theorem dL_law_600 : decode cL_law 600 = .ok (.iload_n 3, 1) := by decide +kernel
theorem dL_law_601 : decode cL_law 601 = .ok (.iconst 1, 1) := by decide +kernel
theorem dL_law_602 : decode cL_law 602 = .ok (.iadd, 1) := by decide +kernel
theorem dL_law_603 : decode cL_law 603 = .ok (.iaload, 1) := by decide +kernel
theorem dL_law_604 : decode cL_law 604 = .ok (.aload_n 0, 1) := by decide +kernel
theorem dL_law_605 : decode cL_law 605 = .ok (.iload_n 3, 1) := by decide +kernel
theorem dL_law_606 : decode cL_law 606 = .ok (.iconst 2, 1) := by decide +kernel
theorem dL_law_607 : decode cL_law 607 = .ok (.iadd, 1) := by decide +kernel
theorem dL_law_608 : decode cL_law 608 = .ok (.iaload, 1) := by decide +kernel
theorem dL_law_609 : decode cL_law 609 = .ok (.invokevirtual 84, 3) := by decide +kernel
theorem dL_law_612 : decode cL_law 612 = .ok (.if_icmp .eq 226, 3) := by decide +kernel
theorem dL_law_615 : decode cL_law 615 = .ok (.iconst 0, 1) := by decide +kernel
theorem dL_law_616 : decode cL_law 616 = .ok (.ireturn, 1) := by decide +kernel
theorem dL_law_617 : decode cL_law 617 = .ok (.aload_n 1, 1) := by decide +kernel
theorem dL_law_618 : decode cL_law 618 = .ok (.aload_n 0, 1) := by decide +kernel
theorem dL_law_619 : decode cL_law 619 = .ok (.iload_n 3, 1) := by decide +kernel
theorem dL_law_620 : decode cL_law 620 = .ok (.iconst 1, 1) := by decide +kernel
theorem dL_law_621 : decode cL_law 621 = .ok (.iadd, 1) := by decide +kernel
theorem dL_law_622 : decode cL_law 622 = .ok (.iaload, 1) := by decide +kernel
theorem dL_law_623 : decode cL_law 623 = .ok (.invokevirtual 85, 3) := by decide +kernel
theorem dL_law_626 : decode cL_law 626 = .ok (.aload_n 2, 1) := by decide +kernel
theorem dL_law_627 : decode cL_law 627 = .ok (.aload_n 0, 1) := by decide +kernel
theorem dL_law_628 : decode cL_law 628 = .ok (.iload_n 3, 1) := by decide +kernel
theorem dL_law_629 : decode cL_law 629 = .ok (.iconst 1, 1) := by decide +kernel
theorem dL_law_630 : decode cL_law 630 = .ok (.iadd, 1) := by decide +kernel
theorem dL_law_631 : decode cL_law 631 = .ok (.iaload, 1) := by decide +kernel
theorem dL_law_632 : decode cL_law 632 = .ok (.invokevirtual 88, 3) := by decide +kernel
theorem dL_law_635 : decode cL_law 635 = .ok (.if_icmp .eq 203, 3) := by decide +kernel
theorem dL_law_638 : decode cL_law 638 = .ok (.iconst 0, 1) := by decide +kernel
theorem dL_law_639 : decode cL_law 639 = .ok (.ireturn, 1) := by decide +kernel
theorem dL_law_640 : decode cL_law 640 = .ok (.aload_n 1, 1) := by decide +kernel
theorem dL_law_641 : decode cL_law 641 = .ok (.aload_n 0, 1) := by decide +kernel
theorem dL_law_642 : decode cL_law 642 = .ok (.iload_n 3, 1) := by decide +kernel
theorem dL_law_643 : decode cL_law 643 = .ok (.iconst 1, 1) := by decide +kernel
theorem dL_law_644 : decode cL_law 644 = .ok (.iadd, 1) := by decide +kernel
theorem dL_law_645 : decode cL_law 645 = .ok (.iaload, 1) := by decide +kernel
theorem dL_law_646 : decode cL_law 646 = .ok (.aload_n 0, 1) := by decide +kernel
theorem dL_law_647 : decode cL_law 647 = .ok (.iload_n 3, 1) := by decide +kernel
theorem dL_law_648 : decode cL_law 648 = .ok (.iconst 2, 1) := by decide +kernel
theorem dL_law_649 : decode cL_law 649 = .ok (.iadd, 1) := by decide +kernel
theorem dL_law_650 : decode cL_law 650 = .ok (.iaload, 1) := by decide +kernel
theorem dL_law_651 : decode cL_law 651 = .ok (.invokevirtual 89, 3) := by decide +kernel
theorem dL_law_654 : decode cL_law 654 = .ok (.aload_n 2, 1) := by decide +kernel
theorem dL_law_655 : decode cL_law 655 = .ok (.aload_n 0, 1) := by decide +kernel
theorem dL_law_656 : decode cL_law 656 = .ok (.iload_n 3, 1) := by decide +kernel
theorem dL_law_657 : decode cL_law 657 = .ok (.iconst 1, 1) := by decide +kernel
theorem dL_law_658 : decode cL_law 658 = .ok (.iadd, 1) := by decide +kernel
theorem dL_law_659 : decode cL_law 659 = .ok (.iaload, 1) := by decide +kernel
theorem dL_law_660 : decode cL_law 660 = .ok (.aload_n 0, 1) := by decide +kernel
theorem dL_law_661 : decode cL_law 661 = .ok (.iload_n 3, 1) := by decide +kernel
theorem dL_law_662 : decode cL_law 662 = .ok (.iconst 2, 1) := by decide +kernel
theorem dL_law_663 : decode cL_law 663 = .ok (.iadd, 1) := by decide +kernel
theorem dL_law_664 : decode cL_law 664 = .ok (.iaload, 1) := by decide +kernel
theorem dL_law_665 : decode cL_law 665 = .ok (.invokevirtual 92, 3) := by decide +kernel
theorem dL_law_668 : decode cL_law 668 = .ok (.if_icmp .eq 170, 3) := by decide +kernel
theorem dL_law_671 : decode cL_law 671 = .ok (.iconst 0, 1) := by decide +kernel
theorem dL_law_672 : decode cL_law 672 = .ok (.ireturn, 1) := by decide +kernel
theorem dL_law_673 : decode cL_law 673 = .ok (.aload_n 1, 1) := by decide +kernel
theorem dL_law_674 : decode cL_law 674 = .ok (.invokevirtual 93, 3) := by decide +kernel
theorem dL_law_677 : decode cL_law 677 = .ok (.aload_n 2, 1) := by decide +kernel
theorem dL_law_678 : decode cL_law 678 = .ok (.invokevirtual 96, 3) := by decide +kernel
theorem dL_law_681 : decode cL_law 681 = .ok (.if_icmp .eq 157, 3) := by decide +kernel
theorem dL_law_684 : decode cL_law 684 = .ok (.iconst 0, 1) := by decide +kernel
theorem dL_law_685 : decode cL_law 685 = .ok (.ireturn, 1) := by decide +kernel
theorem dL_law_686 : decode cL_law 686 = .ok (.aload_n 1, 1) := by decide +kernel
theorem dL_law_687 : decode cL_law 687 = .ok (.aload_n 0, 1) := by decide +kernel
theorem dL_law_688 : decode cL_law 688 = .ok (.iload_n 3, 1) := by decide +kernel
theorem dL_law_689 : decode cL_law 689 = .ok (.iconst 1, 1) := by decide +kernel
theorem dL_law_690 : decode cL_law 690 = .ok (.iadd, 1) := by decide +kernel
theorem dL_law_691 : decode cL_law 691 = .ok (.iaload, 1) := by decide +kernel
theorem dL_law_692 : decode cL_law 692 = .ok (.invokevirtual 97, 3) := by decide +kernel
theorem dL_law_695 : decode cL_law 695 = .ok (.aload_n 2, 1) := by decide +kernel
theorem dL_law_696 : decode cL_law 696 = .ok (.aload_n 0, 1) := by decide +kernel
theorem dL_law_697 : decode cL_law 697 = .ok (.iload_n 3, 1) := by decide +kernel
theorem dL_law_698 : decode cL_law 698 = .ok (.iconst 1, 1) := by decide +kernel
theorem dL_law_699 : decode cL_law 699 = .ok (.iadd, 1) := by decide +kernel
theorem dL_law_700 : decode cL_law 700 = .ok (.iaload, 1) := by decide +kernel
theorem dL_law_701 : decode cL_law 701 = .ok (.invokevirtual 100, 3) := by decide +kernel
theorem dL_law_704 : decode cL_law 704 = .ok (.if_icmp .eq 134, 3) := by decide +kernel
theorem dL_law_707 : decode cL_law 707 = .ok (.iconst 0, 1) := by decide +kernel
theorem dL_law_708 : decode cL_law 708 = .ok (.ireturn, 1) := by decide +kernel
theorem dL_law_709 : decode cL_law 709 = .ok (.aload_n 1, 1) := by decide +kernel
theorem dL_law_710 : decode cL_law 710 = .ok (.invokevirtual 101, 3) := by decide +kernel
theorem dL_law_713 : decode cL_law 713 = .ok (.aload_n 2, 1) := by decide +kernel
theorem dL_law_714 : decode cL_law 714 = .ok (.invokevirtual 104, 3) := by decide +kernel
theorem dL_law_717 : decode cL_law 717 = .ok (.if_icmp .eq 121, 3) := by decide +kernel
theorem dL_law_720 : decode cL_law 720 = .ok (.iconst 0, 1) := by decide +kernel
theorem dL_law_721 : decode cL_law 721 = .ok (.ireturn, 1) := by decide +kernel
theorem dL_law_722 : decode cL_law 722 = .ok (.aload_n 1, 1) := by decide +kernel
theorem dL_law_723 : decode cL_law 723 = .ok (.aload_n 0, 1) := by decide +kernel
theorem dL_law_724 : decode cL_law 724 = .ok (.iload_n 3, 1) := by decide +kernel
theorem dL_law_725 : decode cL_law 725 = .ok (.iconst 1, 1) := by decide +kernel
theorem dL_law_726 : decode cL_law 726 = .ok (.iadd, 1) := by decide +kernel
theorem dL_law_727 : decode cL_law 727 = .ok (.iaload, 1) := by decide +kernel
theorem dL_law_728 : decode cL_law 728 = .ok (.aload_n 0, 1) := by decide +kernel
theorem dL_law_729 : decode cL_law 729 = .ok (.iload_n 3, 1) := by decide +kernel
theorem dL_law_730 : decode cL_law 730 = .ok (.iconst 2, 1) := by decide +kernel
theorem dL_law_731 : decode cL_law 731 = .ok (.iadd, 1) := by decide +kernel
theorem dL_law_732 : decode cL_law 732 = .ok (.iaload, 1) := by decide +kernel
theorem dL_law_733 : decode cL_law 733 = .ok (.aload_n 0, 1) := by decide +kernel
theorem dL_law_734 : decode cL_law 734 = .ok (.iload_n 3, 1) := by decide +kernel
theorem dL_law_735 : decode cL_law 735 = .ok (.iconst 3, 1) := by decide +kernel
theorem dL_law_736 : decode cL_law 736 = .ok (.iadd, 1) := by decide +kernel
theorem dL_law_737 : decode cL_law 737 = .ok (.iaload, 1) := by decide +kernel
theorem dL_law_738 : decode cL_law 738 = .ok (.aload_n 0, 1) := by decide +kernel
theorem dL_law_739 : decode cL_law 739 = .ok (.iload_n 3, 1) := by decide +kernel
theorem dL_law_740 : decode cL_law 740 = .ok (.iconst 4, 1) := by decide +kernel
theorem dL_law_741 : decode cL_law 741 = .ok (.iadd, 1) := by decide +kernel
theorem dL_law_742 : decode cL_law 742 = .ok (.iaload, 1) := by decide +kernel
theorem dL_law_743 : decode cL_law 743 = .ok (.invokevirtual 105, 3) := by decide +kernel
theorem dL_law_746 : decode cL_law 746 = .ok (.aload_n 2, 1) := by decide +kernel
theorem dL_law_747 : decode cL_law 747 = .ok (.aload_n 0, 1) := by decide +kernel
theorem dL_law_748 : decode cL_law 748 = .ok (.iload_n 3, 1) := by decide +kernel
theorem dL_law_749 : decode cL_law 749 = .ok (.iconst 1, 1) := by decide +kernel
theorem dL_law_750 : decode cL_law 750 = .ok (.iadd, 1) := by decide +kernel
theorem dL_law_751 : decode cL_law 751 = .ok (.iaload, 1) := by decide +kernel
theorem dL_law_752 : decode cL_law 752 = .ok (.aload_n 0, 1) := by decide +kernel
theorem dL_law_753 : decode cL_law 753 = .ok (.iload_n 3, 1) := by decide +kernel
theorem dL_law_754 : decode cL_law 754 = .ok (.iconst 2, 1) := by decide +kernel
theorem dL_law_755 : decode cL_law 755 = .ok (.iadd, 1) := by decide +kernel
theorem dL_law_756 : decode cL_law 756 = .ok (.iaload, 1) := by decide +kernel
theorem dL_law_757 : decode cL_law 757 = .ok (.aload_n 0, 1) := by decide +kernel
theorem dL_law_758 : decode cL_law 758 = .ok (.iload_n 3, 1) := by decide +kernel
theorem dL_law_759 : decode cL_law 759 = .ok (.iconst 3, 1) := by decide +kernel
theorem dL_law_760 : decode cL_law 760 = .ok (.iadd, 1) := by decide +kernel
theorem dL_law_761 : decode cL_law 761 = .ok (.iaload, 1) := by decide +kernel
theorem dL_law_762 : decode cL_law 762 = .ok (.aload_n 0, 1) := by decide +kernel
theorem dL_law_763 : decode cL_law 763 = .ok (.iload_n 3, 1) := by decide +kernel
theorem dL_law_764 : decode cL_law 764 = .ok (.iconst 4, 1) := by decide +kernel
theorem dL_law_765 : decode cL_law 765 = .ok (.iadd, 1) := by decide +kernel
theorem dL_law_766 : decode cL_law 766 = .ok (.iaload, 1) := by decide +kernel
theorem dL_law_767 : decode cL_law 767 = .ok (.invokevirtual 109, 3) := by decide +kernel
theorem dL_law_770 : decode cL_law 770 = .ok (.if_icmp .eq 68, 3) := by decide +kernel
theorem dL_law_773 : decode cL_law 773 = .ok (.iconst 0, 1) := by decide +kernel
theorem dL_law_774 : decode cL_law 774 = .ok (.ireturn, 1) := by decide +kernel
theorem dL_law_775 : decode cL_law 775 = .ok (.aload_n 1, 1) := by decide +kernel
theorem dL_law_776 : decode cL_law 776 = .ok (.invokevirtual 110, 3) := by decide +kernel
theorem dL_law_779 : decode cL_law 779 = .ok (.aload_n 2, 1) := by decide +kernel
theorem dL_law_780 : decode cL_law 780 = .ok (.invokevirtual 113, 3) := by decide +kernel
theorem dL_law_783 : decode cL_law 783 = .ok (.if_icmp .eq 55, 3) := by decide +kernel
theorem dL_law_786 : decode cL_law 786 = .ok (.iconst 0, 1) := by decide +kernel
theorem dL_law_787 : decode cL_law 787 = .ok (.ireturn, 1) := by decide +kernel
theorem dL_law_788 : decode cL_law 788 = .ok (.aload_n 1, 1) := by decide +kernel
theorem dL_law_789 : decode cL_law 789 = .ok (.invokevirtual 114, 3) := by decide +kernel
theorem dL_law_792 : decode cL_law 792 = .ok (.aload_n 2, 1) := by decide +kernel
theorem dL_law_793 : decode cL_law 793 = .ok (.invokevirtual 117, 3) := by decide +kernel
theorem dL_law_796 : decode cL_law 796 = .ok (.if_icmp .eq 42, 3) := by decide +kernel
theorem dL_law_799 : decode cL_law 799 = .ok (.iconst 0, 1) := by decide +kernel
theorem dL_law_800 : decode cL_law 800 = .ok (.ireturn, 1) := by decide +kernel
theorem dL_law_801 : decode cL_law 801 = .ok (.aload_n 1, 1) := by decide +kernel
theorem dL_law_802 : decode cL_law 802 = .ok (.aload_n 0, 1) := by decide +kernel
theorem dL_law_803 : decode cL_law 803 = .ok (.iload_n 3, 1) := by decide +kernel
theorem dL_law_804 : decode cL_law 804 = .ok (.iconst 1, 1) := by decide +kernel
theorem dL_law_805 : decode cL_law 805 = .ok (.iadd, 1) := by decide +kernel
theorem dL_law_806 : decode cL_law 806 = .ok (.iaload, 1) := by decide +kernel
theorem dL_law_807 : decode cL_law 807 = .ok (.invokevirtual 118, 3) := by decide +kernel
theorem dL_law_810 : decode cL_law 810 = .ok (.aload_n 2, 1) := by decide +kernel
theorem dL_law_811 : decode cL_law 811 = .ok (.aload_n 0, 1) := by decide +kernel
theorem dL_law_812 : decode cL_law 812 = .ok (.iload_n 3, 1) := by decide +kernel
theorem dL_law_813 : decode cL_law 813 = .ok (.iconst 1, 1) := by decide +kernel
theorem dL_law_814 : decode cL_law 814 = .ok (.iadd, 1) := by decide +kernel
theorem dL_law_815 : decode cL_law 815 = .ok (.iaload, 1) := by decide +kernel
theorem dL_law_816 : decode cL_law 816 = .ok (.invokevirtual 121, 3) := by decide +kernel
theorem dL_law_819 : decode cL_law 819 = .ok (.if_icmp .eq 19, 3) := by decide +kernel
theorem dL_law_822 : decode cL_law 822 = .ok (.iconst 0, 1) := by decide +kernel
theorem dL_law_823 : decode cL_law 823 = .ok (.ireturn, 1) := by decide +kernel
theorem dL_law_824 : decode cL_law 824 = .ok (.aload_n 1, 1) := by decide +kernel
theorem dL_law_825 : decode cL_law 825 = .ok (.invokevirtual 122, 3) := by decide +kernel
theorem dL_law_828 : decode cL_law 828 = .ok (.aload_n 2, 1) := by decide +kernel
theorem dL_law_829 : decode cL_law 829 = .ok (.invokevirtual 126, 3) := by decide +kernel
theorem dL_law_832 : decode cL_law 832 = .ok (.lcmp, 1) := by decide +kernel
theorem dL_law_833 : decode cL_law 833 = .ok (.ifCond .eq 5, 3) := by decide +kernel
theorem dL_law_836 : decode cL_law 836 = .ok (.iconst 0, 1) := by decide +kernel
theorem dL_law_837 : decode cL_law 837 = .ok (.ireturn, 1) := by decide +kernel
theorem dL_law_838 : decode cL_law 838 = .ok (.iinc 3 5, 3) := by decide +kernel
theorem dL_law_841 : decode cL_law 841 = .ok (.goto (-823), 3) := by decide +kernel
theorem dL_law_844 : decode cL_law 844 = .ok (.iconst 1, 1) := by decide +kernel
theorem dL_law_845 : decode cL_law 845 = .ok (.ireturn, 1) := by decide +kernel
abbrev vwCl : List vw_C := [(RX0, TX0, 6), (RX1, TX1, 6), (RX2, TX2, 6), (RX3, TX3, 2), (RX4, TX4, 6), (RX5, TX5, 6), (RX6, TX6, 6), (RX7, TX7, 16), (RX8, TX8, 25)]
end
section
/-! plain words and rows: updates, truth values as ints, tops renamed, array rows by Nat places -/
def su {α : Type} (f : Nat → α) (k : Nat) (v : α) : Nat → α := fun j => if j = k then v else f j
theorem su_s {α : Type} (f : Nat → α) (k : Nat) (v : α) : su f k v k = v := by simp [su]
theorem su_n {α : Type} (f : Nat → α) {k j : Nat} (v : α) (h : j ≠ k) : su f k v j = f j := by simp [su, h]
theorem su_upd (f : Nat → Int32) (k : Nat) (v : Int32) : upd f k v = su f k v := rfl
def b2i (P : Prop) [Decidable P] : Int32 := if P then 1 else 0
theorem b2i_0 {P : Prop} [Decidable P] (h : b2i P = 0) : ¬ P := by
  intro hp
  rw [b2i, if_pos hp] at h
  exact absurd h (by decide)
theorem b2i_1 {P : Prop} [Decidable P] (h : ¬ b2i P = 0) : P := by
  by_cases hp : P
  · exact hp
  · exact absurd (by rw [b2i, if_neg hp]) h
theorem b2i_t {P : Prop} [Decidable P] (h : P) : (1 : Int32) = b2i P := by rw [b2i, if_pos h]
theorem b2i_f {P : Prop} [Decidable P] (h : ¬ P) : (0 : Int32) = b2i P := by rw [b2i, if_neg h]
theorem b2i_c {P Q : Prop} [Decidable P] [Decidable Q] (h : P ↔ Q) : b2i P = b2i Q := by
  by_cases hp : P
  · rw [b2i, b2i, if_pos hp, if_pos (h.mp hp)]
  · rw [b2i, b2i, if_neg hp, if_neg (fun q => hp (h.mpr q))]
theorem ix_int {x : Int32} (h : 0 ≤ x.toInt) : x = nI x.toInt.toNat := by
  have h1 := Int32.toInt_lt x
  have h2 : x.toInt.toNat < 2 ^ 31 := by omega
  apply Int32.toInt_inj.mp
  rw [nI_toInt h2]
  omega
theorem lti (a b : Int32) : a < b ↔ a.toInt < b.toInt := Int32.lt_iff_toInt_lt
theorem lei (a b : Int32) : a ≤ b ↔ a.toInt ≤ b.toInt := Int32.le_iff_toInt_le
theorem eqi (a b : Int32) : a = b ↔ a.toInt = b.toInt := Int32.toInt_inj.symm
theorem tn {n : Nat} (h : n < 2 ^ 31) : (nI n).toInt = (n : Int) := nI_toInt h
theorem lg_lt0 (x y : Int64) : lg_cmp x y < 0 ↔ x.toInt < y.toInt := by
  unfold lg_cmp
  by_cases h1 : x > y
  · rw [if_pos h1]
    have h2 : y.toInt < x.toInt := Int64.lt_iff_toInt_lt.mp h1
    constructor
    · intro h; exact absurd h (by decide)
    · intro h; omega
  · rw [if_neg h1]
    by_cases h2 : x = y
    · rw [if_pos h2]
      subst h2
      constructor
      · intro h; exact absurd h (by decide)
      · intro h; omega
    · rw [if_neg h2]
      constructor
      · intro _
        have h3 : ¬ y.toInt < x.toInt := fun z => h1 (Int64.lt_iff_toInt_lt.mpr z)
        have h4 : ¬ x.toInt = y.toInt := fun z => h2 (Int64.toInt_inj.mp z)
        omega
      · intro _; decide
theorem lg_gt0 (x y : Int64) : 0 < lg_cmp x y ↔ y.toInt < x.toInt := by
  unfold lg_cmp
  by_cases h1 : x > y
  · rw [if_pos h1]
    have h2 : y.toInt < x.toInt := Int64.lt_iff_toInt_lt.mp h1
    constructor
    · intro _; exact h2
    · intro _; decide
  · rw [if_neg h1]
    have h3 : ¬ y.toInt < x.toInt := fun z => h1 (Int64.lt_iff_toInt_lt.mpr z)
    by_cases h2 : x = y
    · rw [if_pos h2]
      constructor
      · intro h; exact absurd h (by decide)
      · intro h; exact absurd h h3
    · rw [if_neg h2]
      constructor
      · intro h; exact absurd h (by decide)
      · intro h; exact absurd h h3
/-- sums, all-of and first-of over the first n places -/
def sm (h : Nat → Int32) : Nat → Int32
  | 0 => 0
  | n + 1 => sm h n + h n
def alB (p : Nat → Bool) : Nat → Bool
  | 0 => true
  | n + 1 => alB p n && p n
def fst1 (p : Nat → Bool) : Nat → Nat
  | 0 => 0
  | n + 1 => if fst1 p n < n then fst1 p n else if p n then n else n + 1
def fil {α : Type} (f g : Nat → α) (k : Nat) : Nat → α := fun j => if j < k then g j else f j
theorem fil_0 {α : Type} (f g : Nat → α) : fil f g 0 = f := by funext j; simp [fil]
theorem fil_s {α : Type} (f g : Nat → α) (k : Nat) : su (fil f g k) k (g k) = fil f g (k + 1) := by
  funext j
  unfold su fil
  by_cases h : j = k
  · subst h; simp
  · by_cases h2 : j < k
    · simp [h, h2, Nat.lt_succ_of_lt h2]
    · have h3 : ¬ j < k + 1 := by omega
      simp [h, h2, h3]
theorem sm_c {f g : Nat → Int32} : ∀ {n : Nat}, (∀ j, j < n → f j = g j) → sm f n = sm g n
  | 0, _ => rfl
  | n + 1, h => by rw [sm, sm, sm_c (fun j hj => h j (by omega)), h n (by omega)]
theorem alB_iff {p : Nat → Bool} : ∀ {n : Nat}, alB p n = true ↔ ∀ j, j < n → p j = true
  | 0 => by simp [alB]
  | n + 1 => by
    rw [alB, Bool.and_eq_true, alB_iff]
    constructor
    · intro h j hj
      by_cases hn : j = n
      · subst hn; exact h.2
      · exact h.1 j (by omega)
    · intro h
      exact ⟨fun j hj => h j (by omega), h n (by omega)⟩
theorem alB_c {p q : Nat → Bool} {n : Nat} (h : ∀ j, j < n → p j = q j) : alB p n = alB q n := by
  rw [Bool.eq_iff_iff, alB_iff, alB_iff]
  constructor
  · intro z j hj; rw [← h j hj]; exact z j hj
  · intro z j hj; rw [h j hj]; exact z j hj
theorem fst1_le (p : Nat → Bool) : ∀ n, fst1 p n ≤ n
  | 0 => Nat.le_refl 0
  | n + 1 => by
    have ih := fst1_le p n
    unfold fst1
    split
    · omega
    · split <;> omega
theorem fst1_at {p : Nat → Bool} : ∀ {n k : Nat}, k < n → (∀ j, j < k → p j = false) → p k = true → fst1 p n = k
  | 0, k, h, _, _ => by omega
  | n + 1, k, h, h1, h2 => by
    unfold fst1
    by_cases hk : k < n
    · rw [fst1_at hk h1 h2, if_pos hk]
    · have hkn : k = n := by omega
      subst hkn
      have h3 : ∀ m, m ≤ k → fst1 p m = m := by
        intro m
        induction m with
        | zero => intro _; rfl
        | succ m ih =>
          intro hm
          unfold fst1
          rw [ih (by omega), if_neg (by omega), h1 m (by omega)]
          simp
      rw [h3 k (Nat.le_refl k), if_neg (by omega), h2]
      simp
theorem fst1_no {p : Nat → Bool} : ∀ {n : Nat}, (∀ j, j < n → p j = false) → fst1 p n = n
  | 0, _ => rfl
  | n + 1, h => by
    unfold fst1
    rw [fst1_no (fun j hj => h j (by omega)), if_neg (by omega), h n (by omega)]
    simp
theorem fst1_c {p q : Nat → Bool} : ∀ {n : Nat}, (∀ j, j < n → p j = q j) → fst1 p n = fst1 q n
  | 0, _ => rfl
  | n + 1, h => by
    unfold fst1
    rw [fst1_c (fun j hj => h j (by omega)), h n (by omega)]
section BASE
variable {p : Program} {l : Launch} {e : Env} {R : Room} {s : State} {m : MethodId} {args : Array Value} {below : List Frame} {meth : Method} {c : Code} {H : Heap} {locs : List Loc} {cells slots : Nat} {Q : State → Prop}
variable {cc : ByteArray} {pc : Nat} {ls : Array Slot} {rest : List Value} {D : va_G} {cl : List vw_C} {A : Nat → Prop} {a : Nat} {tys : List (ClassId × FieldType)} {ws : va_W} {H0 : Heap}
theorem tv {x y : Int32} (h : x = y) (k : W p l e R s m args below meth c H locs cells slots Q (F0 m pc ls (.int y :: rest))) : W p l e R s m args below meth c H locs cells slots Q (F0 m pc ls (.int x :: rest)) := by
  subst h
  exact k
theorem tvl {x y : Int64} (h : x = y) (k : W p l e R s m args below meth c H locs cells slots Q (F0 m pc ls (.long y :: rest))) : W p l e R s m args below meth c H locs cells slots Q (F0 m pc ls (.long x :: rest)) := by
  subst h
  exact k
theorem ald (hexec : p.tables.exec = Jvm.exec) (hb : c.code = cc) (hK : va_K D cl tys s) (hP : va_P D cl ws H) (q0 t0 : Nat) {cA : ClassId} {n : Nat} {f : Nat → Int32} (ha : ws[q0]? = some (a, .inl (cA, n, .inl f))) (ht : tys[t0]? = some (cA, .int)) {i : Int32} {k : Nat} (hi : i = nI k) (hk : k < n) (hn : n < 2 ^ 31) (hdg : decode cc pc = .ok (.iaload, 1))
    (kk : W p l e R s m args below meth c H locs cells slots Q (F0 m (pc + 1) ls (.int (f k) :: rest))) : W p l e R s m args below meth c H locs cells slots Q (F0 m pc ls (.int i :: .ref a :: rest)) := by
  subst hi
  refine va_iald hexec hb hK hP q0 t0 ha ht (vp_in_nI hk hn) hdg ?_
  rw [nI_clamp (Nat.lt_trans hk hn)]
  exact kk
theorem ast (hexec : p.tables.exec = Jvm.exec) (hb : c.code = cc) (hK : va_K D cl tys s) (hP : va_P D cl ws H) (hD : va_D A ws) (hS : va_S A H0 H locs) (q0 t0 : Nat) {cA : ClassId} {n : Nat} {f : Nat → Int32} (ha : ws[q0]? = some (a, .inl (cA, n, .inl f))) (ht : tys[t0]? = some (cA, .int)) {i : Int32} {x : Int32} {k : Nat} (hi : i = nI k) (hk : k < n) (hn : n < 2 ^ 31) (hdg : decode cc pc = .ok (.iastore, 1))
    (kk : ∀ (H1 : Heap) (locs1 : List Loc), va_P D cl (ws.set q0 (a, .inl (cA, n, .inl (su f k x)))) H1 → va_D A (ws.set q0 (a, .inl (cA, n, .inl (su f k x)))) → va_S A H0 H1 locs1 → W p l e R s m args below meth c H1 locs1 cells slots Q (F0 m (pc + 1) ls rest)) : W p l e R s m args below meth c H locs cells slots Q (F0 m pc ls (.int x :: .int i :: .ref a :: rest)) := by
  subst hi
  refine va_iast hexec hb hK hP hD hS q0 t0 ha ht (vp_in_nI hk hn) hdg (fun H1 locs1 h1 h2 h3 => ?_)
  rw [nI_clamp (Nat.lt_trans hk hn)] at h1 h2
  exact kk H1 locs1 h1 h2 h3
/-- a loop that writes nothing: the locals by a closed form, a measure that falls -/
theorem lp_ro {ι : Type} (μ : ι → Nat) (I : ι → Prop) (L : ι → List (Nat × Value)) {nL : Nat} (i0 : ι) (h0 : I i0) (hl0 : lv_has ls nL (L i0)) (body : ∀ (i : ι), I i → (∀ (j : ι) (ls : Array Slot), μ j < μ i → I j → lv_has ls nL (L j) → W p l e R s m args below meth c H locs cells slots Q (F0 m pc ls rest)) → ∀ ls : Array Slot, lv_has ls nL (L i) → W p l e R s m args below meth c H locs cells slots Q (F0 m pc ls rest)) : W p l e R s m args below meth c H locs cells slots Q (F0 m pc ls rest) := by
  have key : ∀ (n : Nat) (i : ι) (ls : Array Slot), μ i < n → I i → lv_has ls nL (L i) → W p l e R s m args below meth c H locs cells slots Q (F0 m pc ls rest) := by
    intro n
    induction n with
    | zero => intro i ls h _ _; exact absurd h (Nat.not_lt_zero _)
    | succ n ih =>
      intro i ls hn hI hl
      exact body i hI (fun j ls' hj hIj hl' => ih j ls' (by omega) hIj hl') ls hl
  exact key (μ i0 + 1) i0 ls (Nat.lt_succ_self _) h0 hl0
/-- a loop that writes: its world by a closed form, too -/
theorem lp_rw {ι : Type} (μ : ι → Nat) (I : ι → Prop) (L : ι → List (Nat × Value)) (Wd : ι → va_W) {nL : Nat} (i0 : ι) (h0 : I i0) (hP : va_P D cl (Wd i0) H) (hD : va_D A (Wd i0)) (hS : va_S A H0 H locs) (hl0 : lv_has ls nL (L i0)) (body : ∀ (i : ι), I i → (∀ (j : ι) (H : Heap) (locs : List Loc) (ls : Array Slot), μ j < μ i → I j → va_P D cl (Wd j) H → va_D A (Wd j) → va_S A H0 H locs → lv_has ls nL (L j) → W p l e R s m args below meth c H locs cells slots Q (F0 m pc ls rest)) → ∀ (H : Heap) (locs : List Loc) (ls : Array Slot), va_P D cl (Wd i) H → va_D A (Wd i) → va_S A H0 H locs → lv_has ls nL (L i) → W p l e R s m args below meth c H locs cells slots Q (F0 m pc ls rest)) : W p l e R s m args below meth c H locs cells slots Q (F0 m pc ls rest) := by
  have key : ∀ (n : Nat) (i : ι) (H : Heap) (locs : List Loc) (ls : Array Slot), μ i < n → I i → va_P D cl (Wd i) H → va_D A (Wd i) → va_S A H0 H locs → lv_has ls nL (L i) → W p l e R s m args below meth c H locs cells slots Q (F0 m pc ls rest) := by
    intro n
    induction n with
    | zero => intro i H locs ls h _ _ _ _ _; exact absurd h (Nat.not_lt_zero _)
    | succ n ih =>
      intro i H locs ls hn hI h1 h2 h3 hl
      exact body i hI (fun j H' locs' ls' hj hIj g1 g2 g3 hl' => ih j H' locs' ls' (by omega) hIj g1 g2 g3 hl') H locs ls h1 h2 h3 hl
  exact key (μ i0 + 1) i0 H locs ls (Nat.lt_succ_self _) h0 hP hD hS hl0
end BASE
end
section
/-! the model's world: a: the object; o k: the address of the array in slot k; f k: the int in slot k; g k: the array of slot k; h: the hash -/
def mF (o : Nat → Nat) (f : Nat → Int32) (h : Int64) : List Value := [.ref (o 0), .int (f 1), .int (f 2), .int (f 3), .int (f 4), .ref (o 5), .int (f 6), .int (f 7), .ref (o 8), .ref (o 9), .int (f 10), .int (f 11), .ref (o 12), .ref (o 13), .int (f 14), .int (f 15), .int (f 16), .int (f 17), .int (f 18), .int (f 19), .ref (o 20), .ref (o 21), .ref (o 22), .ref (o 23), .long h]
def mW (cI : ClassId) (a : Nat) (o : Nat → Nat) (f : Nat → Int32) (g : Nat → Nat → Int32) (h : Int64) : va_W := [(a, .inr (8, mF o f h)), (o 0, .inl (cI, 10, .inl (g 0))), (o 5, .inl (cI, 6, .inl (g 5))), (o 8, .inl (cI, 40, .inl (g 8))), (o 9, .inl (cI, 5, .inl (g 9))), (o 12, .inl (cI, 16, .inl (g 12))), (o 13, .inl (cI, 8, .inl (g 13))), (o 20, .inl (cI, 6, .inl (g 20))), (o 21, .inl (cI, 40, .inl (g 21))), (o 22, .inl (cI, 5, .inl (g 22))), (o 23, .inl (cI, 16, .inl (g 23)))]
abbrev MSt : Type := (Nat → Int32) × (Nat → Nat → Int32) × Int64
/-- what the model's cells are behind a method -/
def mB (dC : Nat → ClassId) (dI : Nat → Nat → Nat) (cI : ClassId) (a : Nat) (o : Nat → Nat) (A : Nat → Prop) (u : MSt) (t : State) : Prop := va_P (dC, dI) vwCl (mW cI a o u.1 u.2.1 u.2.2) t.heap ∧ va_K (dC, dI) vwCl [(cI, .int)] t ∧ va_D A (mW cI a o u.1 u.2.1 u.2.2)
theorem nar_b2i {P : Prop} [Decidable P] : narrow .boolean (.int (b2i P)) = .int (b2i P) := by
  by_cases h : P
  · rw [b2i, if_pos h]; rfl
  · rw [b2i, if_neg h]; rfl
/-- what a kind makes of both eyes -/
def see (k l r h : Int32) : Int32 := if k.toInt = 0 then (h &&& l) ||| (h &&& r) else if k.toInt = 1 then (h &&& l) ^^^ (h &&& r) else if k.toInt = 2 then (h &&& l) &&& (h &&& r) else if k.toInt = 3 then (if h &&& l = nI 0 then h &&& r else h &&& l) else h &&& r
/-- the model's p-th person sees -/
def mS (g : Nat → Nat → Int32) (p : Nat) (h : Int32) : Int32 := see (g 8 (10 * p)) (g 8 (10 * p + 1)) (g 8 (10 * p + 2)) h
def mdg (g : Nat → Nat → Int32) (j : Nat) : Bool := decide (48 ≤ (g 0 j).toInt ∧ (g 0 j).toInt ≤ 55)
def mfl (g : Nat → Nat → Int32) (n : Nat) : Nat := fst1 (fun j => !mdg g j) (min n 6)
def mSix (g : Nat → Nat → Int32) (n : Nat) : Prop := n = 6 ∧ mfl g n = 6
def mInk (f : Nat → Int32) (g : Nat → Nat → Int32) : Int32 := if f 2 = nI 0 then nI 0 else sm (fun c => if g 5 c = nI 0 then 0 else 1) 6
def mHue (f : Nat → Int32) (g : Nat → Nat → Int32) (x : Int32) : Int32 := if f 2 = nI 0 then (-101) else if 0 ≤ x.toInt ∧ x.toInt ≤ 5 then g 5 x.toInt.toNat else (-101)
def mTrue (g : Nat → Nat → Int32) (p : Nat) : Int32 := sm (fun j => if mS g p (nI j) = nI j then 1 else 0) 8
def mTell (g : Nat → Nat → Int32) (p : Nat) (x : Int32) : Int32 := if 0 ≤ x.toInt ∧ x.toInt ≤ 2 then g 8 (10 * p + x.toInt.toNat) else if 10 ≤ x.toInt ∧ x.toInt ≤ 15 then mS g p (g 5 (x.toInt.toNat - 10)) else if 20 ≤ x.toInt ∧ x.toInt ≤ 25 then (if g 8 (10 * p + 3) = nI 1 then g 8 (10 * p + x.toInt.toNat - 16) else (-1)) else if x = nI 3 then mTrue g p else (-102)
def mIs (x : Int32) (n : Nat) : Prop := 0 ≤ x.toInt ∧ x.toInt ≤ (n : Int) - 1
def mAbout (g : Nat → Nat → Int32) (n : Nat) (q x : Int32) : Int32 := if 0 ≤ q.toInt ∧ q.toInt ≤ (n : Int) - 1 then mTell g q.toInt.toNat x else (-101)
def mAs (g : Nat → Nat → Int32) (n : Nat) (q x : Int32) : Int32 := if 0 ≤ q.toInt ∧ q.toInt ≤ (n : Int) - 1 then (if 0 ≤ x.toInt ∧ x.toInt ≤ 4 then (if x = nI 0 then nI q.toInt.toNat else if x = g 8 (10 * q.toInt.toNat) then nI q.toInt.toNat else if x = nI 3 then (if g 8 (10 * q.toInt.toNat) = nI 4 then nI q.toInt.toNat else (-1)) else (-1)) else (-102)) else (-101)
def mSees (g : Nat → Nat → Int32) (n : Nat) (q x : Int32) : Int32 := if 0 ≤ q.toInt ∧ q.toInt ≤ (n : Int) - 1 then (if 0 ≤ x.toInt ∧ x.toInt ≤ 7 then mS g q.toInt.toNat x else (-102)) else (-101)
def mInkOf (g : Nat → Nat → Int32) (n : Nat) (q : Int32) : Int32 := if 0 ≤ q.toInt ∧ q.toInt ≤ (n : Int) - 1 then g 9 q.toInt.toNat else (-101)
def mWm (g : Nat → Nat → Int32) (n : Nat) : Int32 := sm (fun j => g 8 (10 * j + 3)) n
def mDo (g : Nat → Nat → Int32) (p q : Nat) : Int32 := if fst1 (fun c => !decide (mS g p (g 5 c) = mS g q (g 5 c))) 6 < 6 then nI (fst1 (fun c => !decide (mS g p (g 5 c) = mS g q (g 5 c))) 6) else (-1)
def mDiffer (g : Nat → Nat → Int32) (n : Nat) (p q : Int32) : Int32 := if 0 ≤ p.toInt ∧ p.toInt ≤ (n : Int) - 1 then (if 0 ≤ q.toInt ∧ q.toInt ≤ (n : Int) - 1 then mDo g p.toInt.toNat q.toInt.toNat else (-101)) else (-101)
def mAo (g : Nat → Nat → Int32) (p q : Nat) : Int32 := sm (fun j => if mS g p (nI j) = mS g q (nI j) then 1 else 0) 8
def mAlike (g : Nat → Nat → Int32) (n : Nat) (p q : Int32) : Int32 := if 0 ≤ p.toInt ∧ p.toInt ≤ (n : Int) - 1 then (if 0 ≤ q.toInt ∧ q.toInt ≤ (n : Int) - 1 then mAo g p.toInt.toNat q.toInt.toNat else (-101)) else (-101)
theorem dec_toInt {n : Nat} (h : n < 2 ^ 30) : ((nI n - nI 1).toInt64).toInt = (n : Int) - 1 := by
  rw [Int32.toInt_toInt64, pk_sub_toInt h (by decide)]
  rfl
/-- all whom a word is told read it at cell c where the cell shows x -/
def mRd (g : Nat → Nat → Int32) (c : Nat) (x : Int32) (p : Nat) : Bool := decide (g 8 (10 * p + 3) = nI 0) || decide (mS g p x = g 8 (10 * p + 4 + c))
def mRead (g : Nat → Nat → Int32) (n c : Nat) (x : Int32) : Bool := alB (mRd g c x) n
def mUn (g : Nat → Nat → Int32) (x0 : Int32) (t : Nat) : Nat → Int32
  | 0 => x0
  | k + 1 => mUn g x0 t k ||| (if ((nI t >>> (nI k &&& 31)) &&& nI 1) = nI 1 then g 9 k else nI 0)
def mMayAt (g : Nat → Nat → Int32) (n i c : Nat) (set : Nat) (t : Nat) : Bool := decide ((nI t &&& (nI set ^^^ (-1))) = nI 0) && mRead g n c (mUn g (g 5 c) t i)
def exB (p : Nat → Bool) (n : Nat) : Bool := !alB (fun j => !p j) n
theorem exB_iff {p : Nat → Bool} {n : Nat} : exB p n = true ↔ ∃ j, j < n ∧ p j = true := by
  constructor
  · intro h
    by_cases h2 : alB (fun j => !p j) n = true
    · rw [exB, h2] at h; cases h
    · have h3 : ¬ ∀ j, j < n → (!p j) = true := fun z => h2 (alB_iff.mpr z)
      exact Classical.byContradiction (fun z => h3 (fun j hj => by
        cases hp : p j with
        | false => rfl
        | true => exact absurd ⟨j, hj, hp⟩ z))
  · intro ⟨j, hj, hp⟩
    cases h2 : alB (fun j => !p j) n with
    | false => rw [exB, h2]; rfl
    | true =>
      have := alB_iff.mp h2 j hj
      rw [hp] at this; cases this
def mMayB (g : Nat → Nat → Int32) (n i c : Nat) (set : Nat) : Bool := exB (mMayAt g n i c set) 32
/-- how many of five bits -/
def ons (x : Int32) : Int32 := sm (fun j => (x >>> (nI j &&& 31)) &&& 1) 5
abbrev mLess (x b : Int32) : Prop := b = (-1) ∨ (ons x).toInt < (ons b).toInt
def mBest (g : Nat → Nat → Int32) (n i : Nat) : Nat → Int32
  | 0 => (-1)
  | k + 1 => if mLess (nI k) (mBest g n i k) ∧ alB (fun c => mMayB g n i c k) 6 = true then nI k else mBest g n i k
def mFewOf (g : Nat → Nat → Int32) (n i : Nat) (x : Int32) : Int32 := if mBest g n i (2 ^ i) = (-1) then mBest g n i (2 ^ i) else if x = nI 1 then mBest g n i (2 ^ i) else ons (mBest g n i (2 ^ i))
def mFew (f : Nat → Int32) (g : Nat → Nat → Int32) (n i : Nat) (x : Int32) : Int32 := if 0 ≤ x.toInt ∧ x.toInt ≤ 1 then (if f 2 = nI 0 then (-103) else mFewOf g n i x) else (-102)
theorem shl1 : ∀ k, k ≤ 5 → nI 1 <<< (nI k &&& 31) = nI (2 ^ k) := by
  intro k hk
  have h : ∀ k, k < 6 → nI 1 <<< (nI k &&& 31) = nI (2 ^ k) := by decide +kernel
  exact h k (by omega)
theorem pow5 : ∀ {k}, k ≤ 5 → 2 ^ k ≤ 32 := by
  intro k hk
  have h : ∀ k, k < 6 → 2 ^ k ≤ 32 := by decide
  exact h k (by omega)
def mSoAt (g : Nat → Nat → Int32) (code j : Nat) : Bool := decide (see (nI (code / 64)) (nI (code / 8 % 8)) (nI (code % 8)) (g 12 (2 * j)) = g 12 (2 * j + 1))
def mSo (g : Nat → Nat → Int32) (n code : Nat) : Bool := alB (mSoAt g code) n
def mCount (f : Nat → Int32) (g : Nat → Nat → Int32) (n1 n6 n7 n10 : Nat) (x : Int32) : Int32 := if x.toInt = 0 then mInk f g else if x.toInt = 1 then nI n6 else if x.toInt = 2 then nI n7 else if x.toInt = 3 then f 3 else if x.toInt = 4 then mWm g n6 else if x.toInt = 5 then nI n10 else if x.toInt = 6 then nI n1 else if x.toInt = 7 then f 4 else if x.toInt = 8 then f 11 else (-102)
def mLikeAt (g : Nat → Nat → Int32) (p : Nat) (x y : Int32) (c : Nat) : Bool := decide (see (g 8 (10 * p)) x y (g 5 c) = mS g p (g 5 c))
def mLike (g : Nat → Nat → Int32) (p : Nat) (x y : Int32) : Bool := alB (mLikeAt g p x y) 6
end
section
set_option maxHeartbeats 1200000 in
set_option maxRecDepth 100000 in
theorem c8_in (l : Launch) (x : Int32) (L_ H_ : Int64) (lo_ hi_ : Int) (hL : L_.toInt = lo_) (hH : H_.toInt = hi_) : Met l yX8_in wsX8_in ({ frames := 0, cells := 0, slots := 0, locals := 0 } : Room) (va_Pc [.long ((x).toInt64), .long (L_), .long (H_)] (fun U => True)) (vp_Si (fun r => r = b2i (lo_ ≤ x.toInt ∧ x.toInt ≤ hi_))) 0 0 (fun _ => False) := by
  refine Met.ofW (cc := cX8_in) (maxL := 6) (ret := (some .boolean)) (by decide) rfl ?_
  intro p_ e_ s m args below meth c_0 s₁ B hml hv
  obtain ⟨rfl, -⟩ := hv
  have hx := B.exec
  have hb := B.bytes
  have hr := B.returns
  have hts := atoms_spec (ws := wsX8_in) B.pre
  have hown : s.vm.findClass RX8 = some m.cls := findClass_of_methodNamed B.named
  have hlocks := B.notSynchronized
  have hl := lv_entry ([.long ((x).toInt64), .long (L_), .long (H_)]) (n := 6) (Nat.le_of_ble_eq_true rfl)
  rw [lg_entry_eq]
  generalize (lg_sl ([.long ((x).toInt64), .long (L_), .long (H_)]) ++ List.replicate (6 - (lg_sl ([.long ((x).toInt64), .long (L_), .long (H_)])).length) Slot.unset).toArray = ls at hl ⊢
  have hl : lv_has ls 6 [(0, .long ((x).toInt64)), (2, .long (L_)), (4, .long (H_))] := hl
  refine lv_lload_n hx hb dX8_in_0 rfl (lv_at hl 0 rfl) ?_
  refine lv_lload_n hx hb dX8_in_1 rfl (lv_at hl 1 rfl) ?_
  refine W.lcmp hx hb dX8_in_2 ?_
  refine lv_if_lt (tgt := 17) hx hb dX8_in_3 (by decide) (fun c_1 => ?_) (fun c_1 => ?_)
  · skip
    have c_1 : _ := (lg_lt0 _ _).mp c_1
    refine lv_iconst (v := nI (0)) hx hb dX8_in_17 (by decide +kernel) ?_
    exact W.zret (ty := .boolean) (v := nI (0)) hx hb hr rfl (fun t ht hW => ⟨nI (0), rfl, (by show nI (0) = b2i (lo_ ≤ x.toInt ∧ x.toInt ≤ hi_); rw [Int32.toInt_toInt64, hL] at c_1; exact b2i_f (by omega)), ht⟩) (fun _ h => by cases h) dX8_in_18
  · skip
    have c_1 : ¬ _ := fun z => c_1 ((lg_lt0 _ _).mpr z)
    refine lv_lload_n hx hb dX8_in_6 rfl (lv_at hl 0 rfl) ?_
    refine lv_lload hx hb dX8_in_7 (lv_at hl 2 rfl) ?_
    refine W.lcmp hx hb dX8_in_9 ?_
    refine lv_if_gt (tgt := 17) hx hb dX8_in_10 (by decide) (fun c_2 => ?_) (fun c_2 => ?_)
    · skip
      have c_2 : _ := (lg_gt0 _ _).mp c_2
      refine lv_iconst (v := nI (0)) hx hb dX8_in_17 (by decide +kernel) ?_
      exact W.zret (ty := .boolean) (v := nI (0)) hx hb hr rfl (fun t ht hW => ⟨nI (0), rfl, (by show nI (0) = b2i (lo_ ≤ x.toInt ∧ x.toInt ≤ hi_); rw [Int32.toInt_toInt64, hL] at c_1; rw [Int32.toInt_toInt64, hH] at c_2; exact b2i_f (by omega)), ht⟩) (fun _ h => by cases h) dX8_in_18
    · skip
      have c_2 : ¬ _ := fun z => c_2 ((lg_gt0 _ _).mpr z)
      refine lv_iconst (v := nI (1)) hx hb dX8_in_13 (by decide +kernel) ?_
      refine lv_goto (tgt := 18) hx hb dX8_in_14 (by decide) ?_
      exact W.zret (ty := .boolean) (v := nI (1)) hx hb hr rfl (fun t ht hW => ⟨nI (1), rfl, (by show nI (1) = b2i (lo_ ≤ x.toInt ∧ x.toInt ≤ hi_); rw [Int32.toInt_toInt64, hL] at c_1; rw [Int32.toInt_toInt64, hH] at c_2; exact b2i_t ⟨by omega, by omega⟩), ht⟩) (fun _ h => by cases h) dX8_in_18

set_option maxHeartbeats 1200000 in
set_option maxRecDepth 100000 in
theorem c8_isHue (l : Launch) (x : Int32) : Met l yX8_isHue wsX8_isHue ({ frames := 1, cells := 0, slots := 0, locals := 25 } : Room) (va_Pc [.int (x)] (fun U => True)) (vp_Si (fun r => r = b2i (0 ≤ x.toInt ∧ x.toInt ≤ 7))) 0 0 (fun _ => False) := by
  refine Met.ofW (cc := cX8_isHue) (maxL := 1) (ret := (some .boolean)) (by decide) rfl ?_
  intro p_ e_ s m args below meth c_0 s₁ B hml hv
  obtain ⟨rfl, -⟩ := hv
  have hx := B.exec
  have hb := B.bytes
  have hr := B.returns
  have hts := atoms_spec (ws := wsX8_isHue) B.pre
  have hown : s.vm.findClass RX8 = some m.cls := findClass_of_methodNamed B.named
  have hlocks := B.notSynchronized
  have hl := lv_entry ([.int (x)]) (n := 1) (Nat.le_of_ble_eq_true rfl)
  rw [lg_entry_eq]
  generalize (lg_sl ([.int (x)]) ++ List.replicate (1 - (lg_sl ([.int (x)])).length) Slot.unset).toArray = ls at hl ⊢
  have hl : lv_has ls 1 [(0, .int (x))] := hl
  have hW0 := hts (.constantLong RX8 44 (7)) (by decide +kernel)
  refine lv_iload_n hx hb dX8_isHue_0 rfl (lv_at hl 0 rfl) ?_
  refine lv_i2l hx hb dX8_isHue_1 rfl ?_
  refine lv_lconst (v := 0) hx hb dX8_isHue_2 (by decide +kernel) ?_
  refine lv_ldc2 (v := 7) hx hb hown hW0 dX8_isHue_3 ?_
  refine vp_callSi (va_Run.run (va_runS (As := [.long ((x).toInt64), .long (0), .long (7)]) (rest := []) ⟨hx, hb, hml, hown, hts⟩ (c8_in l (x) (0) (7) (0) (7) rfl rfl) (va_cwS 3 hts gX8_isHue_X8_in rfl rfl rfl (by decide +kernel) ⟨Nat.le_of_ble_eq_true rfl, Nat.le_of_ble_eq_true rfl⟩) ⟨fun _ _ _ _ q => q, fun U hU hW => ⟨rfl, trivial⟩⟩ rfl rfl hl.1 rfl (lv_room (Nat.le_of_ble_eq_true rfl)) dX8_isHue_6 ⟨Nat.le_of_ble_eq_true rfl, Nat.le_of_ble_eq_true rfl⟩)) (fun r hrc => ?_)
  have hrc : r = b2i ((0) ≤ (x).toInt ∧ (x).toInt ≤ (7)) := hrc
  subst hrc
  exact W.zret (ty := .boolean) (v := b2i ((0) ≤ (x).toInt ∧ (x).toInt ≤ (7))) hx hb hr nar_b2i (fun t ht hW => ⟨b2i ((0) ≤ (x).toInt ∧ (x).toInt ≤ (7)), rfl, (by show b2i ((0) ≤ (x).toInt ∧ (x).toInt ≤ (7)) = b2i (0 ≤ x.toInt ∧ x.toInt ≤ 7); rfl), ht⟩) (fun _ h => by cases h) dX8_isHue_9

set_option maxHeartbeats 1200000 in
set_option maxRecDepth 100000 in
theorem c8_seenBy (l : Launch) (k v1 v2 v3 : Int32) : Met l yX8_seenBy wsX8_seenBy ({ frames := 0, cells := 0, slots := 0, locals := 0 } : Room) (va_Pc [.int (k), .int (v1), .int (v2), .int (v3)] (fun U => True)) (vp_Si (fun r => r = see k v1 v2 v3)) 0 0 (fun _ => False) := by
  refine Met.ofW (cc := cX8_seenBy) (maxL := 6) (ret := (some .int)) (by decide) rfl ?_
  intro p_ e_ s m args below meth c_0 s₁ B hml hv
  obtain ⟨rfl, -⟩ := hv
  have hx := B.exec
  have hb := B.bytes
  have hr := B.returns
  have hts := atoms_spec (ws := wsX8_seenBy) B.pre
  have hown : s.vm.findClass RX8 = some m.cls := findClass_of_methodNamed B.named
  have hlocks := B.notSynchronized
  have hl := lv_entry ([.int (k), .int (v1), .int (v2), .int (v3)]) (n := 6) (Nat.le_of_ble_eq_true rfl)
  rw [lg_entry_eq]
  generalize (lg_sl ([.int (k), .int (v1), .int (v2), .int (v3)]) ++ List.replicate (6 - (lg_sl ([.int (k), .int (v1), .int (v2), .int (v3)])).length) Slot.unset).toArray = ls at hl ⊢
  have hl : lv_has ls 6 [(0, .int (k)), (1, .int (v1)), (2, .int (v2)), (3, .int (v3))] := hl
  refine lv_iload_n hx hb dX8_seenBy_0 rfl (lv_at hl 3 rfl) ?_
  refine lv_iload_n hx hb dX8_seenBy_1 rfl (lv_at hl 1 rfl) ?_
  refine lv_iand hx hb dX8_seenBy_2 ?_
  refine lv_istore (lv' := [(4, .int ((v3) &&& (v1))), (0, .int (k)), (1, .int (v1)), (2, .int (v2)), (3, .int (v3))]) hx hb dX8_seenBy_3 hl (by decide) rfl (fun ls hl => ?_)
  refine lv_iload_n hx hb dX8_seenBy_5 rfl (lv_at hl 4 rfl) ?_
  refine lv_iload_n hx hb dX8_seenBy_6 rfl (lv_at hl 3 rfl) ?_
  refine lv_iand hx hb dX8_seenBy_7 ?_
  refine lv_istore (lv' := [(5, .int ((v3) &&& (v2))), (4, .int ((v3) &&& (v1))), (0, .int (k)), (1, .int (v1)), (2, .int (v2)), (3, .int (v3))]) hx hb dX8_seenBy_8 hl (by decide) rfl (fun ls hl => ?_)
  refine lv_iload_n hx hb dX8_seenBy_10 rfl (lv_at hl 2 rfl) ?_
  by_cases c_1 : (k).toInt = 0
  · skip
    refine lv_tableIn (tgt := 40) hx hb dX8_seenBy_11 (by omega) (by omega) (by rw [c_1]; rfl) (by decide) ?_
    refine lv_iload hx hb dX8_seenBy_40 (lv_at hl 1 rfl) ?_
    refine lv_iload hx hb dX8_seenBy_42 (lv_at hl 0 rfl) ?_
    refine lv_ior hx hb dX8_seenBy_44 ?_
    exact W.iret (v := ((v3) &&& (v1)) ||| ((v3) &&& (v2))) hx hb hr (fun t ht hW => ⟨((v3) &&& (v1)) ||| ((v3) &&& (v2)), rfl, (by show ((v3) &&& (v1)) ||| ((v3) &&& (v2)) = see k v1 v2 v3; first | (simp only [see, if_pos c_1]; done) | (simp only [see, if_pos c_1]; rfl) | rfl | (simp [see, if_pos c_1]; done)), ht⟩) (fun _ h => by cases h) dX8_seenBy_45
  · skip
    by_cases c_2 : (k).toInt = 1
    · skip
      refine lv_tableIn (tgt := 46) hx hb dX8_seenBy_11 (by omega) (by omega) (by rw [c_2]; rfl) (by decide) ?_
      refine lv_iload hx hb dX8_seenBy_46 (lv_at hl 1 rfl) ?_
      refine lv_iload hx hb dX8_seenBy_48 (lv_at hl 0 rfl) ?_
      refine lv_ixor hx hb dX8_seenBy_50 ?_
      exact W.iret (v := ((v3) &&& (v1)) ^^^ ((v3) &&& (v2))) hx hb hr (fun t ht hW => ⟨((v3) &&& (v1)) ^^^ ((v3) &&& (v2)), rfl, (by show ((v3) &&& (v1)) ^^^ ((v3) &&& (v2)) = see k v1 v2 v3; first | (simp only [see, if_neg c_1, if_pos c_2]; done) | (simp only [see, if_neg c_1, if_pos c_2]; rfl) | rfl | (simp [see, if_neg c_1, if_pos c_2]; done)), ht⟩) (fun _ h => by cases h) dX8_seenBy_51
    · skip
      by_cases c_3 : (k).toInt = 2
      · skip
        refine lv_tableIn (tgt := 52) hx hb dX8_seenBy_11 (by omega) (by omega) (by rw [c_3]; rfl) (by decide) ?_
        refine lv_iload hx hb dX8_seenBy_52 (lv_at hl 1 rfl) ?_
        refine lv_iload hx hb dX8_seenBy_54 (lv_at hl 0 rfl) ?_
        refine lv_iand hx hb dX8_seenBy_56 ?_
        exact W.iret (v := ((v3) &&& (v1)) &&& ((v3) &&& (v2))) hx hb hr (fun t ht hW => ⟨((v3) &&& (v1)) &&& ((v3) &&& (v2)), rfl, (by show ((v3) &&& (v1)) &&& ((v3) &&& (v2)) = see k v1 v2 v3; first | (simp only [see, if_neg c_1, if_neg c_2, if_pos c_3]; done) | (simp only [see, if_neg c_1, if_neg c_2, if_pos c_3]; rfl) | rfl | (simp [see, if_neg c_1, if_neg c_2, if_pos c_3]; done)), ht⟩) (fun _ h => by cases h) dX8_seenBy_57
      · skip
        by_cases c_4 : (k).toInt = 3
        · skip
          refine lv_tableIn (tgt := 58) hx hb dX8_seenBy_11 (by omega) (by omega) (by rw [c_4]; rfl) (by decide) ?_
          refine lv_iload hx hb dX8_seenBy_58 (lv_at hl 1 rfl) ?_
          refine lv_if_ne (tgt := 68) hx hb dX8_seenBy_60 (by decide) (fun c_5 => ?_) (fun c_5 => ?_)
          · skip
            have c_5 : ¬ ((v3) &&& (v1)) = nI 0 := c_5
            refine lv_iload hx hb dX8_seenBy_68 (lv_at hl 1 rfl) ?_
            exact W.iret (v := (v3) &&& (v1)) hx hb hr (fun t ht hW => ⟨(v3) &&& (v1), rfl, (by show (v3) &&& (v1) = see k v1 v2 v3; first | (simp only [see, if_neg c_1, if_neg c_2, if_neg c_3, if_pos c_4, if_neg c_5]; done) | (simp only [see, if_neg c_1, if_neg c_2, if_neg c_3, if_pos c_4, if_neg c_5]; rfl) | rfl | (simp [see, if_neg c_1, if_neg c_2, if_neg c_3, if_pos c_4, if_neg c_5]; done)), ht⟩) (fun _ h => by cases h) dX8_seenBy_70
          · skip
            have c_5 : ((v3) &&& (v1)) = nI 0 := c_5
            refine lv_iload hx hb dX8_seenBy_63 (lv_at hl 0 rfl) ?_
            refine lv_goto (tgt := 70) hx hb dX8_seenBy_65 (by decide) ?_
            exact W.iret (v := (v3) &&& (v2)) hx hb hr (fun t ht hW => ⟨(v3) &&& (v2), rfl, (by show (v3) &&& (v2) = see k v1 v2 v3; first | (simp only [see, if_neg c_1, if_neg c_2, if_neg c_3, if_pos c_4, if_pos c_5]; done) | (simp only [see, if_neg c_1, if_neg c_2, if_neg c_3, if_pos c_4, if_pos c_5]; rfl) | rfl | (simp [see, if_neg c_1, if_neg c_2, if_neg c_3, if_pos c_4, if_pos c_5]; done)), ht⟩) (fun _ h => by cases h) dX8_seenBy_70
        · skip
          refine lv_tableOut (tgt := 71) hx hb dX8_seenBy_11 (by omega) (by decide) ?_
          refine lv_iload hx hb dX8_seenBy_71 (lv_at hl 0 rfl) ?_
          exact W.iret (v := (v3) &&& (v2)) hx hb hr (fun t ht hW => ⟨(v3) &&& (v2), rfl, (by show (v3) &&& (v2) = see k v1 v2 v3; first | (simp only [see, if_neg c_1, if_neg c_2, if_neg c_3, if_neg c_4]; done) | (simp only [see, if_neg c_1, if_neg c_2, if_neg c_3, if_neg c_4]; rfl) | rfl | (simp [see, if_neg c_1, if_neg c_2, if_neg c_3, if_neg c_4]; done)), ht⟩) (fun _ h => by cases h) dX8_seenBy_73

set_option maxHeartbeats 1200000 in
set_option maxRecDepth 100000 in
theorem c8_ones (l : Launch) (x : Int32) : Met l yX8_ones wsX8_ones ({ frames := 0, cells := 0, slots := 0, locals := 0 } : Room) (va_Pc [.int (x)] (fun U => True)) (vp_Si (fun r => r = sm (fun j => (x >>> (nI j &&& 31)) &&& 1) 5)) 0 0 (fun _ => False) := by
  refine Met.ofW (cc := cX8_ones) (maxL := 3) (ret := (some .int)) (by decide) rfl ?_
  intro p_ e_ s m args below meth c_0 s₁ B hml hv
  obtain ⟨rfl, -⟩ := hv
  have hx := B.exec
  have hb := B.bytes
  have hr := B.returns
  have hts := atoms_spec (ws := wsX8_ones) B.pre
  have hown : s.vm.findClass RX8 = some m.cls := findClass_of_methodNamed B.named
  have hlocks := B.notSynchronized
  have hl := lv_entry ([.int (x)]) (n := 3) (Nat.le_of_ble_eq_true rfl)
  rw [lg_entry_eq]
  generalize (lg_sl ([.int (x)]) ++ List.replicate (3 - (lg_sl ([.int (x)])).length) Slot.unset).toArray = ls at hl ⊢
  have hl : lv_has ls 3 [(0, .int (x))] := hl
  refine lv_iconst (v := nI (0)) hx hb dX8_ones_0 (by decide +kernel) ?_
  refine lv_istore_n (lv' := [(1, .int (nI (0))), (0, .int (x))]) hx hb dX8_ones_1 rfl hl (by decide) rfl (fun ls hl => ?_)
  refine lv_iconst (v := nI (0)) hx hb dX8_ones_2 (by decide +kernel) ?_
  refine lv_istore_n (lv' := [(2, .int (nI (0))), (1, .int (nI (0))), (0, .int (x))]) hx hb dX8_ones_3 rfl hl (by decide) rfl (fun ls hl => ?_)
  have e0_1 : (nI (0)) = sm (fun j => (x >>> (nI j &&& 31)) &&& 1) 0 := rfl
  refine lp_ro (fun k : Nat => 5 - k) (fun k : Nat => k ≤ 5) (fun k : Nat => [(0, .int (x)), (1, .int (sm (fun j => (x >>> (nI j &&& 31)) &&& 1) k)), (2, .int (nI (k)))]) (0) (by omega) (by show lv_has ls 3 [(0, .int (x)), (1, .int (sm (fun j => (x >>> (nI j &&& 31)) &&& 1) 0)), (2, .int (nI (0)))]; rw [← e0_1]; exact lv_sub hl [2, 1, 0] rfl) (fun k hI ih_4 ls hl => ?_)
  have hI : k ≤ 5 := hI
  have hl : lv_has ls 3 [(0, .int (x)), (1, .int (sm (fun j => (x >>> (nI j &&& 31)) &&& 1) k)), (2, .int (nI (k)))] := hl
  refine lv_iload_n hx hb dX8_ones_4 rfl (lv_at hl 2 rfl) ?_
  refine lv_iconst (v := nI (5)) hx hb dX8_ones_5 (by decide +kernel) ?_
  refine lv_icmp_ge (tgt := 23) hx hb dX8_ones_6 (by decide) (fun c_1 => ?_) (fun c_1 => ?_)
  · skip
    rw [nI_leI (a := 5) (b := k) (by omega) (by omega)] at c_1
    have hE : 5 = k := by omega
    subst hE
    refine lv_iload_n hx hb dX8_ones_23 rfl (lv_at hl 1 rfl) ?_
    exact W.iret (v := sm (fun j => (x >>> (nI j &&& 31)) &&& 1) 5) hx hb hr (fun t ht hW => ⟨sm (fun j => (x >>> (nI j &&& 31)) &&& 1) 5, rfl, (by show sm (fun j => (x >>> (nI j &&& 31)) &&& 1) 5 = sm (fun j => (x >>> (nI j &&& 31)) &&& 1) 5; first | (simp only [if_pos c_1]; done) | (simp only [if_pos c_1]; rfl) | rfl | (simp [if_pos c_1]; done)), ht⟩) (fun _ h => by cases h) dX8_ones_24
  · skip
    rw [nI_leI (a := 5) (b := k) (by omega) (by omega)] at c_1
    refine lv_iload_n hx hb dX8_ones_9 rfl (lv_at hl 1 rfl) ?_
    refine lv_iload_n hx hb dX8_ones_10 rfl (lv_at hl 0 rfl) ?_
    refine lv_iload_n hx hb dX8_ones_11 rfl (lv_at hl 2 rfl) ?_
    refine lv_ishr hx hb dX8_ones_12 ?_
    refine lv_iconst (v := nI (1)) hx hb dX8_ones_13 (by decide +kernel) ?_
    refine lv_iand hx hb dX8_ones_14 ?_
    refine lv_iadd hx hb dX8_ones_15 ?_
    refine lv_istore_n (lv' := [(1, .int ((sm (fun j => (x >>> (nI j &&& 31)) &&& 1) k) + (((x) >>> ((nI (k)) &&& 31)) &&& (nI (1))))), (0, .int (x)), (2, .int (nI (k)))]) hx hb dX8_ones_16 rfl hl (by decide) rfl (fun ls hl => ?_)
    refine lv_iinc (v := nI (k + 1)) (lv' := [(2, .int (nI (k + 1))), (1, .int ((sm (fun j => (x >>> (nI j &&& 31)) &&& 1) k) + (((x) >>> ((nI (k)) &&& 31)) &&& (nI (1))))), (0, .int (x))]) hx hb dX8_ones_17 hl (k := 2) rfl (nI_1 _) (by decide) rfl (fun ls hl => ?_)
    refine lv_goto (tgt := 4) hx hb dX8_ones_20 (by decide) ?_
    have e1_1 : ((sm (fun j => (x >>> (nI j &&& 31)) &&& 1) k) + (((x) >>> ((nI (k)) &&& 31)) &&& (nI (1)))) = sm (fun j => (x >>> (nI j &&& 31)) &&& 1) (k + 1) := by first | rfl | (simp only [sm, alB, if_neg c_1]; done) | (simp only [sm, alB, if_neg c_1]; rfl) | (simp [sm, alB, if_neg c_1]; done)
    exact ih_4 (k + 1) ls (by show _ < _; omega) (by show _; omega) (by show lv_has ls 3 [(0, .int (x)), (1, .int (sm (fun j => (x >>> (nI j &&& 31)) &&& 1) (k + 1))), (2, .int (nI ((k + 1))))]; rw [← e1_1]; exact lv_sub hl [2, 1, 0] rfl)

set_option maxHeartbeats 1200000 in
set_option maxRecDepth 100000 in
theorem c8_parts (l : Launch) (x : Int32) : Met l yX8_parts wsX8_parts ({ frames := 0, cells := 0, slots := 0, locals := 0 } : Room) (va_Pc [.int (x)] (fun U => True)) (vp_Si (fun r => r = ((x &&& 1) + ((x >>> ((1 : Int32) &&& 31)) &&& 1)) + ((x >>> ((2 : Int32) &&& 31)) &&& 1))) 0 0 (fun _ => False) := by
  refine Met.ofW (cc := cX8_parts) (maxL := 1) (ret := (some .int)) (by decide) rfl ?_
  intro p_ e_ s m args below meth c_0 s₁ B hml hv
  obtain ⟨rfl, -⟩ := hv
  have hx := B.exec
  have hb := B.bytes
  have hr := B.returns
  have hts := atoms_spec (ws := wsX8_parts) B.pre
  have hown : s.vm.findClass RX8 = some m.cls := findClass_of_methodNamed B.named
  have hlocks := B.notSynchronized
  have hl := lv_entry ([.int (x)]) (n := 1) (Nat.le_of_ble_eq_true rfl)
  rw [lg_entry_eq]
  generalize (lg_sl ([.int (x)]) ++ List.replicate (1 - (lg_sl ([.int (x)])).length) Slot.unset).toArray = ls at hl ⊢
  have hl : lv_has ls 1 [(0, .int (x))] := hl
  refine lv_iload_n hx hb dX8_parts_0 rfl (lv_at hl 0 rfl) ?_
  refine lv_iconst (v := nI (1)) hx hb dX8_parts_1 (by decide +kernel) ?_
  refine lv_iand hx hb dX8_parts_2 ?_
  refine lv_iload_n hx hb dX8_parts_3 rfl (lv_at hl 0 rfl) ?_
  refine lv_iconst (v := nI (1)) hx hb dX8_parts_4 (by decide +kernel) ?_
  refine lv_ishr hx hb dX8_parts_5 ?_
  refine lv_iconst (v := nI (1)) hx hb dX8_parts_6 (by decide +kernel) ?_
  refine lv_iand hx hb dX8_parts_7 ?_
  refine lv_iadd hx hb dX8_parts_8 ?_
  refine lv_iload_n hx hb dX8_parts_9 rfl (lv_at hl 0 rfl) ?_
  refine lv_iconst (v := nI (2)) hx hb dX8_parts_10 (by decide +kernel) ?_
  refine lv_ishr hx hb dX8_parts_11 ?_
  refine lv_iconst (v := nI (1)) hx hb dX8_parts_12 (by decide +kernel) ?_
  refine lv_iand hx hb dX8_parts_13 ?_
  refine lv_iadd hx hb dX8_parts_14 ?_
  exact W.iret (v := (((x) &&& (nI (1))) + (((x) >>> ((nI (1)) &&& 31)) &&& (nI (1)))) + (((x) >>> ((nI (2)) &&& 31)) &&& (nI (1)))) hx hb hr (fun t ht hW => ⟨(((x) &&& (nI (1))) + (((x) >>> ((nI (1)) &&& 31)) &&& (nI (1)))) + (((x) >>> ((nI (2)) &&& 31)) &&& (nI (1))), rfl, (by show (((x) &&& (nI (1))) + (((x) >>> ((nI (1)) &&& 31)) &&& (nI (1)))) + (((x) >>> ((nI (2)) &&& 31)) &&& (nI (1))) = ((x &&& 1) + ((x >>> ((1 : Int32) &&& 31)) &&& 1)) + ((x >>> ((2 : Int32) &&& 31)) &&& 1); rfl), ht⟩) (fun _ h => by cases h) dX8_parts_15

set_option maxHeartbeats 1200000 in
set_option maxRecDepth 100000 in
theorem c8_seenByCode (l : Launch) (k : Nat) (hk : k < 320) (x : Int32) : Met l yX8_seenByCode wsX8_seenByCode ({ frames := 1, cells := 0, slots := 0, locals := 25 } : Room) (va_Pc [.int (nI (k)), .int (x)] (fun U => True)) (vp_Si (fun r => r = see (nI (k / 64)) (nI (k / 8 % 8)) (nI (k % 8)) x)) 0 0 (fun _ => False) := by
  refine Met.ofW (cc := cX8_seenByCode) (maxL := 2) (ret := (some .int)) (by decide) rfl ?_
  intro p_ e_ s m args below meth c_0 s₁ B hml hv
  obtain ⟨rfl, -⟩ := hv
  have hx := B.exec
  have hb := B.bytes
  have hr := B.returns
  have hts := atoms_spec (ws := wsX8_seenByCode) B.pre
  have hown : s.vm.findClass RX8 = some m.cls := findClass_of_methodNamed B.named
  have hlocks := B.notSynchronized
  have hl := lv_entry ([.int (nI (k)), .int (x)]) (n := 2) (Nat.le_of_ble_eq_true rfl)
  rw [lg_entry_eq]
  generalize (lg_sl ([.int (nI (k)), .int (x)]) ++ List.replicate (2 - (lg_sl ([.int (nI (k)), .int (x)])).length) Slot.unset).toArray = ls at hl ⊢
  have hl : lv_has ls 2 [(0, .int (nI (k))), (1, .int (x))] := hl
  refine lv_iload_n hx hb dX8_seenByCode_0 rfl (lv_at hl 0 rfl) ?_
  refine lv_bipush (v := nI (64)) hx hb dX8_seenByCode_1 (by decide +kernel) ?_
  refine lv_idiv hx hb dX8_seenByCode_3 (by decide +kernel) ?_
  refine tv (pk_div (a := k) (d := 64) (by omega) (by decide) (by decide)) ?_
  refine lv_iload_n hx hb dX8_seenByCode_4 rfl (lv_at hl 0 rfl) ?_
  refine lv_bipush (v := nI (8)) hx hb dX8_seenByCode_5 (by decide +kernel) ?_
  refine lv_idiv hx hb dX8_seenByCode_7 (by decide +kernel) ?_
  refine tv (pk_div (a := k) (d := 8) (by omega) (by decide) (by decide)) ?_
  refine lv_bipush (v := nI (8)) hx hb dX8_seenByCode_8 (by decide +kernel) ?_
  refine lv_irem hx hb dX8_seenByCode_10 (by decide +kernel) ?_
  refine tv (pk_rem (a := (k) / 8) (d := 8) (by omega) (by decide) (by decide)) ?_
  refine lv_iload_n hx hb dX8_seenByCode_11 rfl (lv_at hl 0 rfl) ?_
  refine lv_bipush (v := nI (8)) hx hb dX8_seenByCode_12 (by decide +kernel) ?_
  refine lv_irem hx hb dX8_seenByCode_14 (by decide +kernel) ?_
  refine tv (pk_rem (a := k) (d := 8) (by omega) (by decide) (by decide)) ?_
  refine lv_iload_n hx hb dX8_seenByCode_15 rfl (lv_at hl 1 rfl) ?_
  refine vp_callSi (va_Run.run (va_runS (As := [.int (nI ((k) / 64)), .int (nI (((k) / 8) % 8)), .int (nI ((k) % 8)), .int (x)]) (rest := []) ⟨hx, hb, hml, hown, hts⟩ (c8_seenBy l (nI ((k) / 64)) (nI (((k) / 8) % 8)) (nI ((k) % 8)) (x)) (va_cwS 4 hts gX8_seenByCode_X8_seenBy rfl rfl rfl (by decide +kernel) ⟨Nat.le_of_ble_eq_true rfl, Nat.le_of_ble_eq_true rfl⟩) ⟨fun _ _ _ _ q => q, fun U hU hW => ⟨rfl, trivial⟩⟩ rfl rfl hl.1 rfl (lv_room (Nat.le_of_ble_eq_true rfl)) dX8_seenByCode_16 ⟨Nat.le_of_ble_eq_true rfl, Nat.le_of_ble_eq_true rfl⟩)) (fun r hrc => ?_)
  have hrc : r = see (nI ((k) / 64)) (nI (((k) / 8) % 8)) (nI ((k) % 8)) (x) := hrc
  subst hrc
  exact W.iret (v := see (nI ((k) / 64)) (nI (((k) / 8) % 8)) (nI ((k) % 8)) (x)) hx hb hr (fun t ht hW => ⟨see (nI ((k) / 64)) (nI (((k) / 8) % 8)) (nI ((k) % 8)) (x), rfl, (by show see (nI ((k) / 64)) (nI (((k) / 8) % 8)) (nI ((k) % 8)) (x) = see (nI (k / 64)) (nI (k / 8 % 8)) (nI (k % 8)) x; rfl), ht⟩) (fun _ h => by cases h) dX8_seenByCode_19
end
section
set_option maxHeartbeats 1200000 in
set_option maxRecDepth 100000 in
theorem c8_faultOf (l : Launch) (dC : Nat → ClassId) (dI : Nat → Nat → Nat) (cI : ClassId) (a : Nat) (o : Nat → Nat) (f : Nat → Int32) (g : Nat → Nat → Int32) (h : Int64) {k1 : Nat} (e1 : f 1 = nI k1) (b1 : k1 ≤ 10) : Met l yX8_faultOf wsX8_faultOf ({ frames := 1, cells := 0, slots := 0, locals := 25 } : Room) (va_Pc [.ref (a)] (fun U => va_P (dC, dI) vwCl (mW cI a o f g h) U.heap ∧ va_K (dC, dI) vwCl [(cI, .int)] U)) (vp_Si (fun r => r = nI (mfl g k1))) 0 0 (fun _ => False) := by
  refine Met.ofW (cc := cX8_faultOf) (maxL := 2) (ret := (some .int)) (by decide) rfl ?_
  intro p_ e_ s m args below meth c_0 s₁ B hml hv
  obtain ⟨rfl, hP, hK⟩ := hv
  have hx := B.exec
  have hb := B.bytes
  have hr := B.returns
  have hts := atoms_spec (ws := wsX8_faultOf) B.pre
  have hown : s.vm.findClass RX8 = some m.cls := findClass_of_methodNamed B.named
  have hlocks := B.notSynchronized
  have hP : va_P (dC, dI) vwCl (mW cI a o f g h) s.heap := hP
  have hl := lv_entry ([.ref (a)]) (n := 2) (Nat.le_of_ble_eq_true rfl)
  rw [lg_entry_eq]
  generalize (lg_sl ([.ref (a)]) ++ List.replicate (2 - (lg_sl ([.ref (a)])).length) Slot.unset).toArray = ls at hl ⊢
  have hl : lv_has ls 2 [(0, .ref (a))] := hl
  have hin8 : ∀ w ∈ wsX80, w ∈ wsX8_faultOf := fun _ h => List.mem_cons_of_mem _ (List.mem_append_right _ h)
  have hW0 := hts (.fieldLink RX8 52 "EachEyeModel" "pageMany" "I") (by decide +kernel)
  have hW1 := hts (.fieldLink RX8 7 "EachEyeModel" "page" "[I") (by decide +kernel)
  have hW2 := hts (.constantLong RX8 55 (48)) (by decide +kernel)
  have hW3 := hts (.constantLong RX8 57 (55)) (by decide +kernel)
  refine lv_iconst (v := nI (0)) hx hb dX8_faultOf_0 (by decide +kernel) ?_
  refine lv_istore_n (lv' := [(1, .int (nI (0))), (0, .ref (a))]) hx hb dX8_faultOf_1 rfl hl (by decide) rfl (fun ls hl => ?_)
  refine lp_ro (fun k : Nat => 6 - k) (fun k : Nat => k ≤ min k1 6 ∧ ∀ j, j < k → mdg g j = true) (fun k : Nat => [(0, .ref (a)), (1, .int (nI (k)))]) (0) ⟨by omega, fun j h => absurd h (Nat.not_lt_zero _)⟩ (by show lv_has ls 2 [(0, .ref (a)), (1, .int (nI (0)))]; exact lv_sub hl [1, 0] rfl) (fun k hI ih_2 ls hl => ?_)
  have hI : k ≤ min k1 6 ∧ ∀ j, j < k → mdg g j = true := hI
  have hl : lv_has ls 2 [(0, .ref (a)), (1, .int (nI (k)))] := hl
  have hI1 := hI.1
  refine lv_iload_n hx hb dX8_faultOf_2 rfl (lv_at hl 1 rfl) ?_
  refine lv_aload_n hx hb dX8_faultOf_3 rfl (lv_at hl 0 rfl) ?_
  refine va_get (D := (dC, dI)) (ci := 8) (v := .int (nI (k1))) (C := RX8) (T := TX8) (N := 25) hx hb hts hin8 hown hK hP 0 rfl rfl 1 (by decide) hW0 (fun _ h9 => h9) (congrArg (fun z => some (Value.int z)) e1) dX8_faultOf_4 ?_
  refine lv_icmp_ge (tgt := 41) hx hb dX8_faultOf_7 (by decide) (fun c_1 => ?_) (fun c_1 => ?_)
  · skip
    rw [nI_leI (a := k1) (b := k) (by omega) (by omega)] at c_1
    refine lv_iload_n hx hb dX8_faultOf_41 rfl (lv_at hl 1 rfl) ?_
    exact W.iret (v := nI (k)) hx hb hr (fun t ht hW => ⟨nI (k), rfl, (by show nI (k) = nI (mfl g k1); rw [mfl, show min k1 6 = k by omega, fst1_no (fun j hj => by rw [hI.2 j hj]; rfl)]), ht⟩) (fun _ h => by cases h) dX8_faultOf_42
  · skip
    rw [nI_leI (a := k1) (b := k) (by omega) (by omega)] at c_1
    refine lv_iload_n hx hb dX8_faultOf_10 rfl (lv_at hl 1 rfl) ?_
    refine lv_bipush (v := nI (6)) hx hb dX8_faultOf_11 (by decide +kernel) ?_
    refine lv_icmp_ge (tgt := 41) hx hb dX8_faultOf_13 (by decide) (fun c_2 => ?_) (fun c_2 => ?_)
    · skip
      rw [nI_leI (a := 6) (b := k) (by omega) (by omega)] at c_2
      refine lv_iload_n hx hb dX8_faultOf_41 rfl (lv_at hl 1 rfl) ?_
      exact W.iret (v := nI (k)) hx hb hr (fun t ht hW => ⟨nI (k), rfl, (by show nI (k) = nI (mfl g k1); rw [mfl, show min k1 6 = k by omega, fst1_no (fun j hj => by rw [hI.2 j hj]; rfl)]), ht⟩) (fun _ h => by cases h) dX8_faultOf_42
    · skip
      rw [nI_leI (a := 6) (b := k) (by omega) (by omega)] at c_2
      refine lv_aload_n hx hb dX8_faultOf_16 rfl (lv_at hl 0 rfl) ?_
      refine va_get (D := (dC, dI)) (ci := 8) (v := .ref (o 0)) (C := RX8) (T := TX8) (N := 25) hx hb hts hin8 hown hK hP 0 rfl rfl 0 (by decide) hW1 (fun _ h9 => h9) rfl dX8_faultOf_17 ?_
      refine lv_iload_n hx hb dX8_faultOf_20 rfl (lv_at hl 1 rfl) ?_
      refine ald hx hb hK hP (f := g 0) (k := k) 1 0 rfl rfl rfl (by omega) (by decide) dX8_faultOf_21 ?_
      refine lv_i2l hx hb dX8_faultOf_22 rfl ?_
      refine lv_ldc2 (v := 48) hx hb hown hW2 dX8_faultOf_23 ?_
      refine lv_ldc2 (v := 55) hx hb hown hW3 dX8_faultOf_26 ?_
      refine vp_callSi (va_Run.run (va_runS (As := [.long ((g 0 (k)).toInt64), .long (48), .long (55)]) (rest := []) ⟨hx, hb, hml, hown, hts⟩ (c8_in l (g 0 (k)) (48) (55) (48) (55) rfl rfl) (va_cwS 3 hts gX8_faultOf_X8_in rfl rfl rfl (by decide +kernel) ⟨Nat.le_of_ble_eq_true rfl, Nat.le_of_ble_eq_true rfl⟩) ⟨fun _ _ _ _ q => q, fun U hU hW => ⟨rfl, trivial⟩⟩ rfl rfl hl.1 rfl (lv_room (Nat.le_of_ble_eq_true rfl)) dX8_faultOf_29 ⟨Nat.le_of_ble_eq_true rfl, Nat.le_of_ble_eq_true rfl⟩)) (fun r hrc => ?_)
      have hrc : r = b2i ((48) ≤ (g 0 (k)).toInt ∧ (g 0 (k)).toInt ≤ (55)) := hrc
      subst hrc
      refine lv_if_eq (tgt := 41) hx hb dX8_faultOf_32 (by decide) (fun c_3 => ?_) (fun c_3 => ?_)
      · skip
        have c_3 := b2i_0 c_3
        refine lv_iload_n hx hb dX8_faultOf_41 rfl (lv_at hl 1 rfl) ?_
        exact W.iret (v := nI (k)) hx hb hr (fun t ht hW => ⟨nI (k), rfl, (by show nI (k) = nI (mfl g k1); rw [mfl, fst1_at (k := k) (by omega) (fun j hj => by rw [hI.2 j hj]; rfl) (by rw [mdg, decide_eq_false c_3]; rfl)]), ht⟩) (fun _ h => by cases h) dX8_faultOf_42
      · skip
        have c_3 := b2i_1 c_3
        refine lv_iinc (v := nI (k + 1)) (lv' := [(1, .int (nI (k + 1))), (0, .ref (a))]) hx hb dX8_faultOf_35 hl (k := 1) rfl (nI_1 _) (by decide) rfl (fun ls hl => ?_)
        refine lv_goto (tgt := 2) hx hb dX8_faultOf_38 (by decide) ?_
        exact ih_2 (k + 1) ls (by show _ < _; omega) ⟨by omega, lt_s hI.2 (by rw [mdg]; exact decide_eq_true (c_3))⟩ (by show lv_has ls 2 [(0, .ref (a)), (1, .int (nI ((k + 1))))]; exact lv_sub hl [1, 0] rfl)

set_option maxHeartbeats 1200000 in
set_option maxRecDepth 100000 in
theorem c8_fault (l : Launch) (dC : Nat → ClassId) (dI : Nat → Nat → Nat) (cI : ClassId) (a : Nat) (o : Nat → Nat) (f : Nat → Int32) (g : Nat → Nat → Int32) (h : Int64) {k1 : Nat} (e1 : f 1 = nI k1) (b1 : k1 ≤ 10) : Met l yX8_fault wsX8_fault ({ frames := 2, cells := 0, slots := 0, locals := 46 } : Room) (va_Pc [.ref (a)] (fun U => va_P (dC, dI) vwCl (mW cI a o f g h) U.heap ∧ va_K (dC, dI) vwCl [(cI, .int)] U)) (vp_Si (fun r => r = nI (mfl g k1))) 0 0 (fun _ => False) := by
  refine Met.ofW (cc := cX8_fault) (maxL := 1) (ret := (some .int)) (by decide) rfl ?_
  intro p_ e_ s m args below meth c_0 s₁ B hml hv
  obtain ⟨rfl, hP, hK⟩ := hv
  have hx := B.exec
  have hb := B.bytes
  have hr := B.returns
  have hts := atoms_spec (ws := wsX8_fault) B.pre
  have hown : s.vm.findClass RX8 = some m.cls := findClass_of_methodNamed B.named
  have hlocks := B.notSynchronized
  have hP : va_P (dC, dI) vwCl (mW cI a o f g h) s.heap := hP
  have hl := lv_entry ([.ref (a)]) (n := 1) (Nat.le_of_ble_eq_true rfl)
  rw [lg_entry_eq]
  generalize (lg_sl ([.ref (a)]) ++ List.replicate (1 - (lg_sl ([.ref (a)])).length) Slot.unset).toArray = ls at hl ⊢
  have hl : lv_has ls 1 [(0, .ref (a))] := hl
  refine lv_aload_n hx hb dX8_fault_0 rfl (lv_at hl 0 rfl) ?_
  refine vp_callSi (va_Run.run (va_runV (As := []) (rest := []) ⟨hx, hb, hml, hown, hts⟩ (c8_faultOf l dC dI cI a o (f) (g) (h) e1 (by omega)  ) (cwV 0 hts gX8_fault_X8_faultOf rfl rfl rfl (by decide +kernel) ⟨Nat.le_of_ble_eq_true rfl, Nat.le_of_ble_eq_true rfl⟩) ⟨fun a U g mk q => ⟨q.1, q.2.1, va_K.moved (u := U) (U := U.calling g mk a) (Vm.Alike.refl U.vm) q.2.2⟩, va_recv hK hP (ci := 8) (q0 := 0) rfl rfl, fun U hU hW => ⟨rfl, by rw [hU]; exact hP, va_K.moved hW.alike hK⟩⟩ rfl rfl hl.1 rfl (lv_room (Nat.le_of_ble_eq_true rfl)) dX8_fault_1 ⟨Nat.le_of_ble_eq_true rfl, Nat.le_of_ble_eq_true rfl⟩)) (fun r hrc => ?_)
  have hrc : r = nI (mfl (g) (k1)) := hrc
  subst hrc
  exact W.iret (v := nI (mfl (g) (k1))) hx hb hr (fun t ht hW => ⟨nI (mfl (g) (k1)), rfl, (by show nI (mfl (g) (k1)) = nI (mfl g k1); rfl), ht⟩) (fun _ h => by cases h) dX8_fault_4

set_option maxHeartbeats 1200000 in
set_option maxRecDepth 100000 in
theorem c8_isSix (l : Launch) (dC : Nat → ClassId) (dI : Nat → Nat → Nat) (cI : ClassId) (a : Nat) (o : Nat → Nat) (f : Nat → Int32) (g : Nat → Nat → Int32) (h : Int64) {k1 : Nat} (e1 : f 1 = nI k1) (b1 : k1 ≤ 10) : Met l yX8_isSix wsX8_isSix ({ frames := 2, cells := 0, slots := 0, locals := 46 } : Room) (va_Pc [.ref (a)] (fun U => va_P (dC, dI) vwCl (mW cI a o f g h) U.heap ∧ va_K (dC, dI) vwCl [(cI, .int)] U)) (vp_Si (fun r => r = b2i (k1 = 6 ∧ mfl g k1 = 6))) 0 0 (fun _ => False) := by
  refine Met.ofW (cc := cX8_isSix) (maxL := 1) (ret := (some .boolean)) (by decide) rfl ?_
  intro p_ e_ s m args below meth c_0 s₁ B hml hv
  obtain ⟨rfl, hP, hK⟩ := hv
  have hx := B.exec
  have hb := B.bytes
  have hr := B.returns
  have hts := atoms_spec (ws := wsX8_isSix) B.pre
  have hown : s.vm.findClass RX8 = some m.cls := findClass_of_methodNamed B.named
  have hlocks := B.notSynchronized
  have hP : va_P (dC, dI) vwCl (mW cI a o f g h) s.heap := hP
  have hl := lv_entry ([.ref (a)]) (n := 1) (Nat.le_of_ble_eq_true rfl)
  rw [lg_entry_eq]
  generalize (lg_sl ([.ref (a)]) ++ List.replicate (1 - (lg_sl ([.ref (a)])).length) Slot.unset).toArray = ls at hl ⊢
  have hl : lv_has ls 1 [(0, .ref (a))] := hl
  have hin8 : ∀ w ∈ wsX80, w ∈ wsX8_isSix := fun _ h => List.mem_cons_of_mem _ (List.mem_append_right _ h)
  have hW0 := hts (.fieldLink RX8 52 "EachEyeModel" "pageMany" "I") (by decide +kernel)
  refine lv_aload_n hx hb dX8_isSix_0 rfl (lv_at hl 0 rfl) ?_
  refine va_get (D := (dC, dI)) (ci := 8) (v := .int (nI (k1))) (C := RX8) (T := TX8) (N := 25) hx hb hts hin8 hown hK hP 0 rfl rfl 1 (by decide) hW0 (fun _ h9 => h9) (congrArg (fun z => some (Value.int z)) e1) dX8_isSix_1 ?_
  refine lv_bipush (v := nI (6)) hx hb dX8_isSix_4 (by decide +kernel) ?_
  refine lv_icmp_ne (tgt := 22) hx hb dX8_isSix_6 (by decide) (fun c_1 => ?_) (fun c_1 => ?_)
  · skip
    rw [nI_eq (a := k1) (b := 6) (by omega) (by omega)] at c_1
    refine lv_iconst (v := nI (0)) hx hb dX8_isSix_22 (by decide +kernel) ?_
    exact W.zret (ty := .boolean) (v := nI (0)) hx hb hr rfl (fun t ht hW => ⟨nI (0), rfl, (by show nI (0) = b2i (k1 = 6 ∧ mfl g k1 = 6); exact b2i_f (by omega)), ht⟩) (fun _ h => by cases h) dX8_isSix_23
  · skip
    rw [nI_eq (a := k1) (b := 6) (by omega) (by omega)] at c_1
    refine lv_aload_n hx hb dX8_isSix_9 rfl (lv_at hl 0 rfl) ?_
    refine vp_callSi (va_Run.run (va_runV (As := []) (rest := []) ⟨hx, hb, hml, hown, hts⟩ (c8_faultOf l dC dI cI a o (f) (g) (h) e1 (by omega)  ) (cwV 0 hts gX8_isSix_X8_faultOf rfl rfl rfl (by decide +kernel) ⟨Nat.le_of_ble_eq_true rfl, Nat.le_of_ble_eq_true rfl⟩) ⟨fun a U g mk q => ⟨q.1, q.2.1, va_K.moved (u := U) (U := U.calling g mk a) (Vm.Alike.refl U.vm) q.2.2⟩, va_recv hK hP (ci := 8) (q0 := 0) rfl rfl, fun U hU hW => ⟨rfl, by rw [hU]; exact hP, va_K.moved hW.alike hK⟩⟩ rfl rfl hl.1 rfl (lv_room (Nat.le_of_ble_eq_true rfl)) dX8_isSix_10 ⟨Nat.le_of_ble_eq_true rfl, Nat.le_of_ble_eq_true rfl⟩)) (fun r hrc => ?_)
    have hrc : r = nI (mfl (g) (k1)) := hrc
    subst hrc
    have hfl := fst1_le (fun j => !mdg g j) (min k1 6)
    rw [← mfl] at hfl
    refine lv_bipush (v := nI (6)) hx hb dX8_isSix_13 (by decide +kernel) ?_
    refine lv_icmp_ne (tgt := 22) hx hb dX8_isSix_15 (by decide) (fun c_2 => ?_) (fun c_2 => ?_)
    · skip
      rw [nI_eq (a := mfl (g) (k1)) (b := 6) (by omega) (by omega)] at c_2
      refine lv_iconst (v := nI (0)) hx hb dX8_isSix_22 (by decide +kernel) ?_
      exact W.zret (ty := .boolean) (v := nI (0)) hx hb hr rfl (fun t ht hW => ⟨nI (0), rfl, (by show nI (0) = b2i (k1 = 6 ∧ mfl g k1 = 6); exact b2i_f (by omega)), ht⟩) (fun _ h => by cases h) dX8_isSix_23
    · skip
      rw [nI_eq (a := mfl (g) (k1)) (b := 6) (by omega) (by omega)] at c_2
      refine lv_iconst (v := nI (1)) hx hb dX8_isSix_18 (by decide +kernel) ?_
      refine lv_goto (tgt := 23) hx hb dX8_isSix_19 (by decide) ?_
      exact W.zret (ty := .boolean) (v := nI (1)) hx hb hr rfl (fun t ht hW => ⟨nI (1), rfl, (by show nI (1) = b2i (k1 = 6 ∧ mfl g k1 = 6); exact b2i_t ⟨by omega, by omega⟩), ht⟩) (fun _ h => by cases h) dX8_isSix_23

set_option maxHeartbeats 1200000 in
set_option maxRecDepth 100000 in
theorem c8_inkedCells (l : Launch) (dC : Nat → ClassId) (dI : Nat → Nat → Nat) (cI : ClassId) (a : Nat) (o : Nat → Nat) (f : Nat → Int32) (g : Nat → Nat → Int32) (h : Int64) : Met l yX8_inkedCells wsX8_inkedCells ({ frames := 0, cells := 0, slots := 0, locals := 0 } : Room) (va_Pc [.ref (a)] (fun U => va_P (dC, dI) vwCl (mW cI a o f g h) U.heap ∧ va_K (dC, dI) vwCl [(cI, .int)] U)) (vp_Si (fun r => r = mInk f g)) 0 0 (fun _ => False) := by
  refine Met.ofW (cc := cX8_inkedCells) (maxL := 3) (ret := (some .int)) (by decide) rfl ?_
  intro p_ e_ s m args below meth c_0 s₁ B hml hv
  obtain ⟨rfl, hP, hK⟩ := hv
  have hx := B.exec
  have hb := B.bytes
  have hr := B.returns
  have hts := atoms_spec (ws := wsX8_inkedCells) B.pre
  have hown : s.vm.findClass RX8 = some m.cls := findClass_of_methodNamed B.named
  have hlocks := B.notSynchronized
  have hP : va_P (dC, dI) vwCl (mW cI a o f g h) s.heap := hP
  have hl := lv_entry ([.ref (a)]) (n := 3) (Nat.le_of_ble_eq_true rfl)
  rw [lg_entry_eq]
  generalize (lg_sl ([.ref (a)]) ++ List.replicate (3 - (lg_sl ([.ref (a)])).length) Slot.unset).toArray = ls at hl ⊢
  have hl : lv_has ls 3 [(0, .ref (a))] := hl
  have hin8 : ∀ w ∈ wsX80, w ∈ wsX8_inkedCells := fun _ h => List.mem_cons_of_mem _ (List.mem_append_right _ h)
  have hW0 := hts (.fieldLink RX8 63 "EachEyeModel" "isThere" "Z") (by decide +kernel)
  have hW1 := hts (.fieldLink RX8 13 "EachEyeModel" "hues" "[I") (by decide +kernel)
  refine lv_iconst (v := nI (0)) hx hb dX8_inkedCells_0 (by decide +kernel) ?_
  refine lv_istore_n (lv' := [(1, .int (nI (0))), (0, .ref (a))]) hx hb dX8_inkedCells_1 rfl hl (by decide) rfl (fun ls hl => ?_)
  refine lv_iconst (v := nI (0)) hx hb dX8_inkedCells_2 (by decide +kernel) ?_
  refine lv_istore_n (lv' := [(2, .int (nI (0))), (1, .int (nI (0))), (0, .ref (a))]) hx hb dX8_inkedCells_3 rfl hl (by decide) rfl (fun ls hl => ?_)
  have e0_1 : (nI (0)) = sm (fun c => if g 5 c = nI 0 then 0 else 1) 0 := rfl
  refine lp_ro (fun k : Nat => 6 - k) (fun k : Nat => k ≤ 6 ∧ (k = 0 ∨ ¬ f 2 = nI 0)) (fun k : Nat => [(0, .ref (a)), (1, .int (sm (fun c => if g 5 c = nI 0 then 0 else 1) k)), (2, .int (nI (k)))]) (0) ⟨by omega, Or.inl rfl⟩ (by show lv_has ls 3 [(0, .ref (a)), (1, .int (sm (fun c => if g 5 c = nI 0 then 0 else 1) 0)), (2, .int (nI (0)))]; rw [← e0_1]; exact lv_sub hl [2, 1, 0] rfl) (fun k hI ih_4 ls hl => ?_)
  have hI : k ≤ 6 ∧ (k = 0 ∨ ¬ f 2 = nI 0) := hI
  have hl : lv_has ls 3 [(0, .ref (a)), (1, .int (sm (fun c => if g 5 c = nI 0 then 0 else 1) k)), (2, .int (nI (k)))] := hl
  have hI1 := hI.1
  refine lv_iload_n hx hb dX8_inkedCells_4 rfl (lv_at hl 2 rfl) ?_
  refine lv_bipush (v := nI (6)) hx hb dX8_inkedCells_5 (by decide +kernel) ?_
  refine lv_icmp_ge (tgt := 40) hx hb dX8_inkedCells_7 (by decide) (fun c_1 => ?_) (fun c_1 => ?_)
  · skip
    rw [nI_leI (a := 6) (b := k) (by omega) (by omega)] at c_1
    refine lv_iload_n hx hb dX8_inkedCells_40 rfl (lv_at hl 1 rfl) ?_
    exact W.iret (v := sm (fun c => if g 5 c = nI 0 then 0 else 1) k) hx hb hr (fun t ht hW => ⟨sm (fun c => if g 5 c = nI 0 then 0 else 1) k, rfl, (by show sm (fun c => if g 5 c = nI 0 then 0 else 1) k = mInk f g; have h6 : k = 6 := (by omega); subst h6; rw [mInk, if_neg (hI.2.resolve_left (by decide))]; try rfl), ht⟩) (fun _ h => by cases h) dX8_inkedCells_41
  · skip
    rw [nI_leI (a := 6) (b := k) (by omega) (by omega)] at c_1
    refine lv_aload_n hx hb dX8_inkedCells_10 rfl (lv_at hl 0 rfl) ?_
    refine va_get (D := (dC, dI)) (ci := 8) (v := .int (f 2)) (C := RX8) (T := TX8) (N := 25) hx hb hts hin8 hown hK hP 0 rfl rfl 2 (by decide) hW0 (fun _ h9 => h9) rfl dX8_inkedCells_11 ?_
    refine lv_if_eq (tgt := 40) hx hb dX8_inkedCells_14 (by decide) (fun c_2 => ?_) (fun c_2 => ?_)
    · skip
      have c_2 : (f 2) = nI 0 := c_2
      refine lv_iload_n hx hb dX8_inkedCells_40 rfl (lv_at hl 1 rfl) ?_
      exact W.iret (v := sm (fun c => if g 5 c = nI 0 then 0 else 1) k) hx hb hr (fun t ht hW => ⟨sm (fun c => if g 5 c = nI 0 then 0 else 1) k, rfl, (by show sm (fun c => if g 5 c = nI 0 then 0 else 1) k = mInk f g; have h0 : k = 0 := hI.2.resolve_right (fun z => z c_2); subst h0; rw [mInk, if_pos c_2]; try rfl), ht⟩) (fun _ h => by cases h) dX8_inkedCells_41
    · skip
      have c_2 : ¬ (f 2) = nI 0 := c_2
      refine lv_iload_n hx hb dX8_inkedCells_17 rfl (lv_at hl 1 rfl) ?_
      refine lv_aload_n hx hb dX8_inkedCells_18 rfl (lv_at hl 0 rfl) ?_
      refine va_get (D := (dC, dI)) (ci := 8) (v := .ref (o 5)) (C := RX8) (T := TX8) (N := 25) hx hb hts hin8 hown hK hP 0 rfl rfl 5 (by decide) hW1 (fun _ h9 => h9) rfl dX8_inkedCells_19 ?_
      refine lv_iload_n hx hb dX8_inkedCells_22 rfl (lv_at hl 2 rfl) ?_
      refine ald hx hb hK hP (f := g 5) (k := k) 2 0 rfl rfl rfl (by omega) (by decide) dX8_inkedCells_23 ?_
      refine lv_if_ne (tgt := 31) hx hb dX8_inkedCells_24 (by decide) (fun c_3 => ?_) (fun c_3 => ?_)
      · skip
        have c_3 : ¬ (g 5 (k)) = nI 0 := c_3
        refine lv_iconst (v := nI (1)) hx hb dX8_inkedCells_31 (by decide +kernel) ?_
        refine lv_iadd hx hb dX8_inkedCells_32 ?_
        refine lv_istore_n (lv' := [(1, .int ((sm (fun c => if g 5 c = nI 0 then 0 else 1) k) + (nI (1)))), (0, .ref (a)), (2, .int (nI (k)))]) hx hb dX8_inkedCells_33 rfl hl (by decide) rfl (fun ls hl => ?_)
        refine lv_iinc (v := nI (k + 1)) (lv' := [(2, .int (nI (k + 1))), (1, .int ((sm (fun c => if g 5 c = nI 0 then 0 else 1) k) + (nI (1)))), (0, .ref (a))]) hx hb dX8_inkedCells_34 hl (k := 2) rfl (nI_1 _) (by decide) rfl (fun ls hl => ?_)
        refine lv_goto (tgt := 4) hx hb dX8_inkedCells_37 (by decide) ?_
        have e1_1 : ((sm (fun c => if g 5 c = nI 0 then 0 else 1) k) + (nI (1))) = sm (fun c => if g 5 c = nI 0 then 0 else 1) (k + 1) := by first | rfl | (simp only [sm, alB, if_neg c_1, if_neg c_2, if_neg c_3]; done) | (simp only [sm, alB, if_neg c_1, if_neg c_2, if_neg c_3]; rfl) | (simp [sm, alB, if_neg c_1, if_neg c_2, if_neg c_3]; done)
        exact ih_4 (k + 1) ls (by show _ < _; omega) ⟨by omega, Or.inr c_2⟩ (by show lv_has ls 3 [(0, .ref (a)), (1, .int (sm (fun c => if g 5 c = nI 0 then 0 else 1) (k + 1))), (2, .int (nI ((k + 1))))]; rw [← e1_1]; exact lv_sub hl [2, 1, 0] rfl)
      · skip
        have c_3 : (g 5 (k)) = nI 0 := c_3
        refine lv_iconst (v := nI (0)) hx hb dX8_inkedCells_27 (by decide +kernel) ?_
        refine lv_goto (tgt := 32) hx hb dX8_inkedCells_28 (by decide) ?_
        refine lv_iadd hx hb dX8_inkedCells_32 ?_
        refine lv_istore_n (lv' := [(1, .int ((sm (fun c => if g 5 c = nI 0 then 0 else 1) k) + (nI (0)))), (0, .ref (a)), (2, .int (nI (k)))]) hx hb dX8_inkedCells_33 rfl hl (by decide) rfl (fun ls hl => ?_)
        refine lv_iinc (v := nI (k + 1)) (lv' := [(2, .int (nI (k + 1))), (1, .int ((sm (fun c => if g 5 c = nI 0 then 0 else 1) k) + (nI (0)))), (0, .ref (a))]) hx hb dX8_inkedCells_34 hl (k := 2) rfl (nI_1 _) (by decide) rfl (fun ls hl => ?_)
        refine lv_goto (tgt := 4) hx hb dX8_inkedCells_37 (by decide) ?_
        have e1_1 : ((sm (fun c => if g 5 c = nI 0 then 0 else 1) k) + (nI (0))) = sm (fun c => if g 5 c = nI 0 then 0 else 1) (k + 1) := by first | rfl | (simp only [sm, alB, if_neg c_1, if_neg c_2, if_pos c_3]; done) | (simp only [sm, alB, if_neg c_1, if_neg c_2, if_pos c_3]; rfl) | (simp [sm, alB, if_neg c_1, if_neg c_2, if_pos c_3]; done)
        exact ih_4 (k + 1) ls (by show _ < _; omega) ⟨by omega, Or.inr c_2⟩ (by show lv_has ls 3 [(0, .ref (a)), (1, .int (sm (fun c => if g 5 c = nI 0 then 0 else 1) (k + 1))), (2, .int (nI ((k + 1))))]; rw [← e1_1]; exact lv_sub hl [2, 1, 0] rfl)

set_option maxHeartbeats 1200000 in
set_option maxRecDepth 100000 in
theorem c8_hue (l : Launch) (dC : Nat → ClassId) (dI : Nat → Nat → Nat) (cI : ClassId) (a : Nat) (o : Nat → Nat) (f : Nat → Int32) (g : Nat → Nat → Int32) (h : Int64) (x : Int32) : Met l yX8_hue wsX8_hue ({ frames := 1, cells := 0, slots := 0, locals := 25 } : Room) (va_Pc [.ref (a), .int (x)] (fun U => va_P (dC, dI) vwCl (mW cI a o f g h) U.heap ∧ va_K (dC, dI) vwCl [(cI, .int)] U)) (vp_Si (fun r => r = mHue f g x)) 0 0 (fun _ => False) := by
  refine Met.ofW (cc := cX8_hue) (maxL := 2) (ret := (some .int)) (by decide) rfl ?_
  intro p_ e_ s m args below meth c_0 s₁ B hml hv
  obtain ⟨rfl, hP, hK⟩ := hv
  have hx := B.exec
  have hb := B.bytes
  have hr := B.returns
  have hts := atoms_spec (ws := wsX8_hue) B.pre
  have hown : s.vm.findClass RX8 = some m.cls := findClass_of_methodNamed B.named
  have hlocks := B.notSynchronized
  have hP : va_P (dC, dI) vwCl (mW cI a o f g h) s.heap := hP
  have hl := lv_entry ([.ref (a), .int (x)]) (n := 2) (Nat.le_of_ble_eq_true rfl)
  rw [lg_entry_eq]
  generalize (lg_sl ([.ref (a), .int (x)]) ++ List.replicate (2 - (lg_sl ([.ref (a), .int (x)])).length) Slot.unset).toArray = ls at hl ⊢
  have hl : lv_has ls 2 [(0, .ref (a)), (1, .int (x))] := hl
  have hin8 : ∀ w ∈ wsX80, w ∈ wsX8_hue := fun _ h => List.mem_cons_of_mem _ (List.mem_append_right _ h)
  have hW0 := hts (.fieldLink RX8 63 "EachEyeModel" "isThere" "Z") (by decide +kernel)
  have hW1 := hts (.constantLong RX8 89 (5)) (by decide +kernel)
  have hW2 := hts (.fieldLink RX8 13 "EachEyeModel" "hues" "[I") (by decide +kernel)
  refine lv_aload_n hx hb dX8_hue_0 rfl (lv_at hl 0 rfl) ?_
  refine va_get (D := (dC, dI)) (ci := 8) (v := .int (f 2)) (C := RX8) (T := TX8) (N := 25) hx hb hts hin8 hown hK hP 0 rfl rfl 2 (by decide) hW0 (fun _ h9 => h9) rfl dX8_hue_1 ?_
  refine lv_if_eq (tgt := 28) hx hb dX8_hue_4 (by decide) (fun c_1 => ?_) (fun c_1 => ?_)
  · skip
    have c_1 : (f 2) = nI 0 := c_1
    refine lv_bipush (v := (-101)) hx hb dX8_hue_28 (by decide +kernel) ?_
    exact W.iret (v := (-101)) hx hb hr (fun t ht hW => ⟨(-101), rfl, (by show (-101) = mHue f g x; first | (simp only [mHue, if_pos c_1]; done) | (simp only [mHue, if_pos c_1]; rfl) | rfl | (simp [mHue, if_pos c_1]; done)), ht⟩) (fun _ h => by cases h) dX8_hue_30
  · skip
    have c_1 : ¬ (f 2) = nI 0 := c_1
    refine lv_iload_n hx hb dX8_hue_7 rfl (lv_at hl 1 rfl) ?_
    refine lv_i2l hx hb dX8_hue_8 rfl ?_
    refine lv_lconst (v := 0) hx hb dX8_hue_9 (by decide +kernel) ?_
    refine lv_ldc2 (v := 5) hx hb hown hW1 dX8_hue_10 ?_
    refine vp_callSi (va_Run.run (va_runS (As := [.long ((x).toInt64), .long (0), .long (5)]) (rest := []) ⟨hx, hb, hml, hown, hts⟩ (c8_in l (x) (0) (5) (0) (5) rfl rfl) (va_cwS 3 hts gX8_hue_X8_in rfl rfl rfl (by decide +kernel) ⟨Nat.le_of_ble_eq_true rfl, Nat.le_of_ble_eq_true rfl⟩) ⟨fun _ _ _ _ q => q, fun U hU hW => ⟨rfl, trivial⟩⟩ rfl rfl hl.1 rfl (lv_room (Nat.le_of_ble_eq_true rfl)) dX8_hue_13 ⟨Nat.le_of_ble_eq_true rfl, Nat.le_of_ble_eq_true rfl⟩)) (fun r hrc => ?_)
    have hrc : r = b2i ((0) ≤ (x).toInt ∧ (x).toInt ≤ (5)) := hrc
    subst hrc
    refine lv_if_eq (tgt := 28) hx hb dX8_hue_16 (by decide) (fun c_2 => ?_) (fun c_2 => ?_)
    · skip
      have c_2 := b2i_0 c_2
      refine lv_bipush (v := (-101)) hx hb dX8_hue_28 (by decide +kernel) ?_
      exact W.iret (v := (-101)) hx hb hr (fun t ht hW => ⟨(-101), rfl, (by show (-101) = mHue f g x; first | (simp only [mHue, if_neg c_1, if_neg c_2]; done) | (simp only [mHue, if_neg c_1, if_neg c_2]; rfl) | rfl | (simp [mHue, if_neg c_1, if_neg c_2]; done)), ht⟩) (fun _ h => by cases h) dX8_hue_30
    · skip
      have c_2 := b2i_1 c_2
      refine lv_aload_n hx hb dX8_hue_19 rfl (lv_at hl 0 rfl) ?_
      refine va_get (D := (dC, dI)) (ci := 8) (v := .ref (o 5)) (C := RX8) (T := TX8) (N := 25) hx hb hts hin8 hown hK hP 0 rfl rfl 5 (by decide) hW2 (fun _ h9 => h9) rfl dX8_hue_20 ?_
      refine lv_iload_n hx hb dX8_hue_23 rfl (lv_at hl 1 rfl) ?_
      refine tv (ix_int (by omega)) ?_
      refine ald hx hb hK hP (f := g 5) (k := x.toInt.toNat) 2 0 rfl rfl rfl (by omega) (by decide) dX8_hue_24 ?_
      refine lv_goto (tgt := 30) hx hb dX8_hue_25 (by decide) ?_
      exact W.iret (v := g 5 (x.toInt.toNat)) hx hb hr (fun t ht hW => ⟨g 5 (x.toInt.toNat), rfl, (by show g 5 (x.toInt.toNat) = mHue f g x; first | (simp only [mHue, if_neg c_1, if_pos c_2]; done) | (simp only [mHue, if_neg c_1, if_pos c_2]; rfl) | rfl | (simp [mHue, if_neg c_1, if_pos c_2]; done)), ht⟩) (fun _ h => by cases h) dX8_hue_30

set_option maxHeartbeats 1200000 in
set_option maxRecDepth 100000 in
theorem c8_isPerson (l : Launch) (dC : Nat → ClassId) (dI : Nat → Nat → Nat) (cI : ClassId) (a : Nat) (o : Nat → Nat) (f : Nat → Int32) (g : Nat → Nat → Int32) (h : Int64) {k6 : Nat} (e6 : f 6 = nI k6) (b6 : k6 ≤ 4) (x : Int32) : Met l yX8_isPerson wsX8_isPerson ({ frames := 1, cells := 0, slots := 0, locals := 25 } : Room) (va_Pc [.ref (a), .int (x)] (fun U => va_P (dC, dI) vwCl (mW cI a o f g h) U.heap ∧ va_K (dC, dI) vwCl [(cI, .int)] U)) (vp_Si (fun r => r = b2i (0 ≤ x.toInt ∧ x.toInt ≤ (k6 : Int) - 1))) 0 0 (fun _ => False) := by
  refine Met.ofW (cc := cX8_isPerson) (maxL := 2) (ret := (some .boolean)) (by decide) rfl ?_
  intro p_ e_ s m args below meth c_0 s₁ B hml hv
  obtain ⟨rfl, hP, hK⟩ := hv
  have hx := B.exec
  have hb := B.bytes
  have hr := B.returns
  have hts := atoms_spec (ws := wsX8_isPerson) B.pre
  have hown : s.vm.findClass RX8 = some m.cls := findClass_of_methodNamed B.named
  have hlocks := B.notSynchronized
  have hP : va_P (dC, dI) vwCl (mW cI a o f g h) s.heap := hP
  have hl := lv_entry ([.ref (a), .int (x)]) (n := 2) (Nat.le_of_ble_eq_true rfl)
  rw [lg_entry_eq]
  generalize (lg_sl ([.ref (a), .int (x)]) ++ List.replicate (2 - (lg_sl ([.ref (a), .int (x)])).length) Slot.unset).toArray = ls at hl ⊢
  have hl : lv_has ls 2 [(0, .ref (a)), (1, .int (x))] := hl
  have hin8 : ∀ w ∈ wsX80, w ∈ wsX8_isPerson := fun _ h => List.mem_cons_of_mem _ (List.mem_append_right _ h)
  have hW0 := hts (.fieldLink RX8 71 "EachEyeModel" "people" "I") (by decide +kernel)
  refine lv_iload_n hx hb dX8_isPerson_0 rfl (lv_at hl 1 rfl) ?_
  refine lv_i2l hx hb dX8_isPerson_1 rfl ?_
  refine lv_lconst (v := 0) hx hb dX8_isPerson_2 (by decide +kernel) ?_
  refine lv_aload_n hx hb dX8_isPerson_3 rfl (lv_at hl 0 rfl) ?_
  refine va_get (D := (dC, dI)) (ci := 8) (v := .int (nI (k6))) (C := RX8) (T := TX8) (N := 25) hx hb hts hin8 hown hK hP 0 rfl rfl 6 (by decide) hW0 (fun _ h9 => h9) (congrArg (fun z => some (Value.int z)) e6) dX8_isPerson_4 ?_
  refine lv_iconst (v := nI (1)) hx hb dX8_isPerson_7 (by decide +kernel) ?_
  refine lv_isub hx hb dX8_isPerson_8 ?_
  refine tv (y := nI (k6) - nI (1)) rfl ?_
  refine lv_i2l hx hb dX8_isPerson_9 rfl ?_
  refine vp_callSi (va_Run.run (va_runS (As := [.long ((x).toInt64), .long (0), .long ((nI (k6) - nI (1)).toInt64)]) (rest := []) ⟨hx, hb, hml, hown, hts⟩ (c8_in l (x) (0) ((nI (k6) - nI (1)).toInt64) (0) ((k6 : Int) - 1) rfl (dec_toInt (by omega))) (va_cwS 3 hts gX8_isPerson_X8_in rfl rfl rfl (by decide +kernel) ⟨Nat.le_of_ble_eq_true rfl, Nat.le_of_ble_eq_true rfl⟩) ⟨fun _ _ _ _ q => q, fun U hU hW => ⟨rfl, trivial⟩⟩ rfl rfl hl.1 rfl (lv_room (Nat.le_of_ble_eq_true rfl)) dX8_isPerson_10 ⟨Nat.le_of_ble_eq_true rfl, Nat.le_of_ble_eq_true rfl⟩)) (fun r hrc => ?_)
  have hrc : r = b2i ((0) ≤ (x).toInt ∧ (x).toInt ≤ ((k6 : Int) - 1)) := hrc
  subst hrc
  exact W.zret (ty := .boolean) (v := b2i ((0) ≤ (x).toInt ∧ (x).toInt ≤ ((k6 : Int) - 1))) hx hb hr nar_b2i (fun t ht hW => ⟨b2i ((0) ≤ (x).toInt ∧ (x).toInt ≤ ((k6 : Int) - 1)), rfl, (by show b2i ((0) ≤ (x).toInt ∧ (x).toInt ≤ ((k6 : Int) - 1)) = b2i (0 ≤ x.toInt ∧ x.toInt ≤ (k6 : Int) - 1); rfl), ht⟩) (fun _ h => by cases h) dX8_isPerson_13

set_option maxHeartbeats 1200000 in
set_option maxRecDepth 100000 in
theorem c8_isInk (l : Launch) (dC : Nat → ClassId) (dI : Nat → Nat → Nat) (cI : ClassId) (a : Nat) (o : Nat → Nat) (f : Nat → Int32) (g : Nat → Nat → Int32) (h : Int64) {k7 : Nat} (e7 : f 7 = nI k7) (b7 : k7 ≤ 5) (x : Int32) : Met l yX8_isInk wsX8_isInk ({ frames := 1, cells := 0, slots := 0, locals := 25 } : Room) (va_Pc [.ref (a), .int (x)] (fun U => va_P (dC, dI) vwCl (mW cI a o f g h) U.heap ∧ va_K (dC, dI) vwCl [(cI, .int)] U)) (vp_Si (fun r => r = b2i (0 ≤ x.toInt ∧ x.toInt ≤ (k7 : Int) - 1))) 0 0 (fun _ => False) := by
  refine Met.ofW (cc := cX8_isInk) (maxL := 2) (ret := (some .boolean)) (by decide) rfl ?_
  intro p_ e_ s m args below meth c_0 s₁ B hml hv
  obtain ⟨rfl, hP, hK⟩ := hv
  have hx := B.exec
  have hb := B.bytes
  have hr := B.returns
  have hts := atoms_spec (ws := wsX8_isInk) B.pre
  have hown : s.vm.findClass RX8 = some m.cls := findClass_of_methodNamed B.named
  have hlocks := B.notSynchronized
  have hP : va_P (dC, dI) vwCl (mW cI a o f g h) s.heap := hP
  have hl := lv_entry ([.ref (a), .int (x)]) (n := 2) (Nat.le_of_ble_eq_true rfl)
  rw [lg_entry_eq]
  generalize (lg_sl ([.ref (a), .int (x)]) ++ List.replicate (2 - (lg_sl ([.ref (a), .int (x)])).length) Slot.unset).toArray = ls at hl ⊢
  have hl : lv_has ls 2 [(0, .ref (a)), (1, .int (x))] := hl
  have hin8 : ∀ w ∈ wsX80, w ∈ wsX8_isInk := fun _ h => List.mem_cons_of_mem _ (List.mem_append_right _ h)
  have hW0 := hts (.fieldLink RX8 74 "EachEyeModel" "inks" "I") (by decide +kernel)
  refine lv_iload_n hx hb dX8_isInk_0 rfl (lv_at hl 1 rfl) ?_
  refine lv_i2l hx hb dX8_isInk_1 rfl ?_
  refine lv_lconst (v := 0) hx hb dX8_isInk_2 (by decide +kernel) ?_
  refine lv_aload_n hx hb dX8_isInk_3 rfl (lv_at hl 0 rfl) ?_
  refine va_get (D := (dC, dI)) (ci := 8) (v := .int (nI (k7))) (C := RX8) (T := TX8) (N := 25) hx hb hts hin8 hown hK hP 0 rfl rfl 7 (by decide) hW0 (fun _ h9 => h9) (congrArg (fun z => some (Value.int z)) e7) dX8_isInk_4 ?_
  refine lv_iconst (v := nI (1)) hx hb dX8_isInk_7 (by decide +kernel) ?_
  refine lv_isub hx hb dX8_isInk_8 ?_
  refine tv (y := nI (k7) - nI (1)) rfl ?_
  refine lv_i2l hx hb dX8_isInk_9 rfl ?_
  refine vp_callSi (va_Run.run (va_runS (As := [.long ((x).toInt64), .long (0), .long ((nI (k7) - nI (1)).toInt64)]) (rest := []) ⟨hx, hb, hml, hown, hts⟩ (c8_in l (x) (0) ((nI (k7) - nI (1)).toInt64) (0) ((k7 : Int) - 1) rfl (dec_toInt (by omega))) (va_cwS 3 hts gX8_isInk_X8_in rfl rfl rfl (by decide +kernel) ⟨Nat.le_of_ble_eq_true rfl, Nat.le_of_ble_eq_true rfl⟩) ⟨fun _ _ _ _ q => q, fun U hU hW => ⟨rfl, trivial⟩⟩ rfl rfl hl.1 rfl (lv_room (Nat.le_of_ble_eq_true rfl)) dX8_isInk_10 ⟨Nat.le_of_ble_eq_true rfl, Nat.le_of_ble_eq_true rfl⟩)) (fun r hrc => ?_)
  have hrc : r = b2i ((0) ≤ (x).toInt ∧ (x).toInt ≤ ((k7 : Int) - 1)) := hrc
  subst hrc
  exact W.zret (ty := .boolean) (v := b2i ((0) ≤ (x).toInt ∧ (x).toInt ≤ ((k7 : Int) - 1))) hx hb hr nar_b2i (fun t ht hW => ⟨b2i ((0) ≤ (x).toInt ∧ (x).toInt ≤ ((k7 : Int) - 1)), rfl, (by show b2i ((0) ≤ (x).toInt ∧ (x).toInt ≤ ((k7 : Int) - 1)) = b2i (0 ≤ x.toInt ∧ x.toInt ≤ (k7 : Int) - 1); rfl), ht⟩) (fun _ h => by cases h) dX8_isInk_13

set_option maxHeartbeats 1200000 in
set_option maxRecDepth 100000 in
theorem c8_seesOf (l : Launch) (dC : Nat → ClassId) (dI : Nat → Nat → Nat) (cI : ClassId) (a : Nat) (o : Nat → Nat) (f : Nat → Int32) (g : Nat → Nat → Int32) (h : Int64) (x : Int32) (p : Nat) (hp : p < 4) : Met l yX8_seesOf wsX8_seesOf ({ frames := 1, cells := 0, slots := 0, locals := 25 } : Room) (va_Pc [.ref (a), .int (nI (p)), .int (x)] (fun U => va_P (dC, dI) vwCl (mW cI a o f g h) U.heap ∧ va_K (dC, dI) vwCl [(cI, .int)] U)) (vp_Si (fun r => r = mS g p x)) 0 0 (fun _ => False) := by
  refine Met.ofW (cc := cX8_seesOf) (maxL := 3) (ret := (some .int)) (by decide) rfl ?_
  intro p_ e_ s m args below meth c_0 s₁ B hml hv
  obtain ⟨rfl, hP, hK⟩ := hv
  have hx := B.exec
  have hb := B.bytes
  have hr := B.returns
  have hts := atoms_spec (ws := wsX8_seesOf) B.pre
  have hown : s.vm.findClass RX8 = some m.cls := findClass_of_methodNamed B.named
  have hlocks := B.notSynchronized
  have hP : va_P (dC, dI) vwCl (mW cI a o f g h) s.heap := hP
  have hl := lv_entry ([.ref (a), .int (nI (p)), .int (x)]) (n := 3) (Nat.le_of_ble_eq_true rfl)
  rw [lg_entry_eq]
  generalize (lg_sl ([.ref (a), .int (nI (p)), .int (x)]) ++ List.replicate (3 - (lg_sl ([.ref (a), .int (nI (p)), .int (x)])).length) Slot.unset).toArray = ls at hl ⊢
  have hl : lv_has ls 3 [(0, .ref (a)), (1, .int (nI (p))), (2, .int (x))] := hl
  have hin8 : ∀ w ∈ wsX80, w ∈ wsX8_seesOf := fun _ h => List.mem_cons_of_mem _ (List.mem_append_right _ h)
  have hW0 := hts (.fieldLink RX8 16 "EachEyeModel" "rows" "[I") (by decide +kernel)
  refine lv_aload_n hx hb dX8_seesOf_0 rfl (lv_at hl 0 rfl) ?_
  refine va_get (D := (dC, dI)) (ci := 8) (v := .ref (o 8)) (C := RX8) (T := TX8) (N := 25) hx hb hts hin8 hown hK hP 0 rfl rfl 8 (by decide) hW0 (fun _ h9 => h9) rfl dX8_seesOf_1 ?_
  refine lv_bipush (v := nI (10)) hx hb dX8_seesOf_4 (by decide +kernel) ?_
  refine lv_iload_n hx hb dX8_seesOf_6 rfl (lv_at hl 1 rfl) ?_
  refine lv_imul hx hb dX8_seesOf_7 ?_
  refine tv (pk_mul (10) (p)) ?_
  refine ald hx hb hK hP (f := g 8) (k := 10 * (p)) 3 0 rfl rfl rfl (by omega) (by decide) dX8_seesOf_8 ?_
  refine lv_aload_n hx hb dX8_seesOf_9 rfl (lv_at hl 0 rfl) ?_
  refine va_get (D := (dC, dI)) (ci := 8) (v := .ref (o 8)) (C := RX8) (T := TX8) (N := 25) hx hb hts hin8 hown hK hP 0 rfl rfl 8 (by decide) hW0 (fun _ h9 => h9) rfl dX8_seesOf_10 ?_
  refine lv_bipush (v := nI (10)) hx hb dX8_seesOf_13 (by decide +kernel) ?_
  refine lv_iload_n hx hb dX8_seesOf_15 rfl (lv_at hl 1 rfl) ?_
  refine lv_imul hx hb dX8_seesOf_16 ?_
  refine tv (pk_mul (10) (p)) ?_
  refine lv_iconst (v := nI (1)) hx hb dX8_seesOf_17 (by decide +kernel) ?_
  refine lv_iadd hx hb dX8_seesOf_18 ?_
  refine tv (nI_add (10 * (p)) (1)) ?_
  refine ald hx hb hK hP (f := g 8) (k := 10 * (p) + 1) 3 0 rfl rfl rfl (by omega) (by decide) dX8_seesOf_19 ?_
  refine lv_aload_n hx hb dX8_seesOf_20 rfl (lv_at hl 0 rfl) ?_
  refine va_get (D := (dC, dI)) (ci := 8) (v := .ref (o 8)) (C := RX8) (T := TX8) (N := 25) hx hb hts hin8 hown hK hP 0 rfl rfl 8 (by decide) hW0 (fun _ h9 => h9) rfl dX8_seesOf_21 ?_
  refine lv_bipush (v := nI (10)) hx hb dX8_seesOf_24 (by decide +kernel) ?_
  refine lv_iload_n hx hb dX8_seesOf_26 rfl (lv_at hl 1 rfl) ?_
  refine lv_imul hx hb dX8_seesOf_27 ?_
  refine tv (pk_mul (10) (p)) ?_
  refine lv_iconst (v := nI (2)) hx hb dX8_seesOf_28 (by decide +kernel) ?_
  refine lv_iadd hx hb dX8_seesOf_29 ?_
  refine tv (nI_add (10 * (p)) (2)) ?_
  refine ald hx hb hK hP (f := g 8) (k := 10 * (p) + 2) 3 0 rfl rfl rfl (by omega) (by decide) dX8_seesOf_30 ?_
  refine lv_iload_n hx hb dX8_seesOf_31 rfl (lv_at hl 2 rfl) ?_
  refine vp_callSi (va_Run.run (va_runS (As := [.int (g 8 (10 * (p))), .int (g 8 (10 * (p) + 1)), .int (g 8 (10 * (p) + 2)), .int (x)]) (rest := []) ⟨hx, hb, hml, hown, hts⟩ (c8_seenBy l (g 8 (10 * (p))) (g 8 (10 * (p) + 1)) (g 8 (10 * (p) + 2)) (x)) (va_cwS 4 hts gX8_seesOf_X8_seenBy rfl rfl rfl (by decide +kernel) ⟨Nat.le_of_ble_eq_true rfl, Nat.le_of_ble_eq_true rfl⟩) ⟨fun _ _ _ _ q => q, fun U hU hW => ⟨rfl, trivial⟩⟩ rfl rfl hl.1 rfl (lv_room (Nat.le_of_ble_eq_true rfl)) dX8_seesOf_32 ⟨Nat.le_of_ble_eq_true rfl, Nat.le_of_ble_eq_true rfl⟩)) (fun r hrc => ?_)
  have hrc : r = see (g 8 (10 * (p))) (g 8 (10 * (p) + 1)) (g 8 (10 * (p) + 2)) (x) := hrc
  subst hrc
  exact W.iret (v := see (g 8 (10 * (p))) (g 8 (10 * (p) + 1)) (g 8 (10 * (p) + 2)) (x)) hx hb hr (fun t ht hW => ⟨see (g 8 (10 * (p))) (g 8 (10 * (p) + 1)) (g 8 (10 * (p) + 2)) (x), rfl, (by show see (g 8 (10 * (p))) (g 8 (10 * (p) + 1)) (g 8 (10 * (p) + 2)) (x) = mS g p x; rfl), ht⟩) (fun _ h => by cases h) dX8_seesOf_35

set_option maxHeartbeats 1200000 in
set_option maxRecDepth 100000 in
theorem c8_asTheyAre (l : Launch) (dC : Nat → ClassId) (dI : Nat → Nat → Nat) (cI : ClassId) (a : Nat) (o : Nat → Nat) (f : Nat → Int32) (g : Nat → Nat → Int32) (h : Int64) (p : Nat) (hp : p < 4) : Met l yX8_asTheyAre wsX8_asTheyAre ({ frames := 2, cells := 0, slots := 0, locals := 47 } : Room) (va_Pc [.ref (a), .int (nI (p))] (fun U => va_P (dC, dI) vwCl (mW cI a o f g h) U.heap ∧ va_K (dC, dI) vwCl [(cI, .int)] U)) (vp_Si (fun r => r = mTrue g p)) 0 0 (fun _ => False) := by
  refine Met.ofW (cc := cX8_asTheyAre) (maxL := 4) (ret := (some .int)) (by decide) rfl ?_
  intro p_ e_ s m args below meth c_0 s₁ B hml hv
  obtain ⟨rfl, hP, hK⟩ := hv
  have hx := B.exec
  have hb := B.bytes
  have hr := B.returns
  have hts := atoms_spec (ws := wsX8_asTheyAre) B.pre
  have hown : s.vm.findClass RX8 = some m.cls := findClass_of_methodNamed B.named
  have hlocks := B.notSynchronized
  have hP : va_P (dC, dI) vwCl (mW cI a o f g h) s.heap := hP
  have hl := lv_entry ([.ref (a), .int (nI (p))]) (n := 4) (Nat.le_of_ble_eq_true rfl)
  rw [lg_entry_eq]
  generalize (lg_sl ([.ref (a), .int (nI (p))]) ++ List.replicate (4 - (lg_sl ([.ref (a), .int (nI (p))])).length) Slot.unset).toArray = ls at hl ⊢
  have hl : lv_has ls 4 [(0, .ref (a)), (1, .int (nI (p)))] := hl
  refine lv_iconst (v := nI (0)) hx hb dX8_asTheyAre_0 (by decide +kernel) ?_
  refine lv_istore_n (lv' := [(2, .int (nI (0))), (0, .ref (a)), (1, .int (nI (p)))]) hx hb dX8_asTheyAre_1 rfl hl (by decide) rfl (fun ls hl => ?_)
  refine lv_iconst (v := nI (0)) hx hb dX8_asTheyAre_2 (by decide +kernel) ?_
  refine lv_istore_n (lv' := [(3, .int (nI (0))), (2, .int (nI (0))), (0, .ref (a)), (1, .int (nI (p)))]) hx hb dX8_asTheyAre_3 rfl hl (by decide) rfl (fun ls hl => ?_)
  have e0_2 : (nI (0)) = sm (fun j => if mS g p (nI j) = nI j then 1 else 0) 0 := rfl
  refine lp_ro (fun k : Nat => 8 - k) (fun k : Nat => k ≤ 8) (fun k : Nat => [(0, .ref (a)), (1, .int (nI (p))), (2, .int (sm (fun j => if mS g p (nI j) = nI j then 1 else 0) k)), (3, .int (nI (k)))]) (0) (by omega) (by show lv_has ls 4 [(0, .ref (a)), (1, .int (nI (p))), (2, .int (sm (fun j => if mS g p (nI j) = nI j then 1 else 0) 0)), (3, .int (nI (0)))]; rw [← e0_2]; exact lv_sub hl [2, 3, 1, 0] rfl) (fun k hI ih_4 ls hl => ?_)
  have hI : k ≤ 8 := hI
  have hl : lv_has ls 4 [(0, .ref (a)), (1, .int (nI (p))), (2, .int (sm (fun j => if mS g p (nI j) = nI j then 1 else 0) k)), (3, .int (nI (k)))] := hl
  refine lv_iload_n hx hb dX8_asTheyAre_4 rfl (lv_at hl 3 rfl) ?_
  refine lv_bipush (v := nI (8)) hx hb dX8_asTheyAre_5 (by decide +kernel) ?_
  refine lv_icmp_ge (tgt := 34) hx hb dX8_asTheyAre_7 (by decide) (fun c_1 => ?_) (fun c_1 => ?_)
  · skip
    rw [nI_leI (a := 8) (b := k) (by omega) (by omega)] at c_1
    have hE : 8 = k := by omega
    subst hE
    refine lv_iload_n hx hb dX8_asTheyAre_34 rfl (lv_at hl 2 rfl) ?_
    exact W.iret (v := sm (fun j => if mS g p (nI j) = nI j then 1 else 0) 8) hx hb hr (fun t ht hW => ⟨sm (fun j => if mS g p (nI j) = nI j then 1 else 0) 8, rfl, (by show sm (fun j => if mS g p (nI j) = nI j then 1 else 0) 8 = mTrue g p; rfl), ht⟩) (fun _ h => by cases h) dX8_asTheyAre_35
  · skip
    rw [nI_leI (a := 8) (b := k) (by omega) (by omega)] at c_1
    refine lv_iload_n hx hb dX8_asTheyAre_10 rfl (lv_at hl 2 rfl) ?_
    refine lv_aload_n hx hb dX8_asTheyAre_11 rfl (lv_at hl 0 rfl) ?_
    refine lv_iload_n hx hb dX8_asTheyAre_12 rfl (lv_at hl 1 rfl) ?_
    refine lv_iload_n hx hb dX8_asTheyAre_13 rfl (lv_at hl 3 rfl) ?_
    refine vp_callSi (va_Run.run (va_runV (As := [.int (nI (p)), .int (nI (k))]) (rest := [.int (sm (fun j => if mS g p (nI j) = nI j then 1 else 0) k)]) ⟨hx, hb, hml, hown, hts⟩ (c8_seesOf l dC dI cI a o (f) (g) (h)  (nI (k)) (p) (by omega)) (cwV 2 hts gX8_asTheyAre_X8_seesOf rfl rfl rfl (by decide +kernel) ⟨Nat.le_of_ble_eq_true rfl, Nat.le_of_ble_eq_true rfl⟩) ⟨fun a U g mk q => ⟨q.1, q.2.1, va_K.moved (u := U) (U := U.calling g mk a) (Vm.Alike.refl U.vm) q.2.2⟩, va_recv hK hP (ci := 8) (q0 := 0) rfl rfl, fun U hU hW => ⟨rfl, by rw [hU]; exact hP, va_K.moved hW.alike hK⟩⟩ rfl rfl hl.1 rfl (lv_room (Nat.le_of_ble_eq_true rfl)) dX8_asTheyAre_14 ⟨Nat.le_of_ble_eq_true rfl, Nat.le_of_ble_eq_true rfl⟩)) (fun r hrc => ?_)
    have hrc : r = mS (g) (p) (nI (k)) := hrc
    subst hrc
    refine lv_iload_n hx hb dX8_asTheyAre_17 rfl (lv_at hl 3 rfl) ?_
    refine lv_icmp_ne (tgt := 25) hx hb dX8_asTheyAre_18 (by decide) (fun c_2 => ?_) (fun c_2 => ?_)
    · skip
      refine lv_iconst (v := nI (0)) hx hb dX8_asTheyAre_25 (by decide +kernel) ?_
      refine lv_iadd hx hb dX8_asTheyAre_26 ?_
      refine lv_istore_n (lv' := [(2, .int ((sm (fun j => if mS g p (nI j) = nI j then 1 else 0) k) + (nI (0)))), (0, .ref (a)), (1, .int (nI (p))), (3, .int (nI (k)))]) hx hb dX8_asTheyAre_27 rfl hl (by decide) rfl (fun ls hl => ?_)
      refine lv_iinc (v := nI (k + 1)) (lv' := [(3, .int (nI (k + 1))), (2, .int ((sm (fun j => if mS g p (nI j) = nI j then 1 else 0) k) + (nI (0)))), (0, .ref (a)), (1, .int (nI (p)))]) hx hb dX8_asTheyAre_28 hl (k := 3) rfl (nI_1 _) (by decide) rfl (fun ls hl => ?_)
      refine lv_goto (tgt := 4) hx hb dX8_asTheyAre_31 (by decide) ?_
      have e1_2 : ((sm (fun j => if mS g p (nI j) = nI j then 1 else 0) k) + (nI (0))) = sm (fun j => if mS g p (nI j) = nI j then 1 else 0) (k + 1) := by first | rfl | (simp only [sm, alB, if_neg c_1, if_neg c_2]; done) | (simp only [sm, alB, if_neg c_1, if_neg c_2]; rfl) | (simp [sm, alB, if_neg c_1, if_neg c_2]; done)
      exact ih_4 (k + 1) ls (by show _ < _; omega) (by show _; omega) (by show lv_has ls 4 [(0, .ref (a)), (1, .int (nI (p))), (2, .int (sm (fun j => if mS g p (nI j) = nI j then 1 else 0) (k + 1))), (3, .int (nI ((k + 1))))]; rw [← e1_2]; exact lv_sub hl [2, 3, 1, 0] rfl)
    · skip
      refine lv_iconst (v := nI (1)) hx hb dX8_asTheyAre_21 (by decide +kernel) ?_
      refine lv_goto (tgt := 26) hx hb dX8_asTheyAre_22 (by decide) ?_
      refine lv_iadd hx hb dX8_asTheyAre_26 ?_
      refine lv_istore_n (lv' := [(2, .int ((sm (fun j => if mS g p (nI j) = nI j then 1 else 0) k) + (nI (1)))), (0, .ref (a)), (1, .int (nI (p))), (3, .int (nI (k)))]) hx hb dX8_asTheyAre_27 rfl hl (by decide) rfl (fun ls hl => ?_)
      refine lv_iinc (v := nI (k + 1)) (lv' := [(3, .int (nI (k + 1))), (2, .int ((sm (fun j => if mS g p (nI j) = nI j then 1 else 0) k) + (nI (1)))), (0, .ref (a)), (1, .int (nI (p)))]) hx hb dX8_asTheyAre_28 hl (k := 3) rfl (nI_1 _) (by decide) rfl (fun ls hl => ?_)
      refine lv_goto (tgt := 4) hx hb dX8_asTheyAre_31 (by decide) ?_
      have e1_2 : ((sm (fun j => if mS g p (nI j) = nI j then 1 else 0) k) + (nI (1))) = sm (fun j => if mS g p (nI j) = nI j then 1 else 0) (k + 1) := by first | rfl | (simp only [sm, alB, if_neg c_1, if_pos c_2]; done) | (simp only [sm, alB, if_neg c_1, if_pos c_2]; rfl) | (simp [sm, alB, if_neg c_1, if_pos c_2]; done)
      exact ih_4 (k + 1) ls (by show _ < _; omega) (by show _; omega) (by show lv_has ls 4 [(0, .ref (a)), (1, .int (nI (p))), (2, .int (sm (fun j => if mS g p (nI j) = nI j then 1 else 0) (k + 1))), (3, .int (nI ((k + 1))))]; rw [← e1_2]; exact lv_sub hl [2, 3, 1, 0] rfl)

set_option maxHeartbeats 1200000 in
set_option maxRecDepth 100000 in
theorem c8_tell (l : Launch) (dC : Nat → ClassId) (dI : Nat → Nat → Nat) (cI : ClassId) (a : Nat) (o : Nat → Nat) (f : Nat → Int32) (g : Nat → Nat → Int32) (h : Int64) (x : Int32) (p : Nat) (hp : p < 4) : Met l yX8_tell wsX8_tell ({ frames := 3, cells := 0, slots := 0, locals := 70 } : Room) (va_Pc [.ref (a), .int (nI (p)), .int (x)] (fun U => va_P (dC, dI) vwCl (mW cI a o f g h) U.heap ∧ va_K (dC, dI) vwCl [(cI, .int)] U)) (vp_Si (fun r => r = mTell g p x)) 0 0 (fun _ => False) := by
  refine Met.ofW (cc := cX8_tell) (maxL := 3) (ret := (some .int)) (by decide) rfl ?_
  intro p_ e_ s m args below meth c_0 s₁ B hml hv
  obtain ⟨rfl, hP, hK⟩ := hv
  have hx := B.exec
  have hb := B.bytes
  have hr := B.returns
  have hts := atoms_spec (ws := wsX8_tell) B.pre
  have hown : s.vm.findClass RX8 = some m.cls := findClass_of_methodNamed B.named
  have hlocks := B.notSynchronized
  have hP : va_P (dC, dI) vwCl (mW cI a o f g h) s.heap := hP
  have hl := lv_entry ([.ref (a), .int (nI (p)), .int (x)]) (n := 3) (Nat.le_of_ble_eq_true rfl)
  rw [lg_entry_eq]
  generalize (lg_sl ([.ref (a), .int (nI (p)), .int (x)]) ++ List.replicate (3 - (lg_sl ([.ref (a), .int (nI (p)), .int (x)])).length) Slot.unset).toArray = ls at hl ⊢
  have hl : lv_has ls 3 [(0, .ref (a)), (1, .int (nI (p))), (2, .int (x))] := hl
  have hin8 : ∀ w ∈ wsX80, w ∈ wsX8_tell := fun _ h => List.mem_cons_of_mem _ (List.mem_append_right _ h)
  have hW0 := hts (.constantLong RX8 110 (2)) (by decide +kernel)
  have hW1 := hts (.constantLong RX8 112 (10)) (by decide +kernel)
  have hW2 := hts (.constantLong RX8 114 (15)) (by decide +kernel)
  have hW3 := hts (.constantLong RX8 116 (20)) (by decide +kernel)
  have hW4 := hts (.constantLong RX8 118 (25)) (by decide +kernel)
  have hW5 := hts (.fieldLink RX8 16 "EachEyeModel" "rows" "[I") (by decide +kernel)
  have hW6 := hts (.fieldLink RX8 13 "EachEyeModel" "hues" "[I") (by decide +kernel)
  refine lv_iload_n hx hb dX8_tell_0 rfl (lv_at hl 2 rfl) ?_
  refine lv_i2l hx hb dX8_tell_1 rfl ?_
  refine lv_lconst (v := 0) hx hb dX8_tell_2 (by decide +kernel) ?_
  refine lv_ldc2 (v := 2) hx hb hown hW0 dX8_tell_3 ?_
  refine vp_callSi (va_Run.run (va_runS (As := [.long ((x).toInt64), .long (0), .long (2)]) (rest := []) ⟨hx, hb, hml, hown, hts⟩ (c8_in l (x) (0) (2) (0) (2) rfl rfl) (va_cwS 3 hts gX8_tell_X8_in rfl rfl rfl (by decide +kernel) ⟨Nat.le_of_ble_eq_true rfl, Nat.le_of_ble_eq_true rfl⟩) ⟨fun _ _ _ _ q => q, fun U hU hW => ⟨rfl, trivial⟩⟩ rfl rfl hl.1 rfl (lv_room (Nat.le_of_ble_eq_true rfl)) dX8_tell_6 ⟨Nat.le_of_ble_eq_true rfl, Nat.le_of_ble_eq_true rfl⟩)) (fun r hrc => ?_)
  have hrc : r = b2i ((0) ≤ (x).toInt ∧ (x).toInt ≤ (2)) := hrc
  subst hrc
  refine lv_if_eq (tgt := 24) hx hb dX8_tell_9 (by decide) (fun c_1 => ?_) (fun c_1 => ?_)
  · skip
    have c_1 := b2i_0 c_1
    refine lv_iload_n hx hb dX8_tell_24 rfl (lv_at hl 2 rfl) ?_
    refine lv_i2l hx hb dX8_tell_25 rfl ?_
    refine lv_ldc2 (v := 10) hx hb hown hW1 dX8_tell_26 ?_
    refine lv_ldc2 (v := 15) hx hb hown hW2 dX8_tell_29 ?_
    refine vp_callSi (va_Run.run (va_runS (As := [.long ((x).toInt64), .long (10), .long (15)]) (rest := []) ⟨hx, hb, hml, hown, hts⟩ (c8_in l (x) (10) (15) (10) (15) rfl rfl) (va_cwS 3 hts gX8_tell_X8_in rfl rfl rfl (by decide +kernel) ⟨Nat.le_of_ble_eq_true rfl, Nat.le_of_ble_eq_true rfl⟩) ⟨fun _ _ _ _ q => q, fun U hU hW => ⟨rfl, trivial⟩⟩ rfl rfl hl.1 rfl (lv_room (Nat.le_of_ble_eq_true rfl)) dX8_tell_32 ⟨Nat.le_of_ble_eq_true rfl, Nat.le_of_ble_eq_true rfl⟩)) (fun r hrc => ?_)
    have hrc : r = b2i ((10) ≤ (x).toInt ∧ (x).toInt ≤ (15)) := hrc
    subst hrc
    refine lv_if_eq (tgt := 53) hx hb dX8_tell_35 (by decide) (fun c_2 => ?_) (fun c_2 => ?_)
    · skip
      have c_2 := b2i_0 c_2
      refine lv_iload_n hx hb dX8_tell_53 rfl (lv_at hl 2 rfl) ?_
      refine lv_i2l hx hb dX8_tell_54 rfl ?_
      refine lv_ldc2 (v := 20) hx hb hown hW3 dX8_tell_55 ?_
      refine lv_ldc2 (v := 25) hx hb hown hW4 dX8_tell_58 ?_
      refine vp_callSi (va_Run.run (va_runS (As := [.long ((x).toInt64), .long (20), .long (25)]) (rest := []) ⟨hx, hb, hml, hown, hts⟩ (c8_in l (x) (20) (25) (20) (25) rfl rfl) (va_cwS 3 hts gX8_tell_X8_in rfl rfl rfl (by decide +kernel) ⟨Nat.le_of_ble_eq_true rfl, Nat.le_of_ble_eq_true rfl⟩) ⟨fun _ _ _ _ q => q, fun U hU hW => ⟨rfl, trivial⟩⟩ rfl rfl hl.1 rfl (lv_room (Nat.le_of_ble_eq_true rfl)) dX8_tell_61 ⟨Nat.le_of_ble_eq_true rfl, Nat.le_of_ble_eq_true rfl⟩)) (fun r hrc => ?_)
      have hrc : r = b2i ((20) ≤ (x).toInt ∧ (x).toInt ≤ (25)) := hrc
      subst hrc
      refine lv_if_eq (tgt := 101) hx hb dX8_tell_64 (by decide) (fun c_3 => ?_) (fun c_3 => ?_)
      · skip
        have c_3 := b2i_0 c_3
        refine lv_iload_n hx hb dX8_tell_101 rfl (lv_at hl 2 rfl) ?_
        refine lv_iconst (v := nI (3)) hx hb dX8_tell_102 (by decide +kernel) ?_
        refine lv_icmp_ne (tgt := 114) hx hb dX8_tell_103 (by decide) (fun c_4 => ?_) (fun c_4 => ?_)
        · skip
          refine lv_bipush (v := (-102)) hx hb dX8_tell_114 (by decide +kernel) ?_
          exact W.iret (v := (-102)) hx hb hr (fun t ht hW => ⟨(-102), rfl, (by show (-102) = mTell g p x; first | (simp only [mTell, if_neg c_1, if_neg c_2, if_neg c_3, if_neg c_4]; done) | (simp only [mTell, if_neg c_1, if_neg c_2, if_neg c_3, if_neg c_4]; rfl) | rfl | (simp [mTell, if_neg c_1, if_neg c_2, if_neg c_3, if_neg c_4]; done)), ht⟩) (fun _ h => by cases h) dX8_tell_116
        · skip
          refine lv_aload_n hx hb dX8_tell_106 rfl (lv_at hl 0 rfl) ?_
          refine lv_iload_n hx hb dX8_tell_107 rfl (lv_at hl 1 rfl) ?_
          refine vp_callSi (va_Run.run (va_runV (As := [.int (nI (p))]) (rest := []) ⟨hx, hb, hml, hown, hts⟩ (c8_asTheyAre l dC dI cI a o (f) (g) (h)   (p) (by omega)) (cwV 1 hts gX8_tell_X8_asTheyAre rfl rfl rfl (by decide +kernel) ⟨Nat.le_of_ble_eq_true rfl, Nat.le_of_ble_eq_true rfl⟩) ⟨fun a U g mk q => ⟨q.1, q.2.1, va_K.moved (u := U) (U := U.calling g mk a) (Vm.Alike.refl U.vm) q.2.2⟩, va_recv hK hP (ci := 8) (q0 := 0) rfl rfl, fun U hU hW => ⟨rfl, by rw [hU]; exact hP, va_K.moved hW.alike hK⟩⟩ rfl rfl hl.1 rfl (lv_room (Nat.le_of_ble_eq_true rfl)) dX8_tell_108 ⟨Nat.le_of_ble_eq_true rfl, Nat.le_of_ble_eq_true rfl⟩)) (fun r hrc => ?_)
          have hrc : r = mTrue (g) (p) := hrc
          subst hrc
          refine lv_goto (tgt := 116) hx hb dX8_tell_111 (by decide) ?_
          exact W.iret (v := mTrue (g) (p)) hx hb hr (fun t ht hW => ⟨mTrue (g) (p), rfl, (by show mTrue (g) (p) = mTell g p x; first | (simp only [mTell, if_neg c_1, if_neg c_2, if_neg c_3, if_pos c_4]; done) | (simp only [mTell, if_neg c_1, if_neg c_2, if_neg c_3, if_pos c_4]; rfl) | rfl | (simp [mTell, if_neg c_1, if_neg c_2, if_neg c_3, if_pos c_4]; done)), ht⟩) (fun _ h => by cases h) dX8_tell_116
      · skip
        have c_3 := b2i_1 c_3
        refine lv_aload_n hx hb dX8_tell_67 rfl (lv_at hl 0 rfl) ?_
        refine va_get (D := (dC, dI)) (ci := 8) (v := .ref (o 8)) (C := RX8) (T := TX8) (N := 25) hx hb hts hin8 hown hK hP 0 rfl rfl 8 (by decide) hW5 (fun _ h9 => h9) rfl dX8_tell_68 ?_
        refine lv_bipush (v := nI (10)) hx hb dX8_tell_71 (by decide +kernel) ?_
        refine lv_iload_n hx hb dX8_tell_73 rfl (lv_at hl 1 rfl) ?_
        refine lv_imul hx hb dX8_tell_74 ?_
        refine tv (pk_mul (10) (p)) ?_
        refine lv_iconst (v := nI (3)) hx hb dX8_tell_75 (by decide +kernel) ?_
        refine lv_iadd hx hb dX8_tell_76 ?_
        refine tv (nI_add (10 * (p)) (3)) ?_
        refine ald hx hb hK hP (f := g 8) (k := 10 * (p) + 3) 3 0 rfl rfl rfl (by omega) (by decide) dX8_tell_77 ?_
        refine lv_iconst (v := nI (1)) hx hb dX8_tell_78 (by decide +kernel) ?_
        refine lv_icmp_ne (tgt := 99) hx hb dX8_tell_79 (by decide) (fun c_5 => ?_) (fun c_5 => ?_)
        · skip
          refine lv_iconst (v := (-1)) hx hb dX8_tell_99 (by decide +kernel) ?_
          exact W.iret (v := (-1)) hx hb hr (fun t ht hW => ⟨(-1), rfl, (by show (-1) = mTell g p x; first | (simp only [mTell, if_neg c_1, if_neg c_2, if_pos c_3, if_neg c_5]; done) | (simp only [mTell, if_neg c_1, if_neg c_2, if_pos c_3, if_neg c_5]; rfl) | rfl | (simp [mTell, if_neg c_1, if_neg c_2, if_pos c_3, if_neg c_5]; done)), ht⟩) (fun _ h => by cases h) dX8_tell_100
        · skip
          refine lv_aload_n hx hb dX8_tell_82 rfl (lv_at hl 0 rfl) ?_
          refine va_get (D := (dC, dI)) (ci := 8) (v := .ref (o 8)) (C := RX8) (T := TX8) (N := 25) hx hb hts hin8 hown hK hP 0 rfl rfl 8 (by decide) hW5 (fun _ h9 => h9) rfl dX8_tell_83 ?_
          refine lv_bipush (v := nI (10)) hx hb dX8_tell_86 (by decide +kernel) ?_
          refine lv_iload_n hx hb dX8_tell_88 rfl (lv_at hl 1 rfl) ?_
          refine lv_imul hx hb dX8_tell_89 ?_
          refine tv (pk_mul (10) (p)) ?_
          refine lv_iload_n hx hb dX8_tell_90 rfl (lv_at hl 2 rfl) ?_
          refine tv (ix_int (by omega)) ?_
          refine lv_iadd hx hb dX8_tell_91 ?_
          refine tv (nI_add (10 * (p)) (x.toInt.toNat)) ?_
          refine lv_bipush (v := nI (16)) hx hb dX8_tell_92 (by decide +kernel) ?_
          refine lv_isub hx hb dX8_tell_94 ?_
          refine tv (pk_sub (a := 10 * (p) + x.toInt.toNat) (b := 16) (by omega)) ?_
          refine ald hx hb hK hP (f := g 8) (k := (10 * (p) + x.toInt.toNat) - 16) 3 0 rfl rfl rfl (by omega) (by decide) dX8_tell_95 ?_
          refine lv_goto (tgt := 100) hx hb dX8_tell_96 (by decide) ?_
          exact W.iret (v := g 8 ((10 * (p) + x.toInt.toNat) - 16)) hx hb hr (fun t ht hW => ⟨g 8 ((10 * (p) + x.toInt.toNat) - 16), rfl, (by show g 8 ((10 * (p) + x.toInt.toNat) - 16) = mTell g p x; first | (simp only [mTell, if_neg c_1, if_neg c_2, if_pos c_3, if_pos c_5]; done) | (simp only [mTell, if_neg c_1, if_neg c_2, if_pos c_3, if_pos c_5]; rfl) | rfl | (simp [mTell, if_neg c_1, if_neg c_2, if_pos c_3, if_pos c_5]; done)), ht⟩) (fun _ h => by cases h) dX8_tell_100
    · skip
      have c_2 := b2i_1 c_2
      refine lv_aload_n hx hb dX8_tell_38 rfl (lv_at hl 0 rfl) ?_
      refine lv_iload_n hx hb dX8_tell_39 rfl (lv_at hl 1 rfl) ?_
      refine lv_aload_n hx hb dX8_tell_40 rfl (lv_at hl 0 rfl) ?_
      refine va_get (D := (dC, dI)) (ci := 8) (v := .ref (o 5)) (C := RX8) (T := TX8) (N := 25) hx hb hts hin8 hown hK hP 0 rfl rfl 5 (by decide) hW6 (fun _ h9 => h9) rfl dX8_tell_41 ?_
      refine lv_iload_n hx hb dX8_tell_44 rfl (lv_at hl 2 rfl) ?_
      refine tv (ix_int (by omega)) ?_
      refine lv_bipush (v := nI (10)) hx hb dX8_tell_45 (by decide +kernel) ?_
      refine lv_isub hx hb dX8_tell_47 ?_
      refine tv (pk_sub (a := x.toInt.toNat) (b := 10) (by omega)) ?_
      refine ald hx hb hK hP (f := g 5) (k := (x.toInt.toNat) - 10) 2 0 rfl rfl rfl (by omega) (by decide) dX8_tell_48 ?_
      refine vp_callSi (va_Run.run (va_runV (As := [.int (nI (p)), .int (g 5 ((x.toInt.toNat) - 10))]) (rest := []) ⟨hx, hb, hml, hown, hts⟩ (c8_seesOf l dC dI cI a o (f) (g) (h)  (g 5 ((x.toInt.toNat) - 10)) (p) (by omega)) (cwV 2 hts gX8_tell_X8_seesOf rfl rfl rfl (by decide +kernel) ⟨Nat.le_of_ble_eq_true rfl, Nat.le_of_ble_eq_true rfl⟩) ⟨fun a U g mk q => ⟨q.1, q.2.1, va_K.moved (u := U) (U := U.calling g mk a) (Vm.Alike.refl U.vm) q.2.2⟩, va_recv hK hP (ci := 8) (q0 := 0) rfl rfl, fun U hU hW => ⟨rfl, by rw [hU]; exact hP, va_K.moved hW.alike hK⟩⟩ rfl rfl hl.1 rfl (lv_room (Nat.le_of_ble_eq_true rfl)) dX8_tell_49 ⟨Nat.le_of_ble_eq_true rfl, Nat.le_of_ble_eq_true rfl⟩)) (fun r hrc => ?_)
      have hrc : r = mS (g) (p) (g 5 ((x.toInt.toNat) - 10)) := hrc
      subst hrc
      exact W.iret (v := mS (g) (p) (g 5 ((x.toInt.toNat) - 10))) hx hb hr (fun t ht hW => ⟨mS (g) (p) (g 5 ((x.toInt.toNat) - 10)), rfl, (by show mS (g) (p) (g 5 ((x.toInt.toNat) - 10)) = mTell g p x; first | (simp only [mTell, if_neg c_1, if_pos c_2]; done) | (simp only [mTell, if_neg c_1, if_pos c_2]; rfl) | rfl | (simp [mTell, if_neg c_1, if_pos c_2]; done)), ht⟩) (fun _ h => by cases h) dX8_tell_52
  · skip
    have c_1 := b2i_1 c_1
    refine lv_aload_n hx hb dX8_tell_12 rfl (lv_at hl 0 rfl) ?_
    refine va_get (D := (dC, dI)) (ci := 8) (v := .ref (o 8)) (C := RX8) (T := TX8) (N := 25) hx hb hts hin8 hown hK hP 0 rfl rfl 8 (by decide) hW5 (fun _ h9 => h9) rfl dX8_tell_13 ?_
    refine lv_bipush (v := nI (10)) hx hb dX8_tell_16 (by decide +kernel) ?_
    refine lv_iload_n hx hb dX8_tell_18 rfl (lv_at hl 1 rfl) ?_
    refine lv_imul hx hb dX8_tell_19 ?_
    refine tv (pk_mul (10) (p)) ?_
    refine lv_iload_n hx hb dX8_tell_20 rfl (lv_at hl 2 rfl) ?_
    refine tv (ix_int (by omega)) ?_
    refine lv_iadd hx hb dX8_tell_21 ?_
    refine tv (nI_add (10 * (p)) (x.toInt.toNat)) ?_
    refine ald hx hb hK hP (f := g 8) (k := 10 * (p) + x.toInt.toNat) 3 0 rfl rfl rfl (by omega) (by decide) dX8_tell_22 ?_
    exact W.iret (v := g 8 (10 * (p) + x.toInt.toNat)) hx hb hr (fun t ht hW => ⟨g 8 (10 * (p) + x.toInt.toNat), rfl, (by show g 8 (10 * (p) + x.toInt.toNat) = mTell g p x; first | (simp only [mTell, if_pos c_1]; done) | (simp only [mTell, if_pos c_1]; rfl) | rfl | (simp [mTell, if_pos c_1]; done)), ht⟩) (fun _ h => by cases h) dX8_tell_23

set_option maxHeartbeats 1200000 in
set_option maxRecDepth 100000 in
theorem c8_about (l : Launch) (dC : Nat → ClassId) (dI : Nat → Nat → Nat) (cI : ClassId) (a : Nat) (o : Nat → Nat) (f : Nat → Int32) (g : Nat → Nat → Int32) (h : Int64) {k6 : Nat} (e6 : f 6 = nI k6) (b6 : k6 ≤ 4) (q : Int32) (x : Int32) : Met l yX8_about wsX8_about ({ frames := 4, cells := 0, slots := 0, locals := 92 } : Room) (va_Pc [.ref (a), .int (q), .int (x)] (fun U => va_P (dC, dI) vwCl (mW cI a o f g h) U.heap ∧ va_K (dC, dI) vwCl [(cI, .int)] U)) (vp_Si (fun r => r = mAbout g k6 q x)) 0 0 (fun _ => False) := by
  refine Met.ofW (cc := cX8_about) (maxL := 3) (ret := (some .int)) (by decide) rfl ?_
  intro p_ e_ s m args below meth c_0 s₁ B hml hv
  obtain ⟨rfl, hP, hK⟩ := hv
  have hx := B.exec
  have hb := B.bytes
  have hr := B.returns
  have hts := atoms_spec (ws := wsX8_about) B.pre
  have hown : s.vm.findClass RX8 = some m.cls := findClass_of_methodNamed B.named
  have hlocks := B.notSynchronized
  have hP : va_P (dC, dI) vwCl (mW cI a o f g h) s.heap := hP
  have hl := lv_entry ([.ref (a), .int (q), .int (x)]) (n := 3) (Nat.le_of_ble_eq_true rfl)
  rw [lg_entry_eq]
  generalize (lg_sl ([.ref (a), .int (q), .int (x)]) ++ List.replicate (3 - (lg_sl ([.ref (a), .int (q), .int (x)])).length) Slot.unset).toArray = ls at hl ⊢
  have hl : lv_has ls 3 [(0, .ref (a)), (1, .int (q)), (2, .int (x))] := hl
  refine lv_aload_n hx hb dX8_about_0 rfl (lv_at hl 0 rfl) ?_
  refine lv_iload_n hx hb dX8_about_1 rfl (lv_at hl 1 rfl) ?_
  refine vp_callSi (va_Run.run (va_runV (As := [.int (q)]) (rest := []) ⟨hx, hb, hml, hown, hts⟩ (c8_isPerson l dC dI cI a o (f) (g) (h) e6 (by omega) (q) ) (cwV 1 hts gX8_about_X8_isPerson rfl rfl rfl (by decide +kernel) ⟨Nat.le_of_ble_eq_true rfl, Nat.le_of_ble_eq_true rfl⟩) ⟨fun a U g mk q => ⟨q.1, q.2.1, va_K.moved (u := U) (U := U.calling g mk a) (Vm.Alike.refl U.vm) q.2.2⟩, va_recv hK hP (ci := 8) (q0 := 0) rfl rfl, fun U hU hW => ⟨rfl, by rw [hU]; exact hP, va_K.moved hW.alike hK⟩⟩ rfl rfl hl.1 rfl (lv_room (Nat.le_of_ble_eq_true rfl)) dX8_about_2 ⟨Nat.le_of_ble_eq_true rfl, Nat.le_of_ble_eq_true rfl⟩)) (fun r hrc => ?_)
  have hrc : r = b2i (0 ≤ (q).toInt ∧ (q).toInt ≤ (k6 : Int) - 1) := hrc
  subst hrc
  refine lv_if_eq (tgt := 17) hx hb dX8_about_5 (by decide) (fun c_1 => ?_) (fun c_1 => ?_)
  · skip
    have c_1 := b2i_0 c_1
    refine lv_bipush (v := (-101)) hx hb dX8_about_17 (by decide +kernel) ?_
    exact W.iret (v := (-101)) hx hb hr (fun t ht hW => ⟨(-101), rfl, (by show (-101) = mAbout g k6 q x; first | (simp only [mAbout, if_neg c_1]; done) | (simp only [mAbout, if_neg c_1]; rfl) | rfl | (simp [mAbout, if_neg c_1]; done)), ht⟩) (fun _ h => by cases h) dX8_about_19
  · skip
    have c_1 := b2i_1 c_1
    refine lv_aload_n hx hb dX8_about_8 rfl (lv_at hl 0 rfl) ?_
    refine lv_iload_n hx hb dX8_about_9 rfl (lv_at hl 1 rfl) ?_
    refine tv (ix_int (by omega)) ?_
    refine lv_iload_n hx hb dX8_about_10 rfl (lv_at hl 2 rfl) ?_
    refine vp_callSi (va_Run.run (va_runV (As := [.int (nI (q.toInt.toNat)), .int (x)]) (rest := []) ⟨hx, hb, hml, hown, hts⟩ (c8_tell l dC dI cI a o (f) (g) (h)  (x) (q.toInt.toNat) (by omega)) (cwV 2 hts gX8_about_X8_tell rfl rfl rfl (by decide +kernel) ⟨Nat.le_of_ble_eq_true rfl, Nat.le_of_ble_eq_true rfl⟩) ⟨fun a U g mk q => ⟨q.1, q.2.1, va_K.moved (u := U) (U := U.calling g mk a) (Vm.Alike.refl U.vm) q.2.2⟩, va_recv hK hP (ci := 8) (q0 := 0) rfl rfl, fun U hU hW => ⟨rfl, by rw [hU]; exact hP, va_K.moved hW.alike hK⟩⟩ rfl rfl hl.1 rfl (lv_room (Nat.le_of_ble_eq_true rfl)) dX8_about_11 ⟨Nat.le_of_ble_eq_true rfl, Nat.le_of_ble_eq_true rfl⟩)) (fun r hrc => ?_)
    have hrc : r = mTell (g) (q.toInt.toNat) (x) := hrc
    subst hrc
    refine lv_goto (tgt := 19) hx hb dX8_about_14 (by decide) ?_
    exact W.iret (v := mTell (g) (q.toInt.toNat) (x)) hx hb hr (fun t ht hW => ⟨mTell (g) (q.toInt.toNat) (x), rfl, (by show mTell (g) (q.toInt.toNat) (x) = mAbout g k6 q x; first | (simp only [mAbout, if_pos c_1]; done) | (simp only [mAbout, if_pos c_1]; rfl) | rfl | (simp [mAbout, if_pos c_1]; done)), ht⟩) (fun _ h => by cases h) dX8_about_19

set_option maxHeartbeats 1200000 in
set_option maxRecDepth 100000 in
theorem c8_as (l : Launch) (dC : Nat → ClassId) (dI : Nat → Nat → Nat) (cI : ClassId) (a : Nat) (o : Nat → Nat) (f : Nat → Int32) (g : Nat → Nat → Int32) (h : Int64) {k6 : Nat} (e6 : f 6 = nI k6) (b6 : k6 ≤ 4) (q : Int32) (x : Int32) : Met l yX8_as wsX8_as ({ frames := 2, cells := 0, slots := 0, locals := 46 } : Room) (va_Pc [.ref (a), .int (q), .int (x)] (fun U => va_P (dC, dI) vwCl (mW cI a o f g h) U.heap ∧ va_K (dC, dI) vwCl [(cI, .int)] U)) (vp_Si (fun r => r = mAs g k6 q x)) 0 0 (fun _ => False) := by
  refine Met.ofW (cc := cX8_as) (maxL := 5) (ret := (some .int)) (by decide) rfl ?_
  intro p_ e_ s m args below meth c_0 s₁ B hml hv
  obtain ⟨rfl, hP, hK⟩ := hv
  have hx := B.exec
  have hb := B.bytes
  have hr := B.returns
  have hts := atoms_spec (ws := wsX8_as) B.pre
  have hown : s.vm.findClass RX8 = some m.cls := findClass_of_methodNamed B.named
  have hlocks := B.notSynchronized
  have hP : va_P (dC, dI) vwCl (mW cI a o f g h) s.heap := hP
  have hl := lv_entry ([.ref (a), .int (q), .int (x)]) (n := 5) (Nat.le_of_ble_eq_true rfl)
  rw [lg_entry_eq]
  generalize (lg_sl ([.ref (a), .int (q), .int (x)]) ++ List.replicate (5 - (lg_sl ([.ref (a), .int (q), .int (x)])).length) Slot.unset).toArray = ls at hl ⊢
  have hl : lv_has ls 5 [(0, .ref (a)), (1, .int (q)), (2, .int (x))] := hl
  have hin8 : ∀ w ∈ wsX80, w ∈ wsX8_as := fun _ h => List.mem_cons_of_mem _ (List.mem_append_right _ h)
  have hW0 := hts (.constantLong RX8 101 (4)) (by decide +kernel)
  have hW1 := hts (.fieldLink RX8 16 "EachEyeModel" "rows" "[I") (by decide +kernel)
  refine lv_aload_n hx hb dX8_as_0 rfl (lv_at hl 0 rfl) ?_
  refine lv_iload_n hx hb dX8_as_1 rfl (lv_at hl 1 rfl) ?_
  refine vp_callSi (va_Run.run (va_runV (As := [.int (q)]) (rest := []) ⟨hx, hb, hml, hown, hts⟩ (c8_isPerson l dC dI cI a o (f) (g) (h) e6 (by omega) (q) ) (cwV 1 hts gX8_as_X8_isPerson rfl rfl rfl (by decide +kernel) ⟨Nat.le_of_ble_eq_true rfl, Nat.le_of_ble_eq_true rfl⟩) ⟨fun a U g mk q => ⟨q.1, q.2.1, va_K.moved (u := U) (U := U.calling g mk a) (Vm.Alike.refl U.vm) q.2.2⟩, va_recv hK hP (ci := 8) (q0 := 0) rfl rfl, fun U hU hW => ⟨rfl, by rw [hU]; exact hP, va_K.moved hW.alike hK⟩⟩ rfl rfl hl.1 rfl (lv_room (Nat.le_of_ble_eq_true rfl)) dX8_as_2 ⟨Nat.le_of_ble_eq_true rfl, Nat.le_of_ble_eq_true rfl⟩)) (fun r hrc => ?_)
  have hrc : r = b2i (0 ≤ (q).toInt ∧ (q).toInt ≤ (k6 : Int) - 1) := hrc
  subst hrc
  refine lv_if_ne (tgt := 11) hx hb dX8_as_5 (by decide) (fun c_1 => ?_) (fun c_1 => ?_)
  · skip
    have c_1 := b2i_1 c_1
    refine lv_iload_n hx hb dX8_as_11 rfl (lv_at hl 2 rfl) ?_
    refine lv_i2l hx hb dX8_as_12 rfl ?_
    refine lv_lconst (v := 0) hx hb dX8_as_13 (by decide +kernel) ?_
    refine lv_ldc2 (v := 4) hx hb hown hW0 dX8_as_14 ?_
    refine vp_callSi (va_Run.run (va_runS (As := [.long ((x).toInt64), .long (0), .long (4)]) (rest := []) ⟨hx, hb, hml, hown, hts⟩ (c8_in l (x) (0) (4) (0) (4) rfl rfl) (va_cwS 3 hts gX8_as_X8_in rfl rfl rfl (by decide +kernel) ⟨Nat.le_of_ble_eq_true rfl, Nat.le_of_ble_eq_true rfl⟩) ⟨fun _ _ _ _ q => q, fun U hU hW => ⟨rfl, trivial⟩⟩ rfl rfl hl.1 rfl (lv_room (Nat.le_of_ble_eq_true rfl)) dX8_as_17 ⟨Nat.le_of_ble_eq_true rfl, Nat.le_of_ble_eq_true rfl⟩)) (fun r hrc => ?_)
    have hrc : r = b2i ((0) ≤ (x).toInt ∧ (x).toInt ≤ (4)) := hrc
    subst hrc
    refine lv_if_ne (tgt := 26) hx hb dX8_as_20 (by decide) (fun c_2 => ?_) (fun c_2 => ?_)
    · skip
      have c_2 := b2i_1 c_2
      refine lv_aload_n hx hb dX8_as_26 rfl (lv_at hl 0 rfl) ?_
      refine va_get (D := (dC, dI)) (ci := 8) (v := .ref (o 8)) (C := RX8) (T := TX8) (N := 25) hx hb hts hin8 hown hK hP 0 rfl rfl 8 (by decide) hW1 (fun _ h9 => h9) rfl dX8_as_27 ?_
      refine lv_bipush (v := nI (10)) hx hb dX8_as_30 (by decide +kernel) ?_
      refine lv_iload_n hx hb dX8_as_32 rfl (lv_at hl 1 rfl) ?_
      refine tv (ix_int (by omega)) ?_
      refine lv_imul hx hb dX8_as_33 ?_
      refine tv (pk_mul (10) (q.toInt.toNat)) ?_
      refine ald hx hb hK hP (f := g 8) (k := 10 * (q.toInt.toNat)) 3 0 rfl rfl rfl (by omega) (by decide) dX8_as_34 ?_
      refine lv_istore_n (lv' := [(3, .int (g 8 (10 * (q.toInt.toNat)))), (0, .ref (a)), (1, .int (q)), (2, .int (x))]) hx hb dX8_as_35 rfl hl (by decide) rfl (fun ls hl => ?_)
      refine lv_iload_n hx hb dX8_as_36 rfl (lv_at hl 3 rfl) ?_
      refine lv_if_eq (tgt := 55) hx hb dX8_as_37 (by decide) (fun c_3 => ?_) (fun c_3 => ?_)
      · skip
        have c_3 : (x) = nI 0 := c_3
        refine lv_iconst (v := nI (1)) hx hb dX8_as_55 (by decide +kernel) ?_
        refine lv_goto (tgt := 60) hx hb dX8_as_56 (by decide) ?_
        refine lv_istore (lv' := [(4, .int (nI (1))), (3, .int (g 8 (10 * (q.toInt.toNat)))), (0, .ref (a)), (1, .int (q)), (2, .int (x))]) hx hb dX8_as_60 hl (by decide) rfl (fun ls hl => ?_)
        refine lv_iload hx hb dX8_as_62 (lv_at hl 0 rfl) ?_
        refine lv_if_eq (tgt := 71) hx hb dX8_as_64 (by decide) (fun c_4 => absurd c_4 (by decide +kernel)) (fun c_4 => ?_)
        refine lv_iload_n hx hb dX8_as_67 rfl (lv_at hl 3 rfl) ?_
        refine tv (ix_int (by omega)) ?_
        refine lv_goto (tgt := 72) hx hb dX8_as_68 (by decide) ?_
        exact W.iret (v := nI (q.toInt.toNat)) hx hb hr (fun t ht hW => ⟨nI (q.toInt.toNat), rfl, (by show nI (q.toInt.toNat) = mAs g k6 q x; first | (simp only [mAs, if_pos c_1, if_pos c_2, if_pos c_3]; done) | (simp only [mAs, if_pos c_1, if_pos c_2, if_pos c_3]; rfl) | rfl | (simp [mAs, if_pos c_1, if_pos c_2, if_pos c_3]; done)), ht⟩) (fun _ h => by cases h) dX8_as_72
      · skip
        have c_3 : ¬ (x) = nI 0 := c_3
        refine lv_iload_n hx hb dX8_as_40 rfl (lv_at hl 3 rfl) ?_
        refine lv_iload_n hx hb dX8_as_41 rfl (lv_at hl 0 rfl) ?_
        refine lv_icmp_eq (tgt := 55) hx hb dX8_as_42 (by decide) (fun c_5 => ?_) (fun c_5 => ?_)
        · skip
          refine lv_iconst (v := nI (1)) hx hb dX8_as_55 (by decide +kernel) ?_
          refine lv_goto (tgt := 60) hx hb dX8_as_56 (by decide) ?_
          refine lv_istore (lv' := [(4, .int (nI (1))), (3, .int (g 8 (10 * (q.toInt.toNat)))), (0, .ref (a)), (1, .int (q)), (2, .int (x))]) hx hb dX8_as_60 hl (by decide) rfl (fun ls hl => ?_)
          refine lv_iload hx hb dX8_as_62 (lv_at hl 0 rfl) ?_
          refine lv_if_eq (tgt := 71) hx hb dX8_as_64 (by decide) (fun c_6 => absurd c_6 (by decide +kernel)) (fun c_6 => ?_)
          refine lv_iload_n hx hb dX8_as_67 rfl (lv_at hl 3 rfl) ?_
          refine tv (ix_int (by omega)) ?_
          refine lv_goto (tgt := 72) hx hb dX8_as_68 (by decide) ?_
          exact W.iret (v := nI (q.toInt.toNat)) hx hb hr (fun t ht hW => ⟨nI (q.toInt.toNat), rfl, (by show nI (q.toInt.toNat) = mAs g k6 q x; first | (simp only [mAs, if_pos c_1, if_pos c_2, if_neg c_3, if_pos c_5]; done) | (simp only [mAs, if_pos c_1, if_pos c_2, if_neg c_3, if_pos c_5]; rfl) | rfl | (simp [mAs, if_pos c_1, if_pos c_2, if_neg c_3, if_pos c_5]; done)), ht⟩) (fun _ h => by cases h) dX8_as_72
        · skip
          refine lv_iload_n hx hb dX8_as_45 rfl (lv_at hl 3 rfl) ?_
          refine lv_iconst (v := nI (3)) hx hb dX8_as_46 (by decide +kernel) ?_
          refine lv_icmp_ne (tgt := 59) hx hb dX8_as_47 (by decide) (fun c_7 => ?_) (fun c_7 => ?_)
          · skip
            refine lv_iconst (v := nI (0)) hx hb dX8_as_59 (by decide +kernel) ?_
            refine lv_istore (lv' := [(4, .int (nI (0))), (3, .int (g 8 (10 * (q.toInt.toNat)))), (0, .ref (a)), (1, .int (q)), (2, .int (x))]) hx hb dX8_as_60 hl (by decide) rfl (fun ls hl => ?_)
            refine lv_iload hx hb dX8_as_62 (lv_at hl 0 rfl) ?_
            refine lv_if_eq (tgt := 71) hx hb dX8_as_64 (by decide) (fun c_8 => ?_) (fun c_8 => absurd c_8 (by decide +kernel))
            refine lv_iconst (v := (-1)) hx hb dX8_as_71 (by decide +kernel) ?_
            exact W.iret (v := (-1)) hx hb hr (fun t ht hW => ⟨(-1), rfl, (by show (-1) = mAs g k6 q x; first | (simp only [mAs, if_pos c_1, if_pos c_2, if_neg c_3, if_neg c_5, if_neg c_7]; done) | (simp only [mAs, if_pos c_1, if_pos c_2, if_neg c_3, if_neg c_5, if_neg c_7]; rfl) | rfl | (simp [mAs, if_pos c_1, if_pos c_2, if_neg c_3, if_neg c_5, if_neg c_7]; done)), ht⟩) (fun _ h => by cases h) dX8_as_72
          · skip
            refine lv_iload_n hx hb dX8_as_50 rfl (lv_at hl 0 rfl) ?_
            refine lv_iconst (v := nI (4)) hx hb dX8_as_51 (by decide +kernel) ?_
            refine lv_icmp_ne (tgt := 59) hx hb dX8_as_52 (by decide) (fun c_9 => ?_) (fun c_9 => ?_)
            · skip
              refine lv_iconst (v := nI (0)) hx hb dX8_as_59 (by decide +kernel) ?_
              refine lv_istore (lv' := [(4, .int (nI (0))), (3, .int (g 8 (10 * (q.toInt.toNat)))), (0, .ref (a)), (1, .int (q)), (2, .int (x))]) hx hb dX8_as_60 hl (by decide) rfl (fun ls hl => ?_)
              refine lv_iload hx hb dX8_as_62 (lv_at hl 0 rfl) ?_
              refine lv_if_eq (tgt := 71) hx hb dX8_as_64 (by decide) (fun c_10 => ?_) (fun c_10 => absurd c_10 (by decide +kernel))
              refine lv_iconst (v := (-1)) hx hb dX8_as_71 (by decide +kernel) ?_
              exact W.iret (v := (-1)) hx hb hr (fun t ht hW => ⟨(-1), rfl, (by show (-1) = mAs g k6 q x; first | (simp only [mAs, if_pos c_1, if_pos c_2, if_neg c_3, if_neg c_5, if_pos c_7, if_neg c_9]; done) | (simp only [mAs, if_pos c_1, if_pos c_2, if_neg c_3, if_neg c_5, if_pos c_7, if_neg c_9]; rfl) | rfl | (simp [mAs, if_pos c_1, if_pos c_2, if_neg c_3, if_neg c_5, if_pos c_7, if_neg c_9]; done)), ht⟩) (fun _ h => by cases h) dX8_as_72
            · skip
              refine lv_iconst (v := nI (1)) hx hb dX8_as_55 (by decide +kernel) ?_
              refine lv_goto (tgt := 60) hx hb dX8_as_56 (by decide) ?_
              refine lv_istore (lv' := [(4, .int (nI (1))), (3, .int (g 8 (10 * (q.toInt.toNat)))), (0, .ref (a)), (1, .int (q)), (2, .int (x))]) hx hb dX8_as_60 hl (by decide) rfl (fun ls hl => ?_)
              refine lv_iload hx hb dX8_as_62 (lv_at hl 0 rfl) ?_
              refine lv_if_eq (tgt := 71) hx hb dX8_as_64 (by decide) (fun c_11 => absurd c_11 (by decide +kernel)) (fun c_11 => ?_)
              refine lv_iload_n hx hb dX8_as_67 rfl (lv_at hl 3 rfl) ?_
              refine tv (ix_int (by omega)) ?_
              refine lv_goto (tgt := 72) hx hb dX8_as_68 (by decide) ?_
              exact W.iret (v := nI (q.toInt.toNat)) hx hb hr (fun t ht hW => ⟨nI (q.toInt.toNat), rfl, (by show nI (q.toInt.toNat) = mAs g k6 q x; first | (simp only [mAs, if_pos c_1, if_pos c_2, if_neg c_3, if_neg c_5, if_pos c_7, if_pos c_9]; done) | (simp only [mAs, if_pos c_1, if_pos c_2, if_neg c_3, if_neg c_5, if_pos c_7, if_pos c_9]; rfl) | rfl | (simp [mAs, if_pos c_1, if_pos c_2, if_neg c_3, if_neg c_5, if_pos c_7, if_pos c_9]; done)), ht⟩) (fun _ h => by cases h) dX8_as_72
    · skip
      have c_2 := b2i_0 c_2
      refine lv_bipush (v := (-102)) hx hb dX8_as_23 (by decide +kernel) ?_
      exact W.iret (v := (-102)) hx hb hr (fun t ht hW => ⟨(-102), rfl, (by show (-102) = mAs g k6 q x; first | (simp only [mAs, if_pos c_1, if_neg c_2]; done) | (simp only [mAs, if_pos c_1, if_neg c_2]; rfl) | rfl | (simp [mAs, if_pos c_1, if_neg c_2]; done)), ht⟩) (fun _ h => by cases h) dX8_as_25
  · skip
    have c_1 := b2i_0 c_1
    refine lv_bipush (v := (-101)) hx hb dX8_as_8 (by decide +kernel) ?_
    exact W.iret (v := (-101)) hx hb hr (fun t ht hW => ⟨(-101), rfl, (by show (-101) = mAs g k6 q x; first | (simp only [mAs, if_neg c_1]; done) | (simp only [mAs, if_neg c_1]; rfl) | rfl | (simp [mAs, if_neg c_1]; done)), ht⟩) (fun _ h => by cases h) dX8_as_10

set_option maxHeartbeats 1200000 in
set_option maxRecDepth 100000 in
theorem c8_sees (l : Launch) (dC : Nat → ClassId) (dI : Nat → Nat → Nat) (cI : ClassId) (a : Nat) (o : Nat → Nat) (f : Nat → Int32) (g : Nat → Nat → Int32) (h : Int64) {k6 : Nat} (e6 : f 6 = nI k6) (b6 : k6 ≤ 4) (q : Int32) (x : Int32) : Met l yX8_sees wsX8_sees ({ frames := 2, cells := 0, slots := 0, locals := 47 } : Room) (va_Pc [.ref (a), .int (q), .int (x)] (fun U => va_P (dC, dI) vwCl (mW cI a o f g h) U.heap ∧ va_K (dC, dI) vwCl [(cI, .int)] U)) (vp_Si (fun r => r = mSees g k6 q x)) 0 0 (fun _ => False) := by
  refine Met.ofW (cc := cX8_sees) (maxL := 3) (ret := (some .int)) (by decide) rfl ?_
  intro p_ e_ s m args below meth c_0 s₁ B hml hv
  obtain ⟨rfl, hP, hK⟩ := hv
  have hx := B.exec
  have hb := B.bytes
  have hr := B.returns
  have hts := atoms_spec (ws := wsX8_sees) B.pre
  have hown : s.vm.findClass RX8 = some m.cls := findClass_of_methodNamed B.named
  have hlocks := B.notSynchronized
  have hP : va_P (dC, dI) vwCl (mW cI a o f g h) s.heap := hP
  have hl := lv_entry ([.ref (a), .int (q), .int (x)]) (n := 3) (Nat.le_of_ble_eq_true rfl)
  rw [lg_entry_eq]
  generalize (lg_sl ([.ref (a), .int (q), .int (x)]) ++ List.replicate (3 - (lg_sl ([.ref (a), .int (q), .int (x)])).length) Slot.unset).toArray = ls at hl ⊢
  have hl : lv_has ls 3 [(0, .ref (a)), (1, .int (q)), (2, .int (x))] := hl
  refine lv_aload_n hx hb dX8_sees_0 rfl (lv_at hl 0 rfl) ?_
  refine lv_iload_n hx hb dX8_sees_1 rfl (lv_at hl 1 rfl) ?_
  refine vp_callSi (va_Run.run (va_runV (As := [.int (q)]) (rest := []) ⟨hx, hb, hml, hown, hts⟩ (c8_isPerson l dC dI cI a o (f) (g) (h) e6 (by omega) (q) ) (cwV 1 hts gX8_sees_X8_isPerson rfl rfl rfl (by decide +kernel) ⟨Nat.le_of_ble_eq_true rfl, Nat.le_of_ble_eq_true rfl⟩) ⟨fun a U g mk q => ⟨q.1, q.2.1, va_K.moved (u := U) (U := U.calling g mk a) (Vm.Alike.refl U.vm) q.2.2⟩, va_recv hK hP (ci := 8) (q0 := 0) rfl rfl, fun U hU hW => ⟨rfl, by rw [hU]; exact hP, va_K.moved hW.alike hK⟩⟩ rfl rfl hl.1 rfl (lv_room (Nat.le_of_ble_eq_true rfl)) dX8_sees_2 ⟨Nat.le_of_ble_eq_true rfl, Nat.le_of_ble_eq_true rfl⟩)) (fun r hrc => ?_)
  have hrc : r = b2i (0 ≤ (q).toInt ∧ (q).toInt ≤ (k6 : Int) - 1) := hrc
  subst hrc
  refine lv_if_ne (tgt := 11) hx hb dX8_sees_5 (by decide) (fun c_1 => ?_) (fun c_1 => ?_)
  · skip
    have c_1 := b2i_1 c_1
    refine lv_iload_n hx hb dX8_sees_11 rfl (lv_at hl 2 rfl) ?_
    refine vp_callSi (va_Run.run (va_runS (As := [.int (x)]) (rest := []) ⟨hx, hb, hml, hown, hts⟩ (c8_isHue l (x)) (va_cwS 1 hts gX8_sees_X8_isHue rfl rfl rfl (by decide +kernel) ⟨Nat.le_of_ble_eq_true rfl, Nat.le_of_ble_eq_true rfl⟩) ⟨fun _ _ _ _ q => q, fun U hU hW => ⟨rfl, trivial⟩⟩ rfl rfl hl.1 rfl (lv_room (Nat.le_of_ble_eq_true rfl)) dX8_sees_12 ⟨Nat.le_of_ble_eq_true rfl, Nat.le_of_ble_eq_true rfl⟩)) (fun r hrc => ?_)
    have hrc : r = b2i (0 ≤ (x).toInt ∧ (x).toInt ≤ 7) := hrc
    subst hrc
    refine lv_if_eq (tgt := 27) hx hb dX8_sees_15 (by decide) (fun c_2 => ?_) (fun c_2 => ?_)
    · skip
      have c_2 := b2i_0 c_2
      refine lv_bipush (v := (-102)) hx hb dX8_sees_27 (by decide +kernel) ?_
      exact W.iret (v := (-102)) hx hb hr (fun t ht hW => ⟨(-102), rfl, (by show (-102) = mSees g k6 q x; first | (simp only [mSees, if_pos c_1, if_neg c_2]; done) | (simp only [mSees, if_pos c_1, if_neg c_2]; rfl) | rfl | (simp [mSees, if_pos c_1, if_neg c_2]; done)), ht⟩) (fun _ h => by cases h) dX8_sees_29
    · skip
      have c_2 := b2i_1 c_2
      refine lv_aload_n hx hb dX8_sees_18 rfl (lv_at hl 0 rfl) ?_
      refine lv_iload_n hx hb dX8_sees_19 rfl (lv_at hl 1 rfl) ?_
      refine tv (ix_int (by omega)) ?_
      refine lv_iload_n hx hb dX8_sees_20 rfl (lv_at hl 2 rfl) ?_
      refine vp_callSi (va_Run.run (va_runV (As := [.int (nI (q.toInt.toNat)), .int (x)]) (rest := []) ⟨hx, hb, hml, hown, hts⟩ (c8_seesOf l dC dI cI a o (f) (g) (h)  (x) (q.toInt.toNat) (by omega)) (cwV 2 hts gX8_sees_X8_seesOf rfl rfl rfl (by decide +kernel) ⟨Nat.le_of_ble_eq_true rfl, Nat.le_of_ble_eq_true rfl⟩) ⟨fun a U g mk q => ⟨q.1, q.2.1, va_K.moved (u := U) (U := U.calling g mk a) (Vm.Alike.refl U.vm) q.2.2⟩, va_recv hK hP (ci := 8) (q0 := 0) rfl rfl, fun U hU hW => ⟨rfl, by rw [hU]; exact hP, va_K.moved hW.alike hK⟩⟩ rfl rfl hl.1 rfl (lv_room (Nat.le_of_ble_eq_true rfl)) dX8_sees_21 ⟨Nat.le_of_ble_eq_true rfl, Nat.le_of_ble_eq_true rfl⟩)) (fun r hrc => ?_)
      have hrc : r = mS (g) (q.toInt.toNat) (x) := hrc
      subst hrc
      refine lv_goto (tgt := 29) hx hb dX8_sees_24 (by decide) ?_
      exact W.iret (v := mS (g) (q.toInt.toNat) (x)) hx hb hr (fun t ht hW => ⟨mS (g) (q.toInt.toNat) (x), rfl, (by show mS (g) (q.toInt.toNat) (x) = mSees g k6 q x; first | (simp only [mSees, if_pos c_1, if_pos c_2]; done) | (simp only [mSees, if_pos c_1, if_pos c_2]; rfl) | rfl | (simp [mSees, if_pos c_1, if_pos c_2]; done)), ht⟩) (fun _ h => by cases h) dX8_sees_29
  · skip
    have c_1 := b2i_0 c_1
    refine lv_bipush (v := (-101)) hx hb dX8_sees_8 (by decide +kernel) ?_
    exact W.iret (v := (-101)) hx hb hr (fun t ht hW => ⟨(-101), rfl, (by show (-101) = mSees g k6 q x; first | (simp only [mSees, if_neg c_1]; done) | (simp only [mSees, if_neg c_1]; rfl) | rfl | (simp [mSees, if_neg c_1]; done)), ht⟩) (fun _ h => by cases h) dX8_sees_10

set_option maxHeartbeats 1200000 in
set_option maxRecDepth 100000 in
theorem c8_inkOf (l : Launch) (dC : Nat → ClassId) (dI : Nat → Nat → Nat) (cI : ClassId) (a : Nat) (o : Nat → Nat) (f : Nat → Int32) (g : Nat → Nat → Int32) (h : Int64) {k7 : Nat} (e7 : f 7 = nI k7) (b7 : k7 ≤ 5) (q : Int32) : Met l yX8_inkOf wsX8_inkOf ({ frames := 2, cells := 0, slots := 0, locals := 46 } : Room) (va_Pc [.ref (a), .int (q)] (fun U => va_P (dC, dI) vwCl (mW cI a o f g h) U.heap ∧ va_K (dC, dI) vwCl [(cI, .int)] U)) (vp_Si (fun r => r = mInkOf g k7 q)) 0 0 (fun _ => False) := by
  refine Met.ofW (cc := cX8_inkOf) (maxL := 2) (ret := (some .int)) (by decide) rfl ?_
  intro p_ e_ s m args below meth c_0 s₁ B hml hv
  obtain ⟨rfl, hP, hK⟩ := hv
  have hx := B.exec
  have hb := B.bytes
  have hr := B.returns
  have hts := atoms_spec (ws := wsX8_inkOf) B.pre
  have hown : s.vm.findClass RX8 = some m.cls := findClass_of_methodNamed B.named
  have hlocks := B.notSynchronized
  have hP : va_P (dC, dI) vwCl (mW cI a o f g h) s.heap := hP
  have hl := lv_entry ([.ref (a), .int (q)]) (n := 2) (Nat.le_of_ble_eq_true rfl)
  rw [lg_entry_eq]
  generalize (lg_sl ([.ref (a), .int (q)]) ++ List.replicate (2 - (lg_sl ([.ref (a), .int (q)])).length) Slot.unset).toArray = ls at hl ⊢
  have hl : lv_has ls 2 [(0, .ref (a)), (1, .int (q))] := hl
  have hin8 : ∀ w ∈ wsX80, w ∈ wsX8_inkOf := fun _ h => List.mem_cons_of_mem _ (List.mem_append_right _ h)
  have hW0 := hts (.fieldLink RX8 19 "EachEyeModel" "inkHues" "[I") (by decide +kernel)
  refine lv_aload_n hx hb dX8_inkOf_0 rfl (lv_at hl 0 rfl) ?_
  refine lv_iload_n hx hb dX8_inkOf_1 rfl (lv_at hl 1 rfl) ?_
  refine vp_callSi (va_Run.run (va_runV (As := [.int (q)]) (rest := []) ⟨hx, hb, hml, hown, hts⟩ (c8_isInk l dC dI cI a o (f) (g) (h) e7 (by omega) (q) ) (cwV 1 hts gX8_inkOf_X8_isInk rfl rfl rfl (by decide +kernel) ⟨Nat.le_of_ble_eq_true rfl, Nat.le_of_ble_eq_true rfl⟩) ⟨fun a U g mk q => ⟨q.1, q.2.1, va_K.moved (u := U) (U := U.calling g mk a) (Vm.Alike.refl U.vm) q.2.2⟩, va_recv hK hP (ci := 8) (q0 := 0) rfl rfl, fun U hU hW => ⟨rfl, by rw [hU]; exact hP, va_K.moved hW.alike hK⟩⟩ rfl rfl hl.1 rfl (lv_room (Nat.le_of_ble_eq_true rfl)) dX8_inkOf_2 ⟨Nat.le_of_ble_eq_true rfl, Nat.le_of_ble_eq_true rfl⟩)) (fun r hrc => ?_)
  have hrc : r = b2i (0 ≤ (q).toInt ∧ (q).toInt ≤ (k7 : Int) - 1) := hrc
  subst hrc
  refine lv_if_eq (tgt := 17) hx hb dX8_inkOf_5 (by decide) (fun c_1 => ?_) (fun c_1 => ?_)
  · skip
    have c_1 := b2i_0 c_1
    refine lv_bipush (v := (-101)) hx hb dX8_inkOf_17 (by decide +kernel) ?_
    exact W.iret (v := (-101)) hx hb hr (fun t ht hW => ⟨(-101), rfl, (by show (-101) = mInkOf g k7 q; first | (simp only [mInkOf, if_neg c_1]; done) | (simp only [mInkOf, if_neg c_1]; rfl) | rfl | (simp [mInkOf, if_neg c_1]; done)), ht⟩) (fun _ h => by cases h) dX8_inkOf_19
  · skip
    have c_1 := b2i_1 c_1
    refine lv_aload_n hx hb dX8_inkOf_8 rfl (lv_at hl 0 rfl) ?_
    refine va_get (D := (dC, dI)) (ci := 8) (v := .ref (o 9)) (C := RX8) (T := TX8) (N := 25) hx hb hts hin8 hown hK hP 0 rfl rfl 9 (by decide) hW0 (fun _ h9 => h9) rfl dX8_inkOf_9 ?_
    refine lv_iload_n hx hb dX8_inkOf_12 rfl (lv_at hl 1 rfl) ?_
    refine tv (ix_int (by omega)) ?_
    refine ald hx hb hK hP (f := g 9) (k := q.toInt.toNat) 4 0 rfl rfl rfl (by omega) (by decide) dX8_inkOf_13 ?_
    refine lv_goto (tgt := 19) hx hb dX8_inkOf_14 (by decide) ?_
    exact W.iret (v := g 9 (q.toInt.toNat)) hx hb hr (fun t ht hW => ⟨g 9 (q.toInt.toNat), rfl, (by show g 9 (q.toInt.toNat) = mInkOf g k7 q; first | (simp only [mInkOf, if_pos c_1]; done) | (simp only [mInkOf, if_pos c_1]; rfl) | rfl | (simp [mInkOf, if_pos c_1]; done)), ht⟩) (fun _ h => by cases h) dX8_inkOf_19

set_option maxHeartbeats 1200000 in
set_option maxRecDepth 100000 in
theorem c8_wordMany (l : Launch) (dC : Nat → ClassId) (dI : Nat → Nat → Nat) (cI : ClassId) (a : Nat) (o : Nat → Nat) (f : Nat → Int32) (g : Nat → Nat → Int32) (h : Int64) {k6 : Nat} (e6 : f 6 = nI k6) (b6 : k6 ≤ 4) : Met l yX8_wordMany wsX8_wordMany ({ frames := 0, cells := 0, slots := 0, locals := 0 } : Room) (va_Pc [.ref (a)] (fun U => va_P (dC, dI) vwCl (mW cI a o f g h) U.heap ∧ va_K (dC, dI) vwCl [(cI, .int)] U)) (vp_Si (fun r => r = mWm g k6)) 0 0 (fun _ => False) := by
  refine Met.ofW (cc := cX8_wordMany) (maxL := 3) (ret := (some .int)) (by decide) rfl ?_
  intro p_ e_ s m args below meth c_0 s₁ B hml hv
  obtain ⟨rfl, hP, hK⟩ := hv
  have hx := B.exec
  have hb := B.bytes
  have hr := B.returns
  have hts := atoms_spec (ws := wsX8_wordMany) B.pre
  have hown : s.vm.findClass RX8 = some m.cls := findClass_of_methodNamed B.named
  have hlocks := B.notSynchronized
  have hP : va_P (dC, dI) vwCl (mW cI a o f g h) s.heap := hP
  have hl := lv_entry ([.ref (a)]) (n := 3) (Nat.le_of_ble_eq_true rfl)
  rw [lg_entry_eq]
  generalize (lg_sl ([.ref (a)]) ++ List.replicate (3 - (lg_sl ([.ref (a)])).length) Slot.unset).toArray = ls at hl ⊢
  have hl : lv_has ls 3 [(0, .ref (a))] := hl
  have hin8 : ∀ w ∈ wsX80, w ∈ wsX8_wordMany := fun _ h => List.mem_cons_of_mem _ (List.mem_append_right _ h)
  have hW0 := hts (.fieldLink RX8 71 "EachEyeModel" "people" "I") (by decide +kernel)
  have hW1 := hts (.fieldLink RX8 16 "EachEyeModel" "rows" "[I") (by decide +kernel)
  refine lv_iconst (v := nI (0)) hx hb dX8_wordMany_0 (by decide +kernel) ?_
  refine lv_istore_n (lv' := [(1, .int (nI (0))), (0, .ref (a))]) hx hb dX8_wordMany_1 rfl hl (by decide) rfl (fun ls hl => ?_)
  refine lv_iconst (v := nI (0)) hx hb dX8_wordMany_2 (by decide +kernel) ?_
  refine lv_istore_n (lv' := [(2, .int (nI (0))), (1, .int (nI (0))), (0, .ref (a))]) hx hb dX8_wordMany_3 rfl hl (by decide) rfl (fun ls hl => ?_)
  have e0_1 : (nI (0)) = sm (fun j => g 8 (10 * j + 3)) 0 := rfl
  refine lp_ro (fun k : Nat => k6 - k) (fun k : Nat => k ≤ k6) (fun k : Nat => [(0, .ref (a)), (1, .int (sm (fun j => g 8 (10 * j + 3)) k)), (2, .int (nI (k)))]) (0) (by omega) (by show lv_has ls 3 [(0, .ref (a)), (1, .int (sm (fun j => g 8 (10 * j + 3)) 0)), (2, .int (nI (0)))]; rw [← e0_1]; exact lv_sub hl [2, 1, 0] rfl) (fun k hI ih_4 ls hl => ?_)
  have hI : k ≤ k6 := hI
  have hl : lv_has ls 3 [(0, .ref (a)), (1, .int (sm (fun j => g 8 (10 * j + 3)) k)), (2, .int (nI (k)))] := hl
  refine lv_iload_n hx hb dX8_wordMany_4 rfl (lv_at hl 2 rfl) ?_
  refine lv_aload_n hx hb dX8_wordMany_5 rfl (lv_at hl 0 rfl) ?_
  refine va_get (D := (dC, dI)) (ci := 8) (v := .int (nI (k6))) (C := RX8) (T := TX8) (N := 25) hx hb hts hin8 hown hK hP 0 rfl rfl 6 (by decide) hW0 (fun _ h9 => h9) (congrArg (fun z => some (Value.int z)) e6) dX8_wordMany_6 ?_
  refine lv_icmp_ge (tgt := 32) hx hb dX8_wordMany_9 (by decide) (fun c_1 => ?_) (fun c_1 => ?_)
  · skip
    rw [nI_leI (a := k6) (b := k) (by omega) (by omega)] at c_1
    have hE : k6 = k := by omega
    subst hE
    refine lv_iload_n hx hb dX8_wordMany_32 rfl (lv_at hl 1 rfl) ?_
    exact W.iret (v := sm (fun j => g 8 (10 * j + 3)) k6) hx hb hr (fun t ht hW => ⟨sm (fun j => g 8 (10 * j + 3)) k6, rfl, (by show sm (fun j => g 8 (10 * j + 3)) k6 = mWm g k6; rfl), ht⟩) (fun _ h => by cases h) dX8_wordMany_33
  · skip
    rw [nI_leI (a := k6) (b := k) (by omega) (by omega)] at c_1
    refine lv_iload_n hx hb dX8_wordMany_12 rfl (lv_at hl 1 rfl) ?_
    refine lv_aload_n hx hb dX8_wordMany_13 rfl (lv_at hl 0 rfl) ?_
    refine va_get (D := (dC, dI)) (ci := 8) (v := .ref (o 8)) (C := RX8) (T := TX8) (N := 25) hx hb hts hin8 hown hK hP 0 rfl rfl 8 (by decide) hW1 (fun _ h9 => h9) rfl dX8_wordMany_14 ?_
    refine lv_bipush (v := nI (10)) hx hb dX8_wordMany_17 (by decide +kernel) ?_
    refine lv_iload_n hx hb dX8_wordMany_19 rfl (lv_at hl 2 rfl) ?_
    refine lv_imul hx hb dX8_wordMany_20 ?_
    refine tv (pk_mul (10) (k)) ?_
    refine lv_iconst (v := nI (3)) hx hb dX8_wordMany_21 (by decide +kernel) ?_
    refine lv_iadd hx hb dX8_wordMany_22 ?_
    refine tv (nI_add (10 * (k)) (3)) ?_
    refine ald hx hb hK hP (f := g 8) (k := 10 * (k) + 3) 3 0 rfl rfl rfl (by omega) (by decide) dX8_wordMany_23 ?_
    refine lv_iadd hx hb dX8_wordMany_24 ?_
    refine lv_istore_n (lv' := [(1, .int ((sm (fun j => g 8 (10 * j + 3)) k) + (g 8 (10 * (k) + 3)))), (0, .ref (a)), (2, .int (nI (k)))]) hx hb dX8_wordMany_25 rfl hl (by decide) rfl (fun ls hl => ?_)
    refine lv_iinc (v := nI (k + 1)) (lv' := [(2, .int (nI (k + 1))), (1, .int ((sm (fun j => g 8 (10 * j + 3)) k) + (g 8 (10 * (k) + 3)))), (0, .ref (a))]) hx hb dX8_wordMany_26 hl (k := 2) rfl (nI_1 _) (by decide) rfl (fun ls hl => ?_)
    refine lv_goto (tgt := 4) hx hb dX8_wordMany_29 (by decide) ?_
    have e1_1 : ((sm (fun j => g 8 (10 * j + 3)) k) + (g 8 (10 * (k) + 3))) = sm (fun j => g 8 (10 * j + 3)) (k + 1) := by first | rfl | (simp only [sm, alB, if_neg c_1]; done) | (simp only [sm, alB, if_neg c_1]; rfl) | (simp [sm, alB, if_neg c_1]; done)
    exact ih_4 (k + 1) ls (by show _ < _; omega) (by show _; omega) (by show lv_has ls 3 [(0, .ref (a)), (1, .int (sm (fun j => g 8 (10 * j + 3)) (k + 1))), (2, .int (nI ((k + 1))))]; rw [← e1_1]; exact lv_sub hl [2, 1, 0] rfl)

set_option maxHeartbeats 1200000 in
set_option maxRecDepth 100000 in
theorem c8_differOf (l : Launch) (dC : Nat → ClassId) (dI : Nat → Nat → Nat) (cI : ClassId) (a : Nat) (o : Nat → Nat) (f : Nat → Int32) (g : Nat → Nat → Int32) (h : Int64) (p q : Nat) (hp : p < 4) (hq : q < 4) : Met l yX8_differOf wsX8_differOf ({ frames := 2, cells := 0, slots := 0, locals := 47 } : Room) (va_Pc [.ref (a), .int (nI (p)), .int (nI (q))] (fun U => va_P (dC, dI) vwCl (mW cI a o f g h) U.heap ∧ va_K (dC, dI) vwCl [(cI, .int)] U)) (vp_Si (fun r => r = mDo g p q)) 0 0 (fun _ => False) := by
  refine Met.ofW (cc := cX8_differOf) (maxL := 4) (ret := (some .int)) (by decide) rfl ?_
  intro p_ e_ s m args below meth c_0 s₁ B hml hv
  obtain ⟨rfl, hP, hK⟩ := hv
  have hx := B.exec
  have hb := B.bytes
  have hr := B.returns
  have hts := atoms_spec (ws := wsX8_differOf) B.pre
  have hown : s.vm.findClass RX8 = some m.cls := findClass_of_methodNamed B.named
  have hlocks := B.notSynchronized
  have hP : va_P (dC, dI) vwCl (mW cI a o f g h) s.heap := hP
  have hl := lv_entry ([.ref (a), .int (nI (p)), .int (nI (q))]) (n := 4) (Nat.le_of_ble_eq_true rfl)
  rw [lg_entry_eq]
  generalize (lg_sl ([.ref (a), .int (nI (p)), .int (nI (q))]) ++ List.replicate (4 - (lg_sl ([.ref (a), .int (nI (p)), .int (nI (q))])).length) Slot.unset).toArray = ls at hl ⊢
  have hl : lv_has ls 4 [(0, .ref (a)), (1, .int (nI (p))), (2, .int (nI (q)))] := hl
  have hin8 : ∀ w ∈ wsX80, w ∈ wsX8_differOf := fun _ h => List.mem_cons_of_mem _ (List.mem_append_right _ h)
  have hW0 := hts (.fieldLink RX8 13 "EachEyeModel" "hues" "[I") (by decide +kernel)
  refine lv_iconst (v := nI (0)) hx hb dX8_differOf_0 (by decide +kernel) ?_
  refine lv_istore_n (lv' := [(3, .int (nI (0))), (0, .ref (a)), (1, .int (nI (p))), (2, .int (nI (q)))]) hx hb dX8_differOf_1 rfl hl (by decide) rfl (fun ls hl => ?_)
  refine lp_ro (fun k : Nat => 6 - k) (fun k : Nat => k ≤ 6 ∧ ∀ j, j < k → (!decide (mS g p (g 5 j) = mS g q (g 5 j))) = false) (fun k : Nat => [(0, .ref (a)), (1, .int (nI (p))), (2, .int (nI (q))), (3, .int (nI (k)))]) (0) ⟨by omega, fun j h => absurd h (Nat.not_lt_zero _)⟩ (by show lv_has ls 4 [(0, .ref (a)), (1, .int (nI (p))), (2, .int (nI (q))), (3, .int (nI (0)))]; exact lv_sub hl [1, 2, 3, 0] rfl) (fun k hI ih_2 ls hl => ?_)
  have hI : k ≤ 6 ∧ ∀ j, j < k → (!decide (mS g p (g 5 j) = mS g q (g 5 j))) = false := hI
  have hl : lv_has ls 4 [(0, .ref (a)), (1, .int (nI (p))), (2, .int (nI (q))), (3, .int (nI (k)))] := hl
  have hI1 := hI.1
  refine lv_iload_n hx hb dX8_differOf_2 rfl (lv_at hl 3 rfl) ?_
  refine lv_bipush (v := nI (6)) hx hb dX8_differOf_3 (by decide +kernel) ?_
  refine lv_icmp_ge (tgt := 41) hx hb dX8_differOf_5 (by decide) (fun c_1 => ?_) (fun c_1 => ?_)
  · skip
    rw [nI_leI (a := 6) (b := k) (by omega) (by omega)] at c_1
    refine lv_iconst (v := (-1)) hx hb dX8_differOf_41 (by decide +kernel) ?_
    exact W.iret (v := (-1)) hx hb hr (fun t ht hW => ⟨(-1), rfl, (by show (-1) = mDo g p q; have h6 : k = 6 := (by omega); subst h6; have h1 := fst1_no (p := fun c => !decide (mS g p (g 5 c) = mS g q (g 5 c))) (n := 6) hI.2; rw [mDo, h1, if_neg (by omega)]), ht⟩) (fun _ h => by cases h) dX8_differOf_42
  · skip
    rw [nI_leI (a := 6) (b := k) (by omega) (by omega)] at c_1
    refine lv_aload_n hx hb dX8_differOf_8 rfl (lv_at hl 0 rfl) ?_
    refine lv_iload_n hx hb dX8_differOf_9 rfl (lv_at hl 1 rfl) ?_
    refine lv_aload_n hx hb dX8_differOf_10 rfl (lv_at hl 0 rfl) ?_
    refine va_get (D := (dC, dI)) (ci := 8) (v := .ref (o 5)) (C := RX8) (T := TX8) (N := 25) hx hb hts hin8 hown hK hP 0 rfl rfl 5 (by decide) hW0 (fun _ h9 => h9) rfl dX8_differOf_11 ?_
    refine lv_iload_n hx hb dX8_differOf_14 rfl (lv_at hl 3 rfl) ?_
    refine ald hx hb hK hP (f := g 5) (k := k) 2 0 rfl rfl rfl (by omega) (by decide) dX8_differOf_15 ?_
    refine vp_callSi (va_Run.run (va_runV (As := [.int (nI (p)), .int (g 5 (k))]) (rest := []) ⟨hx, hb, hml, hown, hts⟩ (c8_seesOf l dC dI cI a o (f) (g) (h)  (g 5 (k)) (p) (by omega)) (cwV 2 hts gX8_differOf_X8_seesOf rfl rfl rfl (by decide +kernel) ⟨Nat.le_of_ble_eq_true rfl, Nat.le_of_ble_eq_true rfl⟩) ⟨fun a U g mk q => ⟨q.1, q.2.1, va_K.moved (u := U) (U := U.calling g mk a) (Vm.Alike.refl U.vm) q.2.2⟩, va_recv hK hP (ci := 8) (q0 := 0) rfl rfl, fun U hU hW => ⟨rfl, by rw [hU]; exact hP, va_K.moved hW.alike hK⟩⟩ rfl rfl hl.1 rfl (lv_room (Nat.le_of_ble_eq_true rfl)) dX8_differOf_16 ⟨Nat.le_of_ble_eq_true rfl, Nat.le_of_ble_eq_true rfl⟩)) (fun r hrc => ?_)
    have hrc : r = mS (g) (p) (g 5 (k)) := hrc
    subst hrc
    refine lv_aload_n hx hb dX8_differOf_19 rfl (lv_at hl 0 rfl) ?_
    refine lv_iload_n hx hb dX8_differOf_20 rfl (lv_at hl 2 rfl) ?_
    refine lv_aload_n hx hb dX8_differOf_21 rfl (lv_at hl 0 rfl) ?_
    refine va_get (D := (dC, dI)) (ci := 8) (v := .ref (o 5)) (C := RX8) (T := TX8) (N := 25) hx hb hts hin8 hown hK hP 0 rfl rfl 5 (by decide) hW0 (fun _ h9 => h9) rfl dX8_differOf_22 ?_
    refine lv_iload_n hx hb dX8_differOf_25 rfl (lv_at hl 3 rfl) ?_
    refine ald hx hb hK hP (f := g 5) (k := k) 2 0 rfl rfl rfl (by omega) (by decide) dX8_differOf_26 ?_
    refine vp_callSi (va_Run.run (va_runV (As := [.int (nI (q)), .int (g 5 (k))]) (rest := [.int (mS (g) (p) (g 5 (k)))]) ⟨hx, hb, hml, hown, hts⟩ (c8_seesOf l dC dI cI a o (f) (g) (h)  (g 5 (k)) (q) (by omega)) (cwV 2 hts gX8_differOf_X8_seesOf rfl rfl rfl (by decide +kernel) ⟨Nat.le_of_ble_eq_true rfl, Nat.le_of_ble_eq_true rfl⟩) ⟨fun a U g mk q => ⟨q.1, q.2.1, va_K.moved (u := U) (U := U.calling g mk a) (Vm.Alike.refl U.vm) q.2.2⟩, va_recv hK hP (ci := 8) (q0 := 0) rfl rfl, fun U hU hW => ⟨rfl, by rw [hU]; exact hP, va_K.moved hW.alike hK⟩⟩ rfl rfl hl.1 rfl (lv_room (Nat.le_of_ble_eq_true rfl)) dX8_differOf_27 ⟨Nat.le_of_ble_eq_true rfl, Nat.le_of_ble_eq_true rfl⟩)) (fun r hrc => ?_)
    have hrc : r = mS (g) (q) (g 5 (k)) := hrc
    subst hrc
    refine lv_icmp_eq (tgt := 35) hx hb dX8_differOf_30 (by decide) (fun c_2 => ?_) (fun c_2 => ?_)
    · skip
      refine lv_iinc (v := nI (k + 1)) (lv' := [(3, .int (nI (k + 1))), (0, .ref (a)), (1, .int (nI (p))), (2, .int (nI (q)))]) hx hb dX8_differOf_35 hl (k := 3) rfl (nI_1 _) (by decide) rfl (fun ls hl => ?_)
      refine lv_goto (tgt := 2) hx hb dX8_differOf_38 (by decide) ?_
      exact ih_2 (k + 1) ls (by show _ < _; omega) ⟨by omega, lt_s hI.2 (by rw [decide_eq_true c_2]; rfl)⟩ (by show lv_has ls 4 [(0, .ref (a)), (1, .int (nI (p))), (2, .int (nI (q))), (3, .int (nI ((k + 1))))]; exact lv_sub hl [1, 2, 3, 0] rfl)
    · skip
      refine lv_iload_n hx hb dX8_differOf_33 rfl (lv_at hl 3 rfl) ?_
      exact W.iret (v := nI (k)) hx hb hr (fun t ht hW => ⟨nI (k), rfl, (by show nI (k) = mDo g p q; have h1 := fst1_at (p := fun c => !decide (mS g p (g 5 c) = mS g q (g 5 c))) (n := 6) (k := k) (by omega) hI.2 (by show (!decide _) = true; rw [decide_eq_false c_2]; rfl); rw [mDo, h1, if_pos (by omega)]), ht⟩) (fun _ h => by cases h) dX8_differOf_34

set_option maxHeartbeats 1200000 in
set_option maxRecDepth 100000 in
theorem c8_differ (l : Launch) (dC : Nat → ClassId) (dI : Nat → Nat → Nat) (cI : ClassId) (a : Nat) (o : Nat → Nat) (f : Nat → Int32) (g : Nat → Nat → Int32) (h : Int64) {k6 : Nat} (e6 : f 6 = nI k6) (b6 : k6 ≤ 4) (p : Int32) (q : Int32) : Met l yX8_differ wsX8_differ ({ frames := 3, cells := 0, slots := 0, locals := 70 } : Room) (va_Pc [.ref (a), .int (p), .int (q)] (fun U => va_P (dC, dI) vwCl (mW cI a o f g h) U.heap ∧ va_K (dC, dI) vwCl [(cI, .int)] U)) (vp_Si (fun r => r = mDiffer g k6 p q)) 0 0 (fun _ => False) := by
  refine Met.ofW (cc := cX8_differ) (maxL := 3) (ret := (some .int)) (by decide) rfl ?_
  intro p_ e_ s m args below meth c_0 s₁ B hml hv
  obtain ⟨rfl, hP, hK⟩ := hv
  have hx := B.exec
  have hb := B.bytes
  have hr := B.returns
  have hts := atoms_spec (ws := wsX8_differ) B.pre
  have hown : s.vm.findClass RX8 = some m.cls := findClass_of_methodNamed B.named
  have hlocks := B.notSynchronized
  have hP : va_P (dC, dI) vwCl (mW cI a o f g h) s.heap := hP
  have hl := lv_entry ([.ref (a), .int (p), .int (q)]) (n := 3) (Nat.le_of_ble_eq_true rfl)
  rw [lg_entry_eq]
  generalize (lg_sl ([.ref (a), .int (p), .int (q)]) ++ List.replicate (3 - (lg_sl ([.ref (a), .int (p), .int (q)])).length) Slot.unset).toArray = ls at hl ⊢
  have hl : lv_has ls 3 [(0, .ref (a)), (1, .int (p)), (2, .int (q))] := hl
  refine lv_aload_n hx hb dX8_differ_0 rfl (lv_at hl 0 rfl) ?_
  refine lv_iload_n hx hb dX8_differ_1 rfl (lv_at hl 1 rfl) ?_
  refine vp_callSi (va_Run.run (va_runV (As := [.int (p)]) (rest := []) ⟨hx, hb, hml, hown, hts⟩ (c8_isPerson l dC dI cI a o (f) (g) (h) e6 (by omega) (p) ) (cwV 1 hts gX8_differ_X8_isPerson rfl rfl rfl (by decide +kernel) ⟨Nat.le_of_ble_eq_true rfl, Nat.le_of_ble_eq_true rfl⟩) ⟨fun a U g mk q => ⟨q.1, q.2.1, va_K.moved (u := U) (U := U.calling g mk a) (Vm.Alike.refl U.vm) q.2.2⟩, va_recv hK hP (ci := 8) (q0 := 0) rfl rfl, fun U hU hW => ⟨rfl, by rw [hU]; exact hP, va_K.moved hW.alike hK⟩⟩ rfl rfl hl.1 rfl (lv_room (Nat.le_of_ble_eq_true rfl)) dX8_differ_2 ⟨Nat.le_of_ble_eq_true rfl, Nat.le_of_ble_eq_true rfl⟩)) (fun r hrc => ?_)
  have hrc : r = b2i (0 ≤ (p).toInt ∧ (p).toInt ≤ (k6 : Int) - 1) := hrc
  subst hrc
  refine lv_if_eq (tgt := 25) hx hb dX8_differ_5 (by decide) (fun c_1 => ?_) (fun c_1 => ?_)
  · skip
    have c_1 := b2i_0 c_1
    refine lv_bipush (v := (-101)) hx hb dX8_differ_25 (by decide +kernel) ?_
    exact W.iret (v := (-101)) hx hb hr (fun t ht hW => ⟨(-101), rfl, (by show (-101) = mDiffer g k6 p q; first | (simp only [mDiffer, if_neg c_1]; done) | (simp only [mDiffer, if_neg c_1]; rfl) | rfl | (simp [mDiffer, if_neg c_1]; done)), ht⟩) (fun _ h => by cases h) dX8_differ_27
  · skip
    have c_1 := b2i_1 c_1
    refine lv_aload_n hx hb dX8_differ_8 rfl (lv_at hl 0 rfl) ?_
    refine lv_iload_n hx hb dX8_differ_9 rfl (lv_at hl 2 rfl) ?_
    refine vp_callSi (va_Run.run (va_runV (As := [.int (q)]) (rest := []) ⟨hx, hb, hml, hown, hts⟩ (c8_isPerson l dC dI cI a o (f) (g) (h) e6 (by omega) (q) ) (cwV 1 hts gX8_differ_X8_isPerson rfl rfl rfl (by decide +kernel) ⟨Nat.le_of_ble_eq_true rfl, Nat.le_of_ble_eq_true rfl⟩) ⟨fun a U g mk q => ⟨q.1, q.2.1, va_K.moved (u := U) (U := U.calling g mk a) (Vm.Alike.refl U.vm) q.2.2⟩, va_recv hK hP (ci := 8) (q0 := 0) rfl rfl, fun U hU hW => ⟨rfl, by rw [hU]; exact hP, va_K.moved hW.alike hK⟩⟩ rfl rfl hl.1 rfl (lv_room (Nat.le_of_ble_eq_true rfl)) dX8_differ_10 ⟨Nat.le_of_ble_eq_true rfl, Nat.le_of_ble_eq_true rfl⟩)) (fun r hrc => ?_)
    have hrc : r = b2i (0 ≤ (q).toInt ∧ (q).toInt ≤ (k6 : Int) - 1) := hrc
    subst hrc
    refine lv_if_eq (tgt := 25) hx hb dX8_differ_13 (by decide) (fun c_2 => ?_) (fun c_2 => ?_)
    · skip
      have c_2 := b2i_0 c_2
      refine lv_bipush (v := (-101)) hx hb dX8_differ_25 (by decide +kernel) ?_
      exact W.iret (v := (-101)) hx hb hr (fun t ht hW => ⟨(-101), rfl, (by show (-101) = mDiffer g k6 p q; first | (simp only [mDiffer, if_pos c_1, if_neg c_2]; done) | (simp only [mDiffer, if_pos c_1, if_neg c_2]; rfl) | rfl | (simp [mDiffer, if_pos c_1, if_neg c_2]; done)), ht⟩) (fun _ h => by cases h) dX8_differ_27
    · skip
      have c_2 := b2i_1 c_2
      refine lv_aload_n hx hb dX8_differ_16 rfl (lv_at hl 0 rfl) ?_
      refine lv_iload_n hx hb dX8_differ_17 rfl (lv_at hl 1 rfl) ?_
      refine tv (ix_int (by omega)) ?_
      refine lv_iload_n hx hb dX8_differ_18 rfl (lv_at hl 2 rfl) ?_
      refine tv (ix_int (by omega)) ?_
      refine vp_callSi (va_Run.run (va_runV (As := [.int (nI (p.toInt.toNat)), .int (nI (q.toInt.toNat))]) (rest := []) ⟨hx, hb, hml, hown, hts⟩ (c8_differOf l dC dI cI a o (f) (g) (h)   (p.toInt.toNat) (q.toInt.toNat) (by omega) (by omega)) (cwV 2 hts gX8_differ_X8_differOf rfl rfl rfl (by decide +kernel) ⟨Nat.le_of_ble_eq_true rfl, Nat.le_of_ble_eq_true rfl⟩) ⟨fun a U g mk q => ⟨q.1, q.2.1, va_K.moved (u := U) (U := U.calling g mk a) (Vm.Alike.refl U.vm) q.2.2⟩, va_recv hK hP (ci := 8) (q0 := 0) rfl rfl, fun U hU hW => ⟨rfl, by rw [hU]; exact hP, va_K.moved hW.alike hK⟩⟩ rfl rfl hl.1 rfl (lv_room (Nat.le_of_ble_eq_true rfl)) dX8_differ_19 ⟨Nat.le_of_ble_eq_true rfl, Nat.le_of_ble_eq_true rfl⟩)) (fun r hrc => ?_)
      have hrc : r = mDo (g) (p.toInt.toNat) (q.toInt.toNat) := hrc
      subst hrc
      refine lv_goto (tgt := 27) hx hb dX8_differ_22 (by decide) ?_
      exact W.iret (v := mDo (g) (p.toInt.toNat) (q.toInt.toNat)) hx hb hr (fun t ht hW => ⟨mDo (g) (p.toInt.toNat) (q.toInt.toNat), rfl, (by show mDo (g) (p.toInt.toNat) (q.toInt.toNat) = mDiffer g k6 p q; first | (simp only [mDiffer, if_pos c_1, if_pos c_2]; done) | (simp only [mDiffer, if_pos c_1, if_pos c_2]; rfl) | rfl | (simp [mDiffer, if_pos c_1, if_pos c_2]; done)), ht⟩) (fun _ h => by cases h) dX8_differ_27

set_option maxHeartbeats 1200000 in
set_option maxRecDepth 100000 in
theorem c8_alikeOf (l : Launch) (dC : Nat → ClassId) (dI : Nat → Nat → Nat) (cI : ClassId) (a : Nat) (o : Nat → Nat) (f : Nat → Int32) (g : Nat → Nat → Int32) (h : Int64) (p q : Nat) (hp : p < 4) (hq : q < 4) : Met l yX8_alikeOf wsX8_alikeOf ({ frames := 2, cells := 0, slots := 0, locals := 47 } : Room) (va_Pc [.ref (a), .int (nI (p)), .int (nI (q))] (fun U => va_P (dC, dI) vwCl (mW cI a o f g h) U.heap ∧ va_K (dC, dI) vwCl [(cI, .int)] U)) (vp_Si (fun r => r = mAo g p q)) 0 0 (fun _ => False) := by
  refine Met.ofW (cc := cX8_alikeOf) (maxL := 5) (ret := (some .int)) (by decide) rfl ?_
  intro p_ e_ s m args below meth c_0 s₁ B hml hv
  obtain ⟨rfl, hP, hK⟩ := hv
  have hx := B.exec
  have hb := B.bytes
  have hr := B.returns
  have hts := atoms_spec (ws := wsX8_alikeOf) B.pre
  have hown : s.vm.findClass RX8 = some m.cls := findClass_of_methodNamed B.named
  have hlocks := B.notSynchronized
  have hP : va_P (dC, dI) vwCl (mW cI a o f g h) s.heap := hP
  have hl := lv_entry ([.ref (a), .int (nI (p)), .int (nI (q))]) (n := 5) (Nat.le_of_ble_eq_true rfl)
  rw [lg_entry_eq]
  generalize (lg_sl ([.ref (a), .int (nI (p)), .int (nI (q))]) ++ List.replicate (5 - (lg_sl ([.ref (a), .int (nI (p)), .int (nI (q))])).length) Slot.unset).toArray = ls at hl ⊢
  have hl : lv_has ls 5 [(0, .ref (a)), (1, .int (nI (p))), (2, .int (nI (q)))] := hl
  refine lv_iconst (v := nI (0)) hx hb dX8_alikeOf_0 (by decide +kernel) ?_
  refine lv_istore_n (lv' := [(3, .int (nI (0))), (0, .ref (a)), (1, .int (nI (p))), (2, .int (nI (q)))]) hx hb dX8_alikeOf_1 rfl hl (by decide) rfl (fun ls hl => ?_)
  refine lv_iconst (v := nI (0)) hx hb dX8_alikeOf_2 (by decide +kernel) ?_
  refine lv_istore (lv' := [(4, .int (nI (0))), (3, .int (nI (0))), (0, .ref (a)), (1, .int (nI (p))), (2, .int (nI (q)))]) hx hb dX8_alikeOf_3 hl (by decide) rfl (fun ls hl => ?_)
  have e0_3 : (nI (0)) = sm (fun j => if mS g p (nI j) = mS g q (nI j) then 1 else 0) 0 := rfl
  refine lp_ro (fun k : Nat => 8 - k) (fun k : Nat => k ≤ 8) (fun k : Nat => [(0, .ref (a)), (1, .int (nI (p))), (2, .int (nI (q))), (3, .int (sm (fun j => if mS g p (nI j) = mS g q (nI j) then 1 else 0) k)), (4, .int (nI (k)))]) (0) (by omega) (by show lv_has ls 5 [(0, .ref (a)), (1, .int (nI (p))), (2, .int (nI (q))), (3, .int (sm (fun j => if mS g p (nI j) = mS g q (nI j) then 1 else 0) 0)), (4, .int (nI (0)))]; rw [← e0_3]; exact lv_sub hl [2, 3, 4, 1, 0] rfl) (fun k hI ih_5 ls hl => ?_)
  have hI : k ≤ 8 := hI
  have hl : lv_has ls 5 [(0, .ref (a)), (1, .int (nI (p))), (2, .int (nI (q))), (3, .int (sm (fun j => if mS g p (nI j) = mS g q (nI j) then 1 else 0) k)), (4, .int (nI (k)))] := hl
  refine lv_iload hx hb dX8_alikeOf_5 (lv_at hl 4 rfl) ?_
  refine lv_bipush (v := nI (8)) hx hb dX8_alikeOf_7 (by decide +kernel) ?_
  refine lv_icmp_ge (tgt := 43) hx hb dX8_alikeOf_9 (by decide) (fun c_1 => ?_) (fun c_1 => ?_)
  · skip
    rw [nI_leI (a := 8) (b := k) (by omega) (by omega)] at c_1
    have hE : 8 = k := by omega
    subst hE
    refine lv_iload_n hx hb dX8_alikeOf_43 rfl (lv_at hl 3 rfl) ?_
    exact W.iret (v := sm (fun j => if mS g p (nI j) = mS g q (nI j) then 1 else 0) 8) hx hb hr (fun t ht hW => ⟨sm (fun j => if mS g p (nI j) = mS g q (nI j) then 1 else 0) 8, rfl, (by show sm (fun j => if mS g p (nI j) = mS g q (nI j) then 1 else 0) 8 = mAo g p q; rfl), ht⟩) (fun _ h => by cases h) dX8_alikeOf_44
  · skip
    rw [nI_leI (a := 8) (b := k) (by omega) (by omega)] at c_1
    refine lv_iload_n hx hb dX8_alikeOf_12 rfl (lv_at hl 3 rfl) ?_
    refine lv_aload_n hx hb dX8_alikeOf_13 rfl (lv_at hl 0 rfl) ?_
    refine lv_iload_n hx hb dX8_alikeOf_14 rfl (lv_at hl 1 rfl) ?_
    refine lv_iload hx hb dX8_alikeOf_15 (lv_at hl 4 rfl) ?_
    refine vp_callSi (va_Run.run (va_runV (As := [.int (nI (p)), .int (nI (k))]) (rest := [.int (sm (fun j => if mS g p (nI j) = mS g q (nI j) then 1 else 0) k)]) ⟨hx, hb, hml, hown, hts⟩ (c8_seesOf l dC dI cI a o (f) (g) (h)  (nI (k)) (p) (by omega)) (cwV 2 hts gX8_alikeOf_X8_seesOf rfl rfl rfl (by decide +kernel) ⟨Nat.le_of_ble_eq_true rfl, Nat.le_of_ble_eq_true rfl⟩) ⟨fun a U g mk q => ⟨q.1, q.2.1, va_K.moved (u := U) (U := U.calling g mk a) (Vm.Alike.refl U.vm) q.2.2⟩, va_recv hK hP (ci := 8) (q0 := 0) rfl rfl, fun U hU hW => ⟨rfl, by rw [hU]; exact hP, va_K.moved hW.alike hK⟩⟩ rfl rfl hl.1 rfl (lv_room (Nat.le_of_ble_eq_true rfl)) dX8_alikeOf_17 ⟨Nat.le_of_ble_eq_true rfl, Nat.le_of_ble_eq_true rfl⟩)) (fun r hrc => ?_)
    have hrc : r = mS (g) (p) (nI (k)) := hrc
    subst hrc
    refine lv_aload_n hx hb dX8_alikeOf_20 rfl (lv_at hl 0 rfl) ?_
    refine lv_iload_n hx hb dX8_alikeOf_21 rfl (lv_at hl 2 rfl) ?_
    refine lv_iload hx hb dX8_alikeOf_22 (lv_at hl 4 rfl) ?_
    refine vp_callSi (va_Run.run (va_runV (As := [.int (nI (q)), .int (nI (k))]) (rest := [.int (mS (g) (p) (nI (k))), .int (sm (fun j => if mS g p (nI j) = mS g q (nI j) then 1 else 0) k)]) ⟨hx, hb, hml, hown, hts⟩ (c8_seesOf l dC dI cI a o (f) (g) (h)  (nI (k)) (q) (by omega)) (cwV 2 hts gX8_alikeOf_X8_seesOf rfl rfl rfl (by decide +kernel) ⟨Nat.le_of_ble_eq_true rfl, Nat.le_of_ble_eq_true rfl⟩) ⟨fun a U g mk q => ⟨q.1, q.2.1, va_K.moved (u := U) (U := U.calling g mk a) (Vm.Alike.refl U.vm) q.2.2⟩, va_recv hK hP (ci := 8) (q0 := 0) rfl rfl, fun U hU hW => ⟨rfl, by rw [hU]; exact hP, va_K.moved hW.alike hK⟩⟩ rfl rfl hl.1 rfl (lv_room (Nat.le_of_ble_eq_true rfl)) dX8_alikeOf_24 ⟨Nat.le_of_ble_eq_true rfl, Nat.le_of_ble_eq_true rfl⟩)) (fun r hrc => ?_)
    have hrc : r = mS (g) (q) (nI (k)) := hrc
    subst hrc
    refine lv_icmp_ne (tgt := 34) hx hb dX8_alikeOf_27 (by decide) (fun c_2 => ?_) (fun c_2 => ?_)
    · skip
      refine lv_iconst (v := nI (0)) hx hb dX8_alikeOf_34 (by decide +kernel) ?_
      refine lv_iadd hx hb dX8_alikeOf_35 ?_
      refine lv_istore_n (lv' := [(3, .int ((sm (fun j => if mS g p (nI j) = mS g q (nI j) then 1 else 0) k) + (nI (0)))), (0, .ref (a)), (1, .int (nI (p))), (2, .int (nI (q))), (4, .int (nI (k)))]) hx hb dX8_alikeOf_36 rfl hl (by decide) rfl (fun ls hl => ?_)
      refine lv_iinc (v := nI (k + 1)) (lv' := [(4, .int (nI (k + 1))), (3, .int ((sm (fun j => if mS g p (nI j) = mS g q (nI j) then 1 else 0) k) + (nI (0)))), (0, .ref (a)), (1, .int (nI (p))), (2, .int (nI (q)))]) hx hb dX8_alikeOf_37 hl (k := 4) rfl (nI_1 _) (by decide) rfl (fun ls hl => ?_)
      refine lv_goto (tgt := 5) hx hb dX8_alikeOf_40 (by decide) ?_
      have e1_3 : ((sm (fun j => if mS g p (nI j) = mS g q (nI j) then 1 else 0) k) + (nI (0))) = sm (fun j => if mS g p (nI j) = mS g q (nI j) then 1 else 0) (k + 1) := by first | rfl | (simp only [sm, alB, if_neg c_1, if_neg c_2]; done) | (simp only [sm, alB, if_neg c_1, if_neg c_2]; rfl) | (simp [sm, alB, if_neg c_1, if_neg c_2]; done)
      exact ih_5 (k + 1) ls (by show _ < _; omega) (by show _; omega) (by show lv_has ls 5 [(0, .ref (a)), (1, .int (nI (p))), (2, .int (nI (q))), (3, .int (sm (fun j => if mS g p (nI j) = mS g q (nI j) then 1 else 0) (k + 1))), (4, .int (nI ((k + 1))))]; rw [← e1_3]; exact lv_sub hl [2, 3, 4, 1, 0] rfl)
    · skip
      refine lv_iconst (v := nI (1)) hx hb dX8_alikeOf_30 (by decide +kernel) ?_
      refine lv_goto (tgt := 35) hx hb dX8_alikeOf_31 (by decide) ?_
      refine lv_iadd hx hb dX8_alikeOf_35 ?_
      refine lv_istore_n (lv' := [(3, .int ((sm (fun j => if mS g p (nI j) = mS g q (nI j) then 1 else 0) k) + (nI (1)))), (0, .ref (a)), (1, .int (nI (p))), (2, .int (nI (q))), (4, .int (nI (k)))]) hx hb dX8_alikeOf_36 rfl hl (by decide) rfl (fun ls hl => ?_)
      refine lv_iinc (v := nI (k + 1)) (lv' := [(4, .int (nI (k + 1))), (3, .int ((sm (fun j => if mS g p (nI j) = mS g q (nI j) then 1 else 0) k) + (nI (1)))), (0, .ref (a)), (1, .int (nI (p))), (2, .int (nI (q)))]) hx hb dX8_alikeOf_37 hl (k := 4) rfl (nI_1 _) (by decide) rfl (fun ls hl => ?_)
      refine lv_goto (tgt := 5) hx hb dX8_alikeOf_40 (by decide) ?_
      have e1_3 : ((sm (fun j => if mS g p (nI j) = mS g q (nI j) then 1 else 0) k) + (nI (1))) = sm (fun j => if mS g p (nI j) = mS g q (nI j) then 1 else 0) (k + 1) := by first | rfl | (simp only [sm, alB, if_neg c_1, if_pos c_2]; done) | (simp only [sm, alB, if_neg c_1, if_pos c_2]; rfl) | (simp [sm, alB, if_neg c_1, if_pos c_2]; done)
      exact ih_5 (k + 1) ls (by show _ < _; omega) (by show _; omega) (by show lv_has ls 5 [(0, .ref (a)), (1, .int (nI (p))), (2, .int (nI (q))), (3, .int (sm (fun j => if mS g p (nI j) = mS g q (nI j) then 1 else 0) (k + 1))), (4, .int (nI ((k + 1))))]; rw [← e1_3]; exact lv_sub hl [2, 3, 4, 1, 0] rfl)

set_option maxHeartbeats 1200000 in
set_option maxRecDepth 100000 in
theorem c8_alike (l : Launch) (dC : Nat → ClassId) (dI : Nat → Nat → Nat) (cI : ClassId) (a : Nat) (o : Nat → Nat) (f : Nat → Int32) (g : Nat → Nat → Int32) (h : Int64) {k6 : Nat} (e6 : f 6 = nI k6) (b6 : k6 ≤ 4) (p : Int32) (q : Int32) : Met l yX8_alike wsX8_alike ({ frames := 3, cells := 0, slots := 0, locals := 71 } : Room) (va_Pc [.ref (a), .int (p), .int (q)] (fun U => va_P (dC, dI) vwCl (mW cI a o f g h) U.heap ∧ va_K (dC, dI) vwCl [(cI, .int)] U)) (vp_Si (fun r => r = mAlike g k6 p q)) 0 0 (fun _ => False) := by
  refine Met.ofW (cc := cX8_alike) (maxL := 3) (ret := (some .int)) (by decide) rfl ?_
  intro p_ e_ s m args below meth c_0 s₁ B hml hv
  obtain ⟨rfl, hP, hK⟩ := hv
  have hx := B.exec
  have hb := B.bytes
  have hr := B.returns
  have hts := atoms_spec (ws := wsX8_alike) B.pre
  have hown : s.vm.findClass RX8 = some m.cls := findClass_of_methodNamed B.named
  have hlocks := B.notSynchronized
  have hP : va_P (dC, dI) vwCl (mW cI a o f g h) s.heap := hP
  have hl := lv_entry ([.ref (a), .int (p), .int (q)]) (n := 3) (Nat.le_of_ble_eq_true rfl)
  rw [lg_entry_eq]
  generalize (lg_sl ([.ref (a), .int (p), .int (q)]) ++ List.replicate (3 - (lg_sl ([.ref (a), .int (p), .int (q)])).length) Slot.unset).toArray = ls at hl ⊢
  have hl : lv_has ls 3 [(0, .ref (a)), (1, .int (p)), (2, .int (q))] := hl
  refine lv_aload_n hx hb dX8_alike_0 rfl (lv_at hl 0 rfl) ?_
  refine lv_iload_n hx hb dX8_alike_1 rfl (lv_at hl 1 rfl) ?_
  refine vp_callSi (va_Run.run (va_runV (As := [.int (p)]) (rest := []) ⟨hx, hb, hml, hown, hts⟩ (c8_isPerson l dC dI cI a o (f) (g) (h) e6 (by omega) (p) ) (cwV 1 hts gX8_alike_X8_isPerson rfl rfl rfl (by decide +kernel) ⟨Nat.le_of_ble_eq_true rfl, Nat.le_of_ble_eq_true rfl⟩) ⟨fun a U g mk q => ⟨q.1, q.2.1, va_K.moved (u := U) (U := U.calling g mk a) (Vm.Alike.refl U.vm) q.2.2⟩, va_recv hK hP (ci := 8) (q0 := 0) rfl rfl, fun U hU hW => ⟨rfl, by rw [hU]; exact hP, va_K.moved hW.alike hK⟩⟩ rfl rfl hl.1 rfl (lv_room (Nat.le_of_ble_eq_true rfl)) dX8_alike_2 ⟨Nat.le_of_ble_eq_true rfl, Nat.le_of_ble_eq_true rfl⟩)) (fun r hrc => ?_)
  have hrc : r = b2i (0 ≤ (p).toInt ∧ (p).toInt ≤ (k6 : Int) - 1) := hrc
  subst hrc
  refine lv_if_eq (tgt := 25) hx hb dX8_alike_5 (by decide) (fun c_1 => ?_) (fun c_1 => ?_)
  · skip
    have c_1 := b2i_0 c_1
    refine lv_bipush (v := (-101)) hx hb dX8_alike_25 (by decide +kernel) ?_
    exact W.iret (v := (-101)) hx hb hr (fun t ht hW => ⟨(-101), rfl, (by show (-101) = mAlike g k6 p q; first | (simp only [mAlike, if_neg c_1]; done) | (simp only [mAlike, if_neg c_1]; rfl) | rfl | (simp [mAlike, if_neg c_1]; done)), ht⟩) (fun _ h => by cases h) dX8_alike_27
  · skip
    have c_1 := b2i_1 c_1
    refine lv_aload_n hx hb dX8_alike_8 rfl (lv_at hl 0 rfl) ?_
    refine lv_iload_n hx hb dX8_alike_9 rfl (lv_at hl 2 rfl) ?_
    refine vp_callSi (va_Run.run (va_runV (As := [.int (q)]) (rest := []) ⟨hx, hb, hml, hown, hts⟩ (c8_isPerson l dC dI cI a o (f) (g) (h) e6 (by omega) (q) ) (cwV 1 hts gX8_alike_X8_isPerson rfl rfl rfl (by decide +kernel) ⟨Nat.le_of_ble_eq_true rfl, Nat.le_of_ble_eq_true rfl⟩) ⟨fun a U g mk q => ⟨q.1, q.2.1, va_K.moved (u := U) (U := U.calling g mk a) (Vm.Alike.refl U.vm) q.2.2⟩, va_recv hK hP (ci := 8) (q0 := 0) rfl rfl, fun U hU hW => ⟨rfl, by rw [hU]; exact hP, va_K.moved hW.alike hK⟩⟩ rfl rfl hl.1 rfl (lv_room (Nat.le_of_ble_eq_true rfl)) dX8_alike_10 ⟨Nat.le_of_ble_eq_true rfl, Nat.le_of_ble_eq_true rfl⟩)) (fun r hrc => ?_)
    have hrc : r = b2i (0 ≤ (q).toInt ∧ (q).toInt ≤ (k6 : Int) - 1) := hrc
    subst hrc
    refine lv_if_eq (tgt := 25) hx hb dX8_alike_13 (by decide) (fun c_2 => ?_) (fun c_2 => ?_)
    · skip
      have c_2 := b2i_0 c_2
      refine lv_bipush (v := (-101)) hx hb dX8_alike_25 (by decide +kernel) ?_
      exact W.iret (v := (-101)) hx hb hr (fun t ht hW => ⟨(-101), rfl, (by show (-101) = mAlike g k6 p q; first | (simp only [mAlike, if_pos c_1, if_neg c_2]; done) | (simp only [mAlike, if_pos c_1, if_neg c_2]; rfl) | rfl | (simp [mAlike, if_pos c_1, if_neg c_2]; done)), ht⟩) (fun _ h => by cases h) dX8_alike_27
    · skip
      have c_2 := b2i_1 c_2
      refine lv_aload_n hx hb dX8_alike_16 rfl (lv_at hl 0 rfl) ?_
      refine lv_iload_n hx hb dX8_alike_17 rfl (lv_at hl 1 rfl) ?_
      refine tv (ix_int (by omega)) ?_
      refine lv_iload_n hx hb dX8_alike_18 rfl (lv_at hl 2 rfl) ?_
      refine tv (ix_int (by omega)) ?_
      refine vp_callSi (va_Run.run (va_runV (As := [.int (nI (p.toInt.toNat)), .int (nI (q.toInt.toNat))]) (rest := []) ⟨hx, hb, hml, hown, hts⟩ (c8_alikeOf l dC dI cI a o (f) (g) (h)   (p.toInt.toNat) (q.toInt.toNat) (by omega) (by omega)) (cwV 2 hts gX8_alike_X8_alikeOf rfl rfl rfl (by decide +kernel) ⟨Nat.le_of_ble_eq_true rfl, Nat.le_of_ble_eq_true rfl⟩) ⟨fun a U g mk q => ⟨q.1, q.2.1, va_K.moved (u := U) (U := U.calling g mk a) (Vm.Alike.refl U.vm) q.2.2⟩, va_recv hK hP (ci := 8) (q0 := 0) rfl rfl, fun U hU hW => ⟨rfl, by rw [hU]; exact hP, va_K.moved hW.alike hK⟩⟩ rfl rfl hl.1 rfl (lv_room (Nat.le_of_ble_eq_true rfl)) dX8_alike_19 ⟨Nat.le_of_ble_eq_true rfl, Nat.le_of_ble_eq_true rfl⟩)) (fun r hrc => ?_)
      have hrc : r = mAo (g) (p.toInt.toNat) (q.toInt.toNat) := hrc
      subst hrc
      refine lv_goto (tgt := 27) hx hb dX8_alike_22 (by decide) ?_
      exact W.iret (v := mAo (g) (p.toInt.toNat) (q.toInt.toNat)) hx hb hr (fun t ht hW => ⟨mAo (g) (p.toInt.toNat) (q.toInt.toNat), rfl, (by show mAo (g) (p.toInt.toNat) (q.toInt.toNat) = mAlike g k6 p q; first | (simp only [mAlike, if_pos c_1, if_pos c_2]; done) | (simp only [mAlike, if_pos c_1, if_pos c_2]; rfl) | rfl | (simp [mAlike, if_pos c_1, if_pos c_2]; done)), ht⟩) (fun _ h => by cases h) dX8_alike_27
end
