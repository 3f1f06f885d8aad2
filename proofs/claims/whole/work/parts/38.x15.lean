theorem cls_int {D : va_G} {cl : List vw_C} {t1 t2 : List (ClassId × FieldType)} {U : State} {c1 c2 : ClassId} (h1 : va_K D cl t1 U) (h2 : va_K D cl t2 U) (i j : Nat) (hi : t1[i]? = some (c1, .int)) (hj : t2[j]? = some (c2, .int)) : c1 = c2 := Option.some.inj ((h1.2 i _ hi).2.symm.trans (h2.2 j _ hj).2)
theorem cls_obj {D : va_G} {cl : List vw_C} {t1 t2 : List (ClassId × FieldType)} {U : State} {c1 c2 : ClassId} {C : String} (h1 : va_K D cl t1 U) (h2 : va_K D cl t2 U) (i j : Nat) (hi : t1[i]? = some (c1, .object C)) (hj : t2[j]? = some (c2, .object C)) : c1 = c2 := by
  obtain ⟨_, _, _, _, _, e1⟩ := (h1.2 i _ hi).2
  obtain ⟨_, _, _, _, _, e2⟩ := (h2.2 j _ hj).2
  exact Option.some.inj (e1.symm.trans e2)
/-- an array's row may be told otherwise behind its length -/
theorem va_P_rowq {D : va_G} {cl : List vw_C} {ws : va_W} {H : Heap} (hP : va_P D cl ws H) (q0 : Nat) {b : Nat} {cP : ClassId} {n : Nat} {f f' : Nat → Option Nat} (he : ws[q0]? = some (b, .inl (cP, n, .inr (.inr (.inr (.inr f)))))) (h : ∀ j, j < n → f j = f' j) : va_P D cl (ws.set q0 (b, .inl (cP, n, .inr (.inr (.inr (.inr f')))))) H := by
  intro k q hk
  by_cases hkq : q0 = k
  · subst hkq
    have hl : q0 < ws.length := (List.getElem?_eq_some_iff.mp he).1
    rw [List.getElem?_set_self hl] at hk
    cases hk
    exact vw_rowq h (hP _ _ he)
  · rw [List.getElem?_set_ne hkq] at hk
    exact hP k q hk
def xf0 : Nat → Int32 := su (su (fun _ => 0) 6 (-1)) 12 (-1)
def xg0 : Nat → Nat → Int32 := fun _ _ => 0
def xt0 : Nat → Nat → Int32 := fun _ => xIni (fun _ => 0)
def mf0 : Nat → Int32 := su (fun _ => 0) 15 (-1)
set_option maxHeartbeats 2400000 in
set_option maxRecDepth 100000 in
theorem c3_init (l : Launch) (dC : Nat → ClassId) (dI : Nat → Nat → Nat) (a : Nat) (sz : Nat) : Met l yX3_init wsX3_init ({ frames := 1, cells := 1, slots := 10, locals := 20 } : Room) (va_Pc [.ref (a)] (fun U => U.heap.size = sz ∧ va_P (dC, dI) vwCl ([(a, .inr (3, [.null, .int 0]))]) U.heap ∧ va_K (dC, dI) vwCl [] U ∧ va_D (fun _ => True) ([(a, .inr (3, [.null, .int 0]))]))) (va_Qv (fun (_ : ClassId × Nat) => True) (fun u t => va_P (dC, dI) vwCl ([(a, .inr (3, [.ref u.2, .int 0])), (u.2, .inl (u.1, 10, .inl (fun _ => 0)))]) t.heap ∧ va_K (dC, dI) vwCl [(u.1, .int)] t ∧ va_D (va_A ([(a, .inr (3, [.null, .int 0]))]) sz) ([(a, .inr (3, [.ref u.2, .int 0])), (u.2, .inl (u.1, 10, .inl (fun _ => 0)))])) (va_A ([(a, .inr (3, [.null, .int 0]))]) sz)) 1 10 (va_A ([(a, .inr (3, [.null, .int 0]))]) sz) := by
  refine Met.ofW (cc := cX3_init) (maxL := 1) (ret := none) (by decide) rfl ?_
  intro p_ e_ s m args below meth c_0 s₁ B hml hv
  obtain ⟨rfl, hsz, hP, hK, hD0⟩ := hv
  have hx := B.exec
  have hb := B.bytes
  have hr := B.returns
  have hts := atoms_spec (ws := wsX3_init) B.pre
  have hown : s.vm.findClass RX3 = some m.cls := findClass_of_methodNamed B.named
  have hlocks := B.notSynchronized
  have hInit9 : meth.name = "<init>" := (name_of_methodNamed B.named B.method).1
  subst hsz
  have hD := hD0.self (sz := s.heap.size)
  generalize hAe : va_A ([(a, .inr (3, [.null, .int 0]))]) s.heap.size = A at hD ⊢
  have hA : ∀ q : Nat, s.heap.size ≤ q → A q := fun q h => by rw [← hAe]; exact Or.inr h
  obtain ⟨H, hHe⟩ : ∃ H : Heap, H = s.heap := ⟨_, rfl⟩
  have hS : va_S A s.heap H [] := by rw [hHe]; exact va_S.rf
  rw [← hHe] at hP ⊢
  have hP : va_P (dC, dI) vwCl ([(a, .inr (3, [.null, .int 0]))]) H := hP
  have hl := lv_entry ([.ref (a)]) (n := 1) (Nat.le_of_ble_eq_true rfl)
  rw [lg_entry_eq]
  generalize (lg_sl ([.ref (a)]) ++ List.replicate (1 - (lg_sl ([.ref (a)])).length) Slot.unset).toArray = ls at hl ⊢
  have hl : lv_has ls 1 [(0, .ref (a))] := hl
  have hin3 : ∀ w ∈ wsX30, w ∈ wsX3_init := fun _ h => List.mem_cons_of_mem _ (List.mem_append_right _ h)
  have hW0 := hts (.methodLink RX3 3 objectInit) (by decide +kernel)
  have hW1 := hts (.instanceMethod objectInit) (by decide +kernel)
  have hW2 := hts (.code objectInit ⟨#[0xb1]⟩ 1 none) (by decide +kernel)
  have hW3 := hts (.arrayClass .int) (by decide +kernel)
  have hW4 := hts (.fieldLink RX3 9 "EachEye$Page" "codes" "[I") (by decide +kernel)
  refine lv_aload_n hx hb dX3_init_0 rfl (lv_at hl 0 rfl) ?_
  refine W.objInit hx hb hown hW0 hW1 hW2 rfl (by rw [hml]; exact hl.1) rfl dX3_init_1 (Nat.le_of_ble_eq_true rfl) (Nat.le_of_ble_eq_true rfl) ?_
  refine W.eq (g2 := F0 m 4 ls []) rfl ?_
  refine lv_aload_n hx hb dX3_init_4 rfl (lv_at hl 0 rfl) ?_
  refine lv_bipush (v := nI (10)) hx hb dX3_init_5 (by decide +kernel) ?_
  refine va_newa (atype := .int) (a0 := (10, .inl (fun _ => 0))) (N' := 10) hx hb hW3 rfl hK hP hD hS hA (fun cA => rfl) (by decide +kernel) (nI_clamp (by decide)) (Nat.le_of_ble_eq_true rfl) (Nat.le_of_ble_eq_true rfl) (Nat.le_of_ble_eq_true rfl) dX3_init_7 (fun q1 cI H hK hP hD hS => ?_)
  have hK : va_K (dC, dI) vwCl [(cI, .int)] s := hK
  have hP : va_P (dC, dI) vwCl ([(a, .inr (3, [.null, .int 0])), (q1, .inl (cI, 10, .inl (fun _ => 0)))]) H := hP
  have hD : va_D A ([(a, .inr (3, [.null, .int 0])), (q1, .inl (cI, 10, .inl (fun _ => 0)))]) := hD
  refine va_putF (D := (dC, dI)) (ci := 3) (v := .ref (q1)) (ty := .array .int) (C := RX3) (T := TX3) (N := 2) hx hb hts hin3 tyX3 tyX3_ok nmX3 hown hK hP hD hS 0 rfl rfl 0 (by decide) hW4 (fun _ h9 => h9) rfl hInit9 rfl (by decide +kernel) rfl rfl (Nat.le_of_ble_eq_true rfl) dX3_init_9 (fun H locs hP hD hS => ?_)
  have hP : va_P (dC, dI) vwCl ([(a, .inr (3, [.ref (q1), .int 0])), (q1, .inl (cI, 10, .inl (fun _ => 0)))]) H := hP
  have hD : va_D A ([(a, .inr (3, [.ref (q1), .int 0])), (q1, .inl (cI, 10, .inl (fun _ => 0)))]) := hD
  exact W.vret hx hb hr (fun t ht hW => ⟨⟨(cI, q1), rfl, trivial, by rw [ht]; exact hP, va_K.moved hW.alike hK, hD⟩, hS.F ht⟩) hS.2.2 dX3_init_12

set_option maxHeartbeats 2400000 in
set_option maxRecDepth 100000 in
theorem c1_init (l : Launch) (dC : Nat → ClassId) (dI : Nat → Nat → Nat) (a : Nat) (sz : Nat) : Met l yX1_init wsX1_init ({ frames := 1, cells := 4, slots := 32, locals := 20 } : Room) (va_Pc [.ref (a)] (fun U => U.heap.size = sz ∧ va_P (dC, dI) vwCl ([(a, .inr (1, [.null, .null, .null, .null, .int 0, .int 0]))]) U.heap ∧ va_K (dC, dI) vwCl [] U ∧ va_D (fun _ => True) ([(a, .inr (1, [.null, .null, .null, .null, .int 0, .int 0]))]))) (va_Qv (fun (_ : ClassId × Nat × Nat × Nat × Nat) => True) (fun u t => va_P (dC, dI) vwCl ([(a, .inr (1, [.ref u.2.1, .ref u.2.2.1, .ref u.2.2.2.1, .ref u.2.2.2.2, .int 0, .int 0])), (u.2.1, .inl (u.1, 8, .inl (fun _ => 0))), (u.2.2.1, .inl (u.1, 8, .inl (fun _ => 0))), (u.2.2.2.1, .inl (u.1, 8, .inl (fun _ => 0))), (u.2.2.2.2, .inl (u.1, 8, .inl (fun _ => 0)))]) t.heap ∧ va_K (dC, dI) vwCl [(u.1, .int)] t ∧ va_D (va_A ([(a, .inr (1, [.null, .null, .null, .null, .int 0, .int 0]))]) sz) ([(a, .inr (1, [.ref u.2.1, .ref u.2.2.1, .ref u.2.2.2.1, .ref u.2.2.2.2, .int 0, .int 0])), (u.2.1, .inl (u.1, 8, .inl (fun _ => 0))), (u.2.2.1, .inl (u.1, 8, .inl (fun _ => 0))), (u.2.2.2.1, .inl (u.1, 8, .inl (fun _ => 0))), (u.2.2.2.2, .inl (u.1, 8, .inl (fun _ => 0)))])) (va_A ([(a, .inr (1, [.null, .null, .null, .null, .int 0, .int 0]))]) sz)) 4 32 (va_A ([(a, .inr (1, [.null, .null, .null, .null, .int 0, .int 0]))]) sz) := by
  refine Met.ofW (cc := cX1_init) (maxL := 1) (ret := none) (by decide) rfl ?_
  intro p_ e_ s m args below meth c_0 s₁ B hml hv
  obtain ⟨rfl, hsz, hP, hK, hD0⟩ := hv
  have hx := B.exec
  have hb := B.bytes
  have hr := B.returns
  have hts := atoms_spec (ws := wsX1_init) B.pre
  have hown : s.vm.findClass RX1 = some m.cls := findClass_of_methodNamed B.named
  have hlocks := B.notSynchronized
  have hInit9 : meth.name = "<init>" := (name_of_methodNamed B.named B.method).1
  subst hsz
  have hD := hD0.self (sz := s.heap.size)
  generalize hAe : va_A ([(a, .inr (1, [.null, .null, .null, .null, .int 0, .int 0]))]) s.heap.size = A at hD ⊢
  have hA : ∀ q : Nat, s.heap.size ≤ q → A q := fun q h => by rw [← hAe]; exact Or.inr h
  obtain ⟨H, hHe⟩ : ∃ H : Heap, H = s.heap := ⟨_, rfl⟩
  have hS : va_S A s.heap H [] := by rw [hHe]; exact va_S.rf
  rw [← hHe] at hP ⊢
  have hP : va_P (dC, dI) vwCl ([(a, .inr (1, [.null, .null, .null, .null, .int 0, .int 0]))]) H := hP
  have hl := lv_entry ([.ref (a)]) (n := 1) (Nat.le_of_ble_eq_true rfl)
  rw [lg_entry_eq]
  generalize (lg_sl ([.ref (a)]) ++ List.replicate (1 - (lg_sl ([.ref (a)])).length) Slot.unset).toArray = ls at hl ⊢
  have hl : lv_has ls 1 [(0, .ref (a))] := hl
  have hin1 : ∀ w ∈ wsX10, w ∈ wsX1_init := fun _ h => List.mem_cons_of_mem _ (List.mem_append_right _ h)
  have hW0 := hts (.methodLink RX1 3 objectInit) (by decide +kernel)
  have hW1 := hts (.instanceMethod objectInit) (by decide +kernel)
  have hW2 := hts (.code objectInit ⟨#[0xb1]⟩ 1 none) (by decide +kernel)
  have hW3 := hts (.arrayClass .int) (by decide +kernel)
  have hW4 := hts (.fieldLink RX1 9 "EachEye$Cards" "shown" "[I") (by decide +kernel)
  have hW5 := hts (.fieldLink RX1 15 "EachEye$Cards" "said" "[I") (by decide +kernel)
  have hW6 := hts (.fieldLink RX1 18 "EachEye$Cards" "keptShown" "[I") (by decide +kernel)
  have hW7 := hts (.fieldLink RX1 21 "EachEye$Cards" "keptSaid" "[I") (by decide +kernel)
  refine lv_aload_n hx hb dX1_init_0 rfl (lv_at hl 0 rfl) ?_
  refine W.objInit hx hb hown hW0 hW1 hW2 rfl (by rw [hml]; exact hl.1) rfl dX1_init_1 (Nat.le_of_ble_eq_true rfl) (Nat.le_of_ble_eq_true rfl) ?_
  refine W.eq (g2 := F0 m 4 ls []) rfl ?_
  refine lv_aload_n hx hb dX1_init_4 rfl (lv_at hl 0 rfl) ?_
  refine lv_bipush (v := nI (8)) hx hb dX1_init_5 (by decide +kernel) ?_
  refine va_newa (atype := .int) (a0 := (8, .inl (fun _ => 0))) (N' := 8) hx hb hW3 rfl hK hP hD hS hA (fun cA => rfl) (by decide +kernel) (nI_clamp (by decide)) (Nat.le_of_ble_eq_true rfl) (Nat.le_of_ble_eq_true rfl) (Nat.le_of_ble_eq_true rfl) dX1_init_7 (fun q1 cI H hK hP hD hS => ?_)
  have hK : va_K (dC, dI) vwCl [(cI, .int)] s := hK
  have hP : va_P (dC, dI) vwCl ([(a, .inr (1, [.null, .null, .null, .null, .int 0, .int 0])), (q1, .inl (cI, 8, .inl (fun _ => 0)))]) H := hP
  have hD : va_D A ([(a, .inr (1, [.null, .null, .null, .null, .int 0, .int 0])), (q1, .inl (cI, 8, .inl (fun _ => 0)))]) := hD
  refine va_putF (D := (dC, dI)) (ci := 1) (v := .ref (q1)) (ty := .array .int) (C := RX1) (T := TX1) (N := 6) hx hb hts hin1 tyX1 tyX1_ok nmX1 hown hK hP hD hS 0 rfl rfl 0 (by decide) hW4 (fun _ h9 => h9) rfl hInit9 rfl (by decide +kernel) rfl rfl (Nat.le_of_ble_eq_true rfl) dX1_init_9 (fun H locs hP hD hS => ?_)
  have hP : va_P (dC, dI) vwCl ([(a, .inr (1, [.ref (q1), .null, .null, .null, .int 0, .int 0])), (q1, .inl (cI, 8, .inl (fun _ => 0)))]) H := hP
  have hD : va_D A ([(a, .inr (1, [.ref (q1), .null, .null, .null, .int 0, .int 0])), (q1, .inl (cI, 8, .inl (fun _ => 0)))]) := hD
  refine lv_aload_n hx hb dX1_init_12 rfl (lv_at hl 0 rfl) ?_
  refine lv_bipush (v := nI (8)) hx hb dX1_init_13 (by decide +kernel) ?_
  refine va_newa (atype := .int) (a0 := (8, .inl (fun _ => 0))) (N' := 8) hx hb hW3 rfl hK hP hD hS hA (fun cA => rfl) (by decide +kernel) (nI_clamp (by decide)) (Nat.le_of_ble_eq_true rfl) (Nat.le_of_ble_eq_true rfl) (Nat.le_of_ble_eq_true rfl) dX1_init_15 (fun q2 cA H hK hP hD hS => ?_)
  have ecA : cA = cI := cls_int hK hK 1 0 rfl rfl
  subst ecA
  have hK : va_K (dC, dI) vwCl [(cA, .int)] s := hK.sub (tys' := [(cA, .int)]) [0] rfl
  generalize cA = cI at hK hP hD
  have hK : va_K (dC, dI) vwCl [(cI, .int)] s := hK
  have hP : va_P (dC, dI) vwCl ([(a, .inr (1, [.ref (q1), .null, .null, .null, .int 0, .int 0])), (q1, .inl (cI, 8, .inl (fun _ => 0))), (q2, .inl (cI, 8, .inl (fun _ => 0)))]) H := hP
  have hD : va_D A ([(a, .inr (1, [.ref (q1), .null, .null, .null, .int 0, .int 0])), (q1, .inl (cI, 8, .inl (fun _ => 0))), (q2, .inl (cI, 8, .inl (fun _ => 0)))]) := hD
  refine va_putF (D := (dC, dI)) (ci := 1) (v := .ref (q2)) (ty := .array .int) (C := RX1) (T := TX1) (N := 6) hx hb hts hin1 tyX1 tyX1_ok nmX1 hown hK hP hD hS 0 rfl rfl 1 (by decide) hW5 (fun _ h9 => h9) rfl hInit9 rfl (by decide +kernel) rfl rfl (Nat.le_of_ble_eq_true rfl) dX1_init_17 (fun H locs hP hD hS => ?_)
  have hP : va_P (dC, dI) vwCl ([(a, .inr (1, [.ref (q1), .ref (q2), .null, .null, .int 0, .int 0])), (q1, .inl (cI, 8, .inl (fun _ => 0))), (q2, .inl (cI, 8, .inl (fun _ => 0)))]) H := hP
  have hD : va_D A ([(a, .inr (1, [.ref (q1), .ref (q2), .null, .null, .int 0, .int 0])), (q1, .inl (cI, 8, .inl (fun _ => 0))), (q2, .inl (cI, 8, .inl (fun _ => 0)))]) := hD
  refine lv_aload_n hx hb dX1_init_20 rfl (lv_at hl 0 rfl) ?_
  refine lv_bipush (v := nI (8)) hx hb dX1_init_21 (by decide +kernel) ?_
  refine va_newa (atype := .int) (a0 := (8, .inl (fun _ => 0))) (N' := 8) hx hb hW3 rfl hK hP hD hS hA (fun cA => rfl) (by decide +kernel) (nI_clamp (by decide)) (Nat.le_of_ble_eq_true rfl) (Nat.le_of_ble_eq_true rfl) (Nat.le_of_ble_eq_true rfl) dX1_init_23 (fun q3 cA H hK hP hD hS => ?_)
  have ecA : cA = cI := cls_int hK hK 1 0 rfl rfl
  subst ecA
  have hK : va_K (dC, dI) vwCl [(cA, .int)] s := hK.sub (tys' := [(cA, .int)]) [0] rfl
  generalize cA = cI at hK hP hD
  have hK : va_K (dC, dI) vwCl [(cI, .int)] s := hK
  have hP : va_P (dC, dI) vwCl ([(a, .inr (1, [.ref (q1), .ref (q2), .null, .null, .int 0, .int 0])), (q1, .inl (cI, 8, .inl (fun _ => 0))), (q2, .inl (cI, 8, .inl (fun _ => 0))), (q3, .inl (cI, 8, .inl (fun _ => 0)))]) H := hP
  have hD : va_D A ([(a, .inr (1, [.ref (q1), .ref (q2), .null, .null, .int 0, .int 0])), (q1, .inl (cI, 8, .inl (fun _ => 0))), (q2, .inl (cI, 8, .inl (fun _ => 0))), (q3, .inl (cI, 8, .inl (fun _ => 0)))]) := hD
  refine va_putF (D := (dC, dI)) (ci := 1) (v := .ref (q3)) (ty := .array .int) (C := RX1) (T := TX1) (N := 6) hx hb hts hin1 tyX1 tyX1_ok nmX1 hown hK hP hD hS 0 rfl rfl 2 (by decide) hW6 (fun _ h9 => h9) rfl hInit9 rfl (by decide +kernel) rfl rfl (Nat.le_of_ble_eq_true rfl) dX1_init_25 (fun H locs hP hD hS => ?_)
  have hP : va_P (dC, dI) vwCl ([(a, .inr (1, [.ref (q1), .ref (q2), .ref (q3), .null, .int 0, .int 0])), (q1, .inl (cI, 8, .inl (fun _ => 0))), (q2, .inl (cI, 8, .inl (fun _ => 0))), (q3, .inl (cI, 8, .inl (fun _ => 0)))]) H := hP
  have hD : va_D A ([(a, .inr (1, [.ref (q1), .ref (q2), .ref (q3), .null, .int 0, .int 0])), (q1, .inl (cI, 8, .inl (fun _ => 0))), (q2, .inl (cI, 8, .inl (fun _ => 0))), (q3, .inl (cI, 8, .inl (fun _ => 0)))]) := hD
  refine lv_aload_n hx hb dX1_init_28 rfl (lv_at hl 0 rfl) ?_
  refine lv_bipush (v := nI (8)) hx hb dX1_init_29 (by decide +kernel) ?_
  refine va_newa (atype := .int) (a0 := (8, .inl (fun _ => 0))) (N' := 8) hx hb hW3 rfl hK hP hD hS hA (fun cA => rfl) (by decide +kernel) (nI_clamp (by decide)) (Nat.le_of_ble_eq_true rfl) (Nat.le_of_ble_eq_true rfl) (Nat.le_of_ble_eq_true rfl) dX1_init_31 (fun q4 cA H hK hP hD hS => ?_)
  have ecA : cA = cI := cls_int hK hK 1 0 rfl rfl
  subst ecA
  have hK : va_K (dC, dI) vwCl [(cA, .int)] s := hK.sub (tys' := [(cA, .int)]) [0] rfl
  generalize cA = cI at hK hP hD
  have hK : va_K (dC, dI) vwCl [(cI, .int)] s := hK
  have hP : va_P (dC, dI) vwCl ([(a, .inr (1, [.ref (q1), .ref (q2), .ref (q3), .null, .int 0, .int 0])), (q1, .inl (cI, 8, .inl (fun _ => 0))), (q2, .inl (cI, 8, .inl (fun _ => 0))), (q3, .inl (cI, 8, .inl (fun _ => 0))), (q4, .inl (cI, 8, .inl (fun _ => 0)))]) H := hP
  have hD : va_D A ([(a, .inr (1, [.ref (q1), .ref (q2), .ref (q3), .null, .int 0, .int 0])), (q1, .inl (cI, 8, .inl (fun _ => 0))), (q2, .inl (cI, 8, .inl (fun _ => 0))), (q3, .inl (cI, 8, .inl (fun _ => 0))), (q4, .inl (cI, 8, .inl (fun _ => 0)))]) := hD
  refine va_putF (D := (dC, dI)) (ci := 1) (v := .ref (q4)) (ty := .array .int) (C := RX1) (T := TX1) (N := 6) hx hb hts hin1 tyX1 tyX1_ok nmX1 hown hK hP hD hS 0 rfl rfl 3 (by decide) hW7 (fun _ h9 => h9) rfl hInit9 rfl (by decide +kernel) rfl rfl (Nat.le_of_ble_eq_true rfl) dX1_init_33 (fun H locs hP hD hS => ?_)
  have hP : va_P (dC, dI) vwCl ([(a, .inr (1, [.ref (q1), .ref (q2), .ref (q3), .ref (q4), .int 0, .int 0])), (q1, .inl (cI, 8, .inl (fun _ => 0))), (q2, .inl (cI, 8, .inl (fun _ => 0))), (q3, .inl (cI, 8, .inl (fun _ => 0))), (q4, .inl (cI, 8, .inl (fun _ => 0)))]) H := hP
  have hD : va_D A ([(a, .inr (1, [.ref (q1), .ref (q2), .ref (q3), .ref (q4), .int 0, .int 0])), (q1, .inl (cI, 8, .inl (fun _ => 0))), (q2, .inl (cI, 8, .inl (fun _ => 0))), (q3, .inl (cI, 8, .inl (fun _ => 0))), (q4, .inl (cI, 8, .inl (fun _ => 0)))]) := hD
  exact W.vret hx hb hr (fun t ht hW => ⟨⟨(cI, q1, q2, q3, q4), rfl, trivial, by rw [ht]; exact hP, va_K.moved hW.alike hK, hD⟩, hS.F ht⟩) hS.2.2 dX1_init_36

set_option maxHeartbeats 2400000 in
set_option maxRecDepth 100000 in
theorem c8_init (l : Launch) (dC : Nat → ClassId) (dI : Nat → Nat → Nat) (a : Nat) (sz : Nat) : Met l yX8_init wsX8_init ({ frames := 1, cells := 10, slots := 152, locals := 20 } : Room) (va_Pc [.ref (a)] (fun U => U.heap.size = sz ∧ va_P (dC, dI) vwCl ([(a, .inr (8, [.null, .int 0, .int 0, .int 0, .int 0, .null, .int 0, .int 0, .null, .null, .int 0, .int 0, .null, .null, .int 0, .int 0, .int 0, .int 0, .int 0, .int 0, .null, .null, .null, .null, .long 0]))]) U.heap ∧ va_K (dC, dI) vwCl [] U ∧ va_D (fun _ => True) ([(a, .inr (8, [.null, .int 0, .int 0, .int 0, .int 0, .null, .int 0, .int 0, .null, .null, .int 0, .int 0, .null, .null, .int 0, .int 0, .int 0, .int 0, .int 0, .int 0, .null, .null, .null, .null, .long 0]))]))) (va_Qv (fun (_ : ClassId × (Nat → Nat)) => True) (fun u t => va_P (dC, dI) vwCl (mW u.1 a u.2 mf0 (fun _ _ => 0) 0) t.heap ∧ va_K (dC, dI) vwCl [(u.1, .int)] t ∧ va_D (va_A ([(a, .inr (8, [.null, .int 0, .int 0, .int 0, .int 0, .null, .int 0, .int 0, .null, .null, .int 0, .int 0, .null, .null, .int 0, .int 0, .int 0, .int 0, .int 0, .int 0, .null, .null, .null, .null, .long 0]))]) sz) (mW u.1 a u.2 mf0 (fun _ _ => 0) 0)) (va_A ([(a, .inr (8, [.null, .int 0, .int 0, .int 0, .int 0, .null, .int 0, .int 0, .null, .null, .int 0, .int 0, .null, .null, .int 0, .int 0, .int 0, .int 0, .int 0, .int 0, .null, .null, .null, .null, .long 0]))]) sz)) 10 152 (va_A ([(a, .inr (8, [.null, .int 0, .int 0, .int 0, .int 0, .null, .int 0, .int 0, .null, .null, .int 0, .int 0, .null, .null, .int 0, .int 0, .int 0, .int 0, .int 0, .int 0, .null, .null, .null, .null, .long 0]))]) sz) := by
  refine Met.ofW (cc := cX8_init) (maxL := 1) (ret := none) (by decide) rfl ?_
  intro p_ e_ s m args below meth c_0 s₁ B hml hv
  obtain ⟨rfl, hsz, hP, hK, hD0⟩ := hv
  have hx := B.exec
  have hb := B.bytes
  have hr := B.returns
  have hts := atoms_spec (ws := wsX8_init) B.pre
  have hown : s.vm.findClass RX8 = some m.cls := findClass_of_methodNamed B.named
  have hlocks := B.notSynchronized
  have hInit9 : meth.name = "<init>" := (name_of_methodNamed B.named B.method).1
  subst hsz
  have hD := hD0.self (sz := s.heap.size)
  generalize hAe : va_A ([(a, .inr (8, [.null, .int 0, .int 0, .int 0, .int 0, .null, .int 0, .int 0, .null, .null, .int 0, .int 0, .null, .null, .int 0, .int 0, .int 0, .int 0, .int 0, .int 0, .null, .null, .null, .null, .long 0]))]) s.heap.size = A at hD ⊢
  have hA : ∀ q : Nat, s.heap.size ≤ q → A q := fun q h => by rw [← hAe]; exact Or.inr h
  obtain ⟨H, hHe⟩ : ∃ H : Heap, H = s.heap := ⟨_, rfl⟩
  have hS : va_S A s.heap H [] := by rw [hHe]; exact va_S.rf
  rw [← hHe] at hP ⊢
  have hP : va_P (dC, dI) vwCl ([(a, .inr (8, [.null, .int 0, .int 0, .int 0, .int 0, .null, .int 0, .int 0, .null, .null, .int 0, .int 0, .null, .null, .int 0, .int 0, .int 0, .int 0, .int 0, .int 0, .null, .null, .null, .null, .long 0]))]) H := hP
  have hl := lv_entry ([.ref (a)]) (n := 1) (Nat.le_of_ble_eq_true rfl)
  rw [lg_entry_eq]
  generalize (lg_sl ([.ref (a)]) ++ List.replicate (1 - (lg_sl ([.ref (a)])).length) Slot.unset).toArray = ls at hl ⊢
  have hl : lv_has ls 1 [(0, .ref (a))] := hl
  have hin8 : ∀ w ∈ wsX80, w ∈ wsX8_init := fun _ h => List.mem_cons_of_mem _ (List.mem_append_right _ h)
  have hW0 := hts (.methodLink RX8 1 objectInit) (by decide +kernel)
  have hW1 := hts (.instanceMethod objectInit) (by decide +kernel)
  have hW2 := hts (.code objectInit ⟨#[0xb1]⟩ 1 none) (by decide +kernel)
  have hW3 := hts (.arrayClass .int) (by decide +kernel)
  have hW4 := hts (.fieldLink RX8 7 "EachEyeModel" "page" "[I") (by decide +kernel)
  have hW5 := hts (.fieldLink RX8 13 "EachEyeModel" "hues" "[I") (by decide +kernel)
  have hW6 := hts (.fieldLink RX8 16 "EachEyeModel" "rows" "[I") (by decide +kernel)
  have hW7 := hts (.fieldLink RX8 19 "EachEyeModel" "inkHues" "[I") (by decide +kernel)
  have hW8 := hts (.fieldLink RX8 22 "EachEyeModel" "cardRows" "[I") (by decide +kernel)
  have hW9 := hts (.fieldLink RX8 25 "EachEyeModel" "says" "[I") (by decide +kernel)
  have hW10 := hts (.fieldLink RX8 28 "EachEyeModel" "keptHues" "[I") (by decide +kernel)
  have hW11 := hts (.fieldLink RX8 31 "EachEyeModel" "keptRows" "[I") (by decide +kernel)
  have hW12 := hts (.fieldLink RX8 34 "EachEyeModel" "keptInkHues" "[I") (by decide +kernel)
  have hW13 := hts (.fieldLink RX8 37 "EachEyeModel" "keptCardRows" "[I") (by decide +kernel)
  have hW14 := hts (.fieldLink RX8 40 "EachEyeModel" "keptSign" "I") (by decide +kernel)
  refine lv_aload_n hx hb dX8_init_0 rfl (lv_at hl 0 rfl) ?_
  refine W.objInit hx hb hown hW0 hW1 hW2 rfl (by rw [hml]; exact hl.1) rfl dX8_init_1 (Nat.le_of_ble_eq_true rfl) (Nat.le_of_ble_eq_true rfl) ?_
  refine W.eq (g2 := F0 m 4 ls []) rfl ?_
  refine lv_aload_n hx hb dX8_init_4 rfl (lv_at hl 0 rfl) ?_
  refine lv_bipush (v := nI (10)) hx hb dX8_init_5 (by decide +kernel) ?_
  refine va_newa (atype := .int) (a0 := (10, .inl (fun _ => 0))) (N' := 10) hx hb hW3 rfl hK hP hD hS hA (fun cA => rfl) (by decide +kernel) (nI_clamp (by decide)) (Nat.le_of_ble_eq_true rfl) (Nat.le_of_ble_eq_true rfl) (Nat.le_of_ble_eq_true rfl) dX8_init_7 (fun q1 cI H hK hP hD hS => ?_)
  have hK : va_K (dC, dI) vwCl [(cI, .int)] s := hK
  have hP : va_P (dC, dI) vwCl ([(a, .inr (8, [.null, .int 0, .int 0, .int 0, .int 0, .null, .int 0, .int 0, .null, .null, .int 0, .int 0, .null, .null, .int 0, .int 0, .int 0, .int 0, .int 0, .int 0, .null, .null, .null, .null, .long 0])), (q1, .inl (cI, 10, .inl (fun _ => 0)))]) H := hP
  have hD : va_D A ([(a, .inr (8, [.null, .int 0, .int 0, .int 0, .int 0, .null, .int 0, .int 0, .null, .null, .int 0, .int 0, .null, .null, .int 0, .int 0, .int 0, .int 0, .int 0, .int 0, .null, .null, .null, .null, .long 0])), (q1, .inl (cI, 10, .inl (fun _ => 0)))]) := hD
  refine va_putF (D := (dC, dI)) (ci := 8) (v := .ref (q1)) (ty := .array .int) (C := RX8) (T := TX8) (N := 25) hx hb hts hin8 tyX8 tyX8_ok nmX8 hown hK hP hD hS 0 rfl rfl 0 (by decide) hW4 (fun _ h9 => h9) rfl hInit9 rfl (by decide +kernel) rfl rfl (Nat.le_of_ble_eq_true rfl) dX8_init_9 (fun H locs hP hD hS => ?_)
  have hP : va_P (dC, dI) vwCl ([(a, .inr (8, [.ref (q1), .int 0, .int 0, .int 0, .int 0, .null, .int 0, .int 0, .null, .null, .int 0, .int 0, .null, .null, .int 0, .int 0, .int 0, .int 0, .int 0, .int 0, .null, .null, .null, .null, .long 0])), (q1, .inl (cI, 10, .inl (fun _ => 0)))]) H := hP
  have hD : va_D A ([(a, .inr (8, [.ref (q1), .int 0, .int 0, .int 0, .int 0, .null, .int 0, .int 0, .null, .null, .int 0, .int 0, .null, .null, .int 0, .int 0, .int 0, .int 0, .int 0, .int 0, .null, .null, .null, .null, .long 0])), (q1, .inl (cI, 10, .inl (fun _ => 0)))]) := hD
  refine lv_aload_n hx hb dX8_init_12 rfl (lv_at hl 0 rfl) ?_
  refine lv_bipush (v := nI (6)) hx hb dX8_init_13 (by decide +kernel) ?_
  refine va_newa (atype := .int) (a0 := (6, .inl (fun _ => 0))) (N' := 6) hx hb hW3 rfl hK hP hD hS hA (fun cA => rfl) (by decide +kernel) (nI_clamp (by decide)) (Nat.le_of_ble_eq_true rfl) (Nat.le_of_ble_eq_true rfl) (Nat.le_of_ble_eq_true rfl) dX8_init_15 (fun q2 cA H hK hP hD hS => ?_)
  have ecA : cA = cI := cls_int hK hK 1 0 rfl rfl
  subst ecA
  have hK : va_K (dC, dI) vwCl [(cA, .int)] s := hK.sub (tys' := [(cA, .int)]) [0] rfl
  generalize cA = cI at hK hP hD
  have hK : va_K (dC, dI) vwCl [(cI, .int)] s := hK
  have hP : va_P (dC, dI) vwCl ([(a, .inr (8, [.ref (q1), .int 0, .int 0, .int 0, .int 0, .null, .int 0, .int 0, .null, .null, .int 0, .int 0, .null, .null, .int 0, .int 0, .int 0, .int 0, .int 0, .int 0, .null, .null, .null, .null, .long 0])), (q1, .inl (cI, 10, .inl (fun _ => 0))), (q2, .inl (cI, 6, .inl (fun _ => 0)))]) H := hP
  have hD : va_D A ([(a, .inr (8, [.ref (q1), .int 0, .int 0, .int 0, .int 0, .null, .int 0, .int 0, .null, .null, .int 0, .int 0, .null, .null, .int 0, .int 0, .int 0, .int 0, .int 0, .int 0, .null, .null, .null, .null, .long 0])), (q1, .inl (cI, 10, .inl (fun _ => 0))), (q2, .inl (cI, 6, .inl (fun _ => 0)))]) := hD
  refine va_putF (D := (dC, dI)) (ci := 8) (v := .ref (q2)) (ty := .array .int) (C := RX8) (T := TX8) (N := 25) hx hb hts hin8 tyX8 tyX8_ok nmX8 hown hK hP hD hS 0 rfl rfl 5 (by decide) hW5 (fun _ h9 => h9) rfl hInit9 rfl (by decide +kernel) rfl rfl (Nat.le_of_ble_eq_true rfl) dX8_init_17 (fun H locs hP hD hS => ?_)
  have hP : va_P (dC, dI) vwCl ([(a, .inr (8, [.ref (q1), .int 0, .int 0, .int 0, .int 0, .ref (q2), .int 0, .int 0, .null, .null, .int 0, .int 0, .null, .null, .int 0, .int 0, .int 0, .int 0, .int 0, .int 0, .null, .null, .null, .null, .long 0])), (q1, .inl (cI, 10, .inl (fun _ => 0))), (q2, .inl (cI, 6, .inl (fun _ => 0)))]) H := hP
  have hD : va_D A ([(a, .inr (8, [.ref (q1), .int 0, .int 0, .int 0, .int 0, .ref (q2), .int 0, .int 0, .null, .null, .int 0, .int 0, .null, .null, .int 0, .int 0, .int 0, .int 0, .int 0, .int 0, .null, .null, .null, .null, .long 0])), (q1, .inl (cI, 10, .inl (fun _ => 0))), (q2, .inl (cI, 6, .inl (fun _ => 0)))]) := hD
  refine lv_aload_n hx hb dX8_init_20 rfl (lv_at hl 0 rfl) ?_
  refine lv_bipush (v := nI (40)) hx hb dX8_init_21 (by decide +kernel) ?_
  refine va_newa (atype := .int) (a0 := (40, .inl (fun _ => 0))) (N' := 40) hx hb hW3 rfl hK hP hD hS hA (fun cA => rfl) (by decide +kernel) (nI_clamp (by decide)) (Nat.le_of_ble_eq_true rfl) (Nat.le_of_ble_eq_true rfl) (Nat.le_of_ble_eq_true rfl) dX8_init_23 (fun q3 cA H hK hP hD hS => ?_)
  have ecA : cA = cI := cls_int hK hK 1 0 rfl rfl
  subst ecA
  have hK : va_K (dC, dI) vwCl [(cA, .int)] s := hK.sub (tys' := [(cA, .int)]) [0] rfl
  generalize cA = cI at hK hP hD
  have hK : va_K (dC, dI) vwCl [(cI, .int)] s := hK
  have hP : va_P (dC, dI) vwCl ([(a, .inr (8, [.ref (q1), .int 0, .int 0, .int 0, .int 0, .ref (q2), .int 0, .int 0, .null, .null, .int 0, .int 0, .null, .null, .int 0, .int 0, .int 0, .int 0, .int 0, .int 0, .null, .null, .null, .null, .long 0])), (q1, .inl (cI, 10, .inl (fun _ => 0))), (q2, .inl (cI, 6, .inl (fun _ => 0))), (q3, .inl (cI, 40, .inl (fun _ => 0)))]) H := hP
  have hD : va_D A ([(a, .inr (8, [.ref (q1), .int 0, .int 0, .int 0, .int 0, .ref (q2), .int 0, .int 0, .null, .null, .int 0, .int 0, .null, .null, .int 0, .int 0, .int 0, .int 0, .int 0, .int 0, .null, .null, .null, .null, .long 0])), (q1, .inl (cI, 10, .inl (fun _ => 0))), (q2, .inl (cI, 6, .inl (fun _ => 0))), (q3, .inl (cI, 40, .inl (fun _ => 0)))]) := hD
  refine va_putF (D := (dC, dI)) (ci := 8) (v := .ref (q3)) (ty := .array .int) (C := RX8) (T := TX8) (N := 25) hx hb hts hin8 tyX8 tyX8_ok nmX8 hown hK hP hD hS 0 rfl rfl 8 (by decide) hW6 (fun _ h9 => h9) rfl hInit9 rfl (by decide +kernel) rfl rfl (Nat.le_of_ble_eq_true rfl) dX8_init_25 (fun H locs hP hD hS => ?_)
  have hP : va_P (dC, dI) vwCl ([(a, .inr (8, [.ref (q1), .int 0, .int 0, .int 0, .int 0, .ref (q2), .int 0, .int 0, .ref (q3), .null, .int 0, .int 0, .null, .null, .int 0, .int 0, .int 0, .int 0, .int 0, .int 0, .null, .null, .null, .null, .long 0])), (q1, .inl (cI, 10, .inl (fun _ => 0))), (q2, .inl (cI, 6, .inl (fun _ => 0))), (q3, .inl (cI, 40, .inl (fun _ => 0)))]) H := hP
  have hD : va_D A ([(a, .inr (8, [.ref (q1), .int 0, .int 0, .int 0, .int 0, .ref (q2), .int 0, .int 0, .ref (q3), .null, .int 0, .int 0, .null, .null, .int 0, .int 0, .int 0, .int 0, .int 0, .int 0, .null, .null, .null, .null, .long 0])), (q1, .inl (cI, 10, .inl (fun _ => 0))), (q2, .inl (cI, 6, .inl (fun _ => 0))), (q3, .inl (cI, 40, .inl (fun _ => 0)))]) := hD
  refine lv_aload_n hx hb dX8_init_28 rfl (lv_at hl 0 rfl) ?_
  refine lv_iconst (v := nI (5)) hx hb dX8_init_29 (by decide +kernel) ?_
  refine va_newa (atype := .int) (a0 := (5, .inl (fun _ => 0))) (N' := 5) hx hb hW3 rfl hK hP hD hS hA (fun cA => rfl) (by decide +kernel) (nI_clamp (by decide)) (Nat.le_of_ble_eq_true rfl) (Nat.le_of_ble_eq_true rfl) (Nat.le_of_ble_eq_true rfl) dX8_init_30 (fun q4 cA H hK hP hD hS => ?_)
  have ecA : cA = cI := cls_int hK hK 1 0 rfl rfl
  subst ecA
  have hK : va_K (dC, dI) vwCl [(cA, .int)] s := hK.sub (tys' := [(cA, .int)]) [0] rfl
  generalize cA = cI at hK hP hD
  have hK : va_K (dC, dI) vwCl [(cI, .int)] s := hK
  have hP : va_P (dC, dI) vwCl ([(a, .inr (8, [.ref (q1), .int 0, .int 0, .int 0, .int 0, .ref (q2), .int 0, .int 0, .ref (q3), .null, .int 0, .int 0, .null, .null, .int 0, .int 0, .int 0, .int 0, .int 0, .int 0, .null, .null, .null, .null, .long 0])), (q1, .inl (cI, 10, .inl (fun _ => 0))), (q2, .inl (cI, 6, .inl (fun _ => 0))), (q3, .inl (cI, 40, .inl (fun _ => 0))), (q4, .inl (cI, 5, .inl (fun _ => 0)))]) H := hP
  have hD : va_D A ([(a, .inr (8, [.ref (q1), .int 0, .int 0, .int 0, .int 0, .ref (q2), .int 0, .int 0, .ref (q3), .null, .int 0, .int 0, .null, .null, .int 0, .int 0, .int 0, .int 0, .int 0, .int 0, .null, .null, .null, .null, .long 0])), (q1, .inl (cI, 10, .inl (fun _ => 0))), (q2, .inl (cI, 6, .inl (fun _ => 0))), (q3, .inl (cI, 40, .inl (fun _ => 0))), (q4, .inl (cI, 5, .inl (fun _ => 0)))]) := hD
  refine va_putF (D := (dC, dI)) (ci := 8) (v := .ref (q4)) (ty := .array .int) (C := RX8) (T := TX8) (N := 25) hx hb hts hin8 tyX8 tyX8_ok nmX8 hown hK hP hD hS 0 rfl rfl 9 (by decide) hW7 (fun _ h9 => h9) rfl hInit9 rfl (by decide +kernel) rfl rfl (Nat.le_of_ble_eq_true rfl) dX8_init_32 (fun H locs hP hD hS => ?_)
  have hP : va_P (dC, dI) vwCl ([(a, .inr (8, [.ref (q1), .int 0, .int 0, .int 0, .int 0, .ref (q2), .int 0, .int 0, .ref (q3), .ref (q4), .int 0, .int 0, .null, .null, .int 0, .int 0, .int 0, .int 0, .int 0, .int 0, .null, .null, .null, .null, .long 0])), (q1, .inl (cI, 10, .inl (fun _ => 0))), (q2, .inl (cI, 6, .inl (fun _ => 0))), (q3, .inl (cI, 40, .inl (fun _ => 0))), (q4, .inl (cI, 5, .inl (fun _ => 0)))]) H := hP
  have hD : va_D A ([(a, .inr (8, [.ref (q1), .int 0, .int 0, .int 0, .int 0, .ref (q2), .int 0, .int 0, .ref (q3), .ref (q4), .int 0, .int 0, .null, .null, .int 0, .int 0, .int 0, .int 0, .int 0, .int 0, .null, .null, .null, .null, .long 0])), (q1, .inl (cI, 10, .inl (fun _ => 0))), (q2, .inl (cI, 6, .inl (fun _ => 0))), (q3, .inl (cI, 40, .inl (fun _ => 0))), (q4, .inl (cI, 5, .inl (fun _ => 0)))]) := hD
  refine lv_aload_n hx hb dX8_init_35 rfl (lv_at hl 0 rfl) ?_
  refine lv_bipush (v := nI (16)) hx hb dX8_init_36 (by decide +kernel) ?_
  refine va_newa (atype := .int) (a0 := (16, .inl (fun _ => 0))) (N' := 16) hx hb hW3 rfl hK hP hD hS hA (fun cA => rfl) (by decide +kernel) (nI_clamp (by decide)) (Nat.le_of_ble_eq_true rfl) (Nat.le_of_ble_eq_true rfl) (Nat.le_of_ble_eq_true rfl) dX8_init_38 (fun q5 cA H hK hP hD hS => ?_)
  have ecA : cA = cI := cls_int hK hK 1 0 rfl rfl
  subst ecA
  have hK : va_K (dC, dI) vwCl [(cA, .int)] s := hK.sub (tys' := [(cA, .int)]) [0] rfl
  generalize cA = cI at hK hP hD
  have hK : va_K (dC, dI) vwCl [(cI, .int)] s := hK
  have hP : va_P (dC, dI) vwCl ([(a, .inr (8, [.ref (q1), .int 0, .int 0, .int 0, .int 0, .ref (q2), .int 0, .int 0, .ref (q3), .ref (q4), .int 0, .int 0, .null, .null, .int 0, .int 0, .int 0, .int 0, .int 0, .int 0, .null, .null, .null, .null, .long 0])), (q1, .inl (cI, 10, .inl (fun _ => 0))), (q2, .inl (cI, 6, .inl (fun _ => 0))), (q3, .inl (cI, 40, .inl (fun _ => 0))), (q4, .inl (cI, 5, .inl (fun _ => 0))), (q5, .inl (cI, 16, .inl (fun _ => 0)))]) H := hP
  have hD : va_D A ([(a, .inr (8, [.ref (q1), .int 0, .int 0, .int 0, .int 0, .ref (q2), .int 0, .int 0, .ref (q3), .ref (q4), .int 0, .int 0, .null, .null, .int 0, .int 0, .int 0, .int 0, .int 0, .int 0, .null, .null, .null, .null, .long 0])), (q1, .inl (cI, 10, .inl (fun _ => 0))), (q2, .inl (cI, 6, .inl (fun _ => 0))), (q3, .inl (cI, 40, .inl (fun _ => 0))), (q4, .inl (cI, 5, .inl (fun _ => 0))), (q5, .inl (cI, 16, .inl (fun _ => 0)))]) := hD
  refine va_putF (D := (dC, dI)) (ci := 8) (v := .ref (q5)) (ty := .array .int) (C := RX8) (T := TX8) (N := 25) hx hb hts hin8 tyX8 tyX8_ok nmX8 hown hK hP hD hS 0 rfl rfl 12 (by decide) hW8 (fun _ h9 => h9) rfl hInit9 rfl (by decide +kernel) rfl rfl (Nat.le_of_ble_eq_true rfl) dX8_init_40 (fun H locs hP hD hS => ?_)
  have hP : va_P (dC, dI) vwCl ([(a, .inr (8, [.ref (q1), .int 0, .int 0, .int 0, .int 0, .ref (q2), .int 0, .int 0, .ref (q3), .ref (q4), .int 0, .int 0, .ref (q5), .null, .int 0, .int 0, .int 0, .int 0, .int 0, .int 0, .null, .null, .null, .null, .long 0])), (q1, .inl (cI, 10, .inl (fun _ => 0))), (q2, .inl (cI, 6, .inl (fun _ => 0))), (q3, .inl (cI, 40, .inl (fun _ => 0))), (q4, .inl (cI, 5, .inl (fun _ => 0))), (q5, .inl (cI, 16, .inl (fun _ => 0)))]) H := hP
  have hD : va_D A ([(a, .inr (8, [.ref (q1), .int 0, .int 0, .int 0, .int 0, .ref (q2), .int 0, .int 0, .ref (q3), .ref (q4), .int 0, .int 0, .ref (q5), .null, .int 0, .int 0, .int 0, .int 0, .int 0, .int 0, .null, .null, .null, .null, .long 0])), (q1, .inl (cI, 10, .inl (fun _ => 0))), (q2, .inl (cI, 6, .inl (fun _ => 0))), (q3, .inl (cI, 40, .inl (fun _ => 0))), (q4, .inl (cI, 5, .inl (fun _ => 0))), (q5, .inl (cI, 16, .inl (fun _ => 0)))]) := hD
  refine lv_aload_n hx hb dX8_init_43 rfl (lv_at hl 0 rfl) ?_
  refine lv_bipush (v := nI (8)) hx hb dX8_init_44 (by decide +kernel) ?_
  refine va_newa (atype := .int) (a0 := (8, .inl (fun _ => 0))) (N' := 8) hx hb hW3 rfl hK hP hD hS hA (fun cA => rfl) (by decide +kernel) (nI_clamp (by decide)) (Nat.le_of_ble_eq_true rfl) (Nat.le_of_ble_eq_true rfl) (Nat.le_of_ble_eq_true rfl) dX8_init_46 (fun q6 cA H hK hP hD hS => ?_)
  have ecA : cA = cI := cls_int hK hK 1 0 rfl rfl
  subst ecA
  have hK : va_K (dC, dI) vwCl [(cA, .int)] s := hK.sub (tys' := [(cA, .int)]) [0] rfl
  generalize cA = cI at hK hP hD
  have hK : va_K (dC, dI) vwCl [(cI, .int)] s := hK
  have hP : va_P (dC, dI) vwCl ([(a, .inr (8, [.ref (q1), .int 0, .int 0, .int 0, .int 0, .ref (q2), .int 0, .int 0, .ref (q3), .ref (q4), .int 0, .int 0, .ref (q5), .null, .int 0, .int 0, .int 0, .int 0, .int 0, .int 0, .null, .null, .null, .null, .long 0])), (q1, .inl (cI, 10, .inl (fun _ => 0))), (q2, .inl (cI, 6, .inl (fun _ => 0))), (q3, .inl (cI, 40, .inl (fun _ => 0))), (q4, .inl (cI, 5, .inl (fun _ => 0))), (q5, .inl (cI, 16, .inl (fun _ => 0))), (q6, .inl (cI, 8, .inl (fun _ => 0)))]) H := hP
  have hD : va_D A ([(a, .inr (8, [.ref (q1), .int 0, .int 0, .int 0, .int 0, .ref (q2), .int 0, .int 0, .ref (q3), .ref (q4), .int 0, .int 0, .ref (q5), .null, .int 0, .int 0, .int 0, .int 0, .int 0, .int 0, .null, .null, .null, .null, .long 0])), (q1, .inl (cI, 10, .inl (fun _ => 0))), (q2, .inl (cI, 6, .inl (fun _ => 0))), (q3, .inl (cI, 40, .inl (fun _ => 0))), (q4, .inl (cI, 5, .inl (fun _ => 0))), (q5, .inl (cI, 16, .inl (fun _ => 0))), (q6, .inl (cI, 8, .inl (fun _ => 0)))]) := hD
  refine va_putF (D := (dC, dI)) (ci := 8) (v := .ref (q6)) (ty := .array .int) (C := RX8) (T := TX8) (N := 25) hx hb hts hin8 tyX8 tyX8_ok nmX8 hown hK hP hD hS 0 rfl rfl 13 (by decide) hW9 (fun _ h9 => h9) rfl hInit9 rfl (by decide +kernel) rfl rfl (Nat.le_of_ble_eq_true rfl) dX8_init_48 (fun H locs hP hD hS => ?_)
  have hP : va_P (dC, dI) vwCl ([(a, .inr (8, [.ref (q1), .int 0, .int 0, .int 0, .int 0, .ref (q2), .int 0, .int 0, .ref (q3), .ref (q4), .int 0, .int 0, .ref (q5), .ref (q6), .int 0, .int 0, .int 0, .int 0, .int 0, .int 0, .null, .null, .null, .null, .long 0])), (q1, .inl (cI, 10, .inl (fun _ => 0))), (q2, .inl (cI, 6, .inl (fun _ => 0))), (q3, .inl (cI, 40, .inl (fun _ => 0))), (q4, .inl (cI, 5, .inl (fun _ => 0))), (q5, .inl (cI, 16, .inl (fun _ => 0))), (q6, .inl (cI, 8, .inl (fun _ => 0)))]) H := hP
  have hD : va_D A ([(a, .inr (8, [.ref (q1), .int 0, .int 0, .int 0, .int 0, .ref (q2), .int 0, .int 0, .ref (q3), .ref (q4), .int 0, .int 0, .ref (q5), .ref (q6), .int 0, .int 0, .int 0, .int 0, .int 0, .int 0, .null, .null, .null, .null, .long 0])), (q1, .inl (cI, 10, .inl (fun _ => 0))), (q2, .inl (cI, 6, .inl (fun _ => 0))), (q3, .inl (cI, 40, .inl (fun _ => 0))), (q4, .inl (cI, 5, .inl (fun _ => 0))), (q5, .inl (cI, 16, .inl (fun _ => 0))), (q6, .inl (cI, 8, .inl (fun _ => 0)))]) := hD
  refine lv_aload_n hx hb dX8_init_51 rfl (lv_at hl 0 rfl) ?_
  refine lv_bipush (v := nI (6)) hx hb dX8_init_52 (by decide +kernel) ?_
  refine va_newa (atype := .int) (a0 := (6, .inl (fun _ => 0))) (N' := 6) hx hb hW3 rfl hK hP hD hS hA (fun cA => rfl) (by decide +kernel) (nI_clamp (by decide)) (Nat.le_of_ble_eq_true rfl) (Nat.le_of_ble_eq_true rfl) (Nat.le_of_ble_eq_true rfl) dX8_init_54 (fun q7 cA H hK hP hD hS => ?_)
  have ecA : cA = cI := cls_int hK hK 1 0 rfl rfl
  subst ecA
  have hK : va_K (dC, dI) vwCl [(cA, .int)] s := hK.sub (tys' := [(cA, .int)]) [0] rfl
  generalize cA = cI at hK hP hD
  have hK : va_K (dC, dI) vwCl [(cI, .int)] s := hK
  have hP : va_P (dC, dI) vwCl ([(a, .inr (8, [.ref (q1), .int 0, .int 0, .int 0, .int 0, .ref (q2), .int 0, .int 0, .ref (q3), .ref (q4), .int 0, .int 0, .ref (q5), .ref (q6), .int 0, .int 0, .int 0, .int 0, .int 0, .int 0, .null, .null, .null, .null, .long 0])), (q1, .inl (cI, 10, .inl (fun _ => 0))), (q2, .inl (cI, 6, .inl (fun _ => 0))), (q3, .inl (cI, 40, .inl (fun _ => 0))), (q4, .inl (cI, 5, .inl (fun _ => 0))), (q5, .inl (cI, 16, .inl (fun _ => 0))), (q6, .inl (cI, 8, .inl (fun _ => 0))), (q7, .inl (cI, 6, .inl (fun _ => 0)))]) H := hP
  have hD : va_D A ([(a, .inr (8, [.ref (q1), .int 0, .int 0, .int 0, .int 0, .ref (q2), .int 0, .int 0, .ref (q3), .ref (q4), .int 0, .int 0, .ref (q5), .ref (q6), .int 0, .int 0, .int 0, .int 0, .int 0, .int 0, .null, .null, .null, .null, .long 0])), (q1, .inl (cI, 10, .inl (fun _ => 0))), (q2, .inl (cI, 6, .inl (fun _ => 0))), (q3, .inl (cI, 40, .inl (fun _ => 0))), (q4, .inl (cI, 5, .inl (fun _ => 0))), (q5, .inl (cI, 16, .inl (fun _ => 0))), (q6, .inl (cI, 8, .inl (fun _ => 0))), (q7, .inl (cI, 6, .inl (fun _ => 0)))]) := hD
  refine va_putF (D := (dC, dI)) (ci := 8) (v := .ref (q7)) (ty := .array .int) (C := RX8) (T := TX8) (N := 25) hx hb hts hin8 tyX8 tyX8_ok nmX8 hown hK hP hD hS 0 rfl rfl 20 (by decide) hW10 (fun _ h9 => h9) rfl hInit9 rfl (by decide +kernel) rfl rfl (Nat.le_of_ble_eq_true rfl) dX8_init_56 (fun H locs hP hD hS => ?_)
  have hP : va_P (dC, dI) vwCl ([(a, .inr (8, [.ref (q1), .int 0, .int 0, .int 0, .int 0, .ref (q2), .int 0, .int 0, .ref (q3), .ref (q4), .int 0, .int 0, .ref (q5), .ref (q6), .int 0, .int 0, .int 0, .int 0, .int 0, .int 0, .ref (q7), .null, .null, .null, .long 0])), (q1, .inl (cI, 10, .inl (fun _ => 0))), (q2, .inl (cI, 6, .inl (fun _ => 0))), (q3, .inl (cI, 40, .inl (fun _ => 0))), (q4, .inl (cI, 5, .inl (fun _ => 0))), (q5, .inl (cI, 16, .inl (fun _ => 0))), (q6, .inl (cI, 8, .inl (fun _ => 0))), (q7, .inl (cI, 6, .inl (fun _ => 0)))]) H := hP
  have hD : va_D A ([(a, .inr (8, [.ref (q1), .int 0, .int 0, .int 0, .int 0, .ref (q2), .int 0, .int 0, .ref (q3), .ref (q4), .int 0, .int 0, .ref (q5), .ref (q6), .int 0, .int 0, .int 0, .int 0, .int 0, .int 0, .ref (q7), .null, .null, .null, .long 0])), (q1, .inl (cI, 10, .inl (fun _ => 0))), (q2, .inl (cI, 6, .inl (fun _ => 0))), (q3, .inl (cI, 40, .inl (fun _ => 0))), (q4, .inl (cI, 5, .inl (fun _ => 0))), (q5, .inl (cI, 16, .inl (fun _ => 0))), (q6, .inl (cI, 8, .inl (fun _ => 0))), (q7, .inl (cI, 6, .inl (fun _ => 0)))]) := hD
  refine lv_aload_n hx hb dX8_init_59 rfl (lv_at hl 0 rfl) ?_
  refine lv_bipush (v := nI (40)) hx hb dX8_init_60 (by decide +kernel) ?_
  refine va_newa (atype := .int) (a0 := (40, .inl (fun _ => 0))) (N' := 40) hx hb hW3 rfl hK hP hD hS hA (fun cA => rfl) (by decide +kernel) (nI_clamp (by decide)) (Nat.le_of_ble_eq_true rfl) (Nat.le_of_ble_eq_true rfl) (Nat.le_of_ble_eq_true rfl) dX8_init_62 (fun q8 cA H hK hP hD hS => ?_)
  have ecA : cA = cI := cls_int hK hK 1 0 rfl rfl
  subst ecA
  have hK : va_K (dC, dI) vwCl [(cA, .int)] s := hK.sub (tys' := [(cA, .int)]) [0] rfl
  generalize cA = cI at hK hP hD
  have hK : va_K (dC, dI) vwCl [(cI, .int)] s := hK
  have hP : va_P (dC, dI) vwCl ([(a, .inr (8, [.ref (q1), .int 0, .int 0, .int 0, .int 0, .ref (q2), .int 0, .int 0, .ref (q3), .ref (q4), .int 0, .int 0, .ref (q5), .ref (q6), .int 0, .int 0, .int 0, .int 0, .int 0, .int 0, .ref (q7), .null, .null, .null, .long 0])), (q1, .inl (cI, 10, .inl (fun _ => 0))), (q2, .inl (cI, 6, .inl (fun _ => 0))), (q3, .inl (cI, 40, .inl (fun _ => 0))), (q4, .inl (cI, 5, .inl (fun _ => 0))), (q5, .inl (cI, 16, .inl (fun _ => 0))), (q6, .inl (cI, 8, .inl (fun _ => 0))), (q7, .inl (cI, 6, .inl (fun _ => 0))), (q8, .inl (cI, 40, .inl (fun _ => 0)))]) H := hP
  have hD : va_D A ([(a, .inr (8, [.ref (q1), .int 0, .int 0, .int 0, .int 0, .ref (q2), .int 0, .int 0, .ref (q3), .ref (q4), .int 0, .int 0, .ref (q5), .ref (q6), .int 0, .int 0, .int 0, .int 0, .int 0, .int 0, .ref (q7), .null, .null, .null, .long 0])), (q1, .inl (cI, 10, .inl (fun _ => 0))), (q2, .inl (cI, 6, .inl (fun _ => 0))), (q3, .inl (cI, 40, .inl (fun _ => 0))), (q4, .inl (cI, 5, .inl (fun _ => 0))), (q5, .inl (cI, 16, .inl (fun _ => 0))), (q6, .inl (cI, 8, .inl (fun _ => 0))), (q7, .inl (cI, 6, .inl (fun _ => 0))), (q8, .inl (cI, 40, .inl (fun _ => 0)))]) := hD
  refine va_putF (D := (dC, dI)) (ci := 8) (v := .ref (q8)) (ty := .array .int) (C := RX8) (T := TX8) (N := 25) hx hb hts hin8 tyX8 tyX8_ok nmX8 hown hK hP hD hS 0 rfl rfl 21 (by decide) hW11 (fun _ h9 => h9) rfl hInit9 rfl (by decide +kernel) rfl rfl (Nat.le_of_ble_eq_true rfl) dX8_init_64 (fun H locs hP hD hS => ?_)
  have hP : va_P (dC, dI) vwCl ([(a, .inr (8, [.ref (q1), .int 0, .int 0, .int 0, .int 0, .ref (q2), .int 0, .int 0, .ref (q3), .ref (q4), .int 0, .int 0, .ref (q5), .ref (q6), .int 0, .int 0, .int 0, .int 0, .int 0, .int 0, .ref (q7), .ref (q8), .null, .null, .long 0])), (q1, .inl (cI, 10, .inl (fun _ => 0))), (q2, .inl (cI, 6, .inl (fun _ => 0))), (q3, .inl (cI, 40, .inl (fun _ => 0))), (q4, .inl (cI, 5, .inl (fun _ => 0))), (q5, .inl (cI, 16, .inl (fun _ => 0))), (q6, .inl (cI, 8, .inl (fun _ => 0))), (q7, .inl (cI, 6, .inl (fun _ => 0))), (q8, .inl (cI, 40, .inl (fun _ => 0)))]) H := hP
  have hD : va_D A ([(a, .inr (8, [.ref (q1), .int 0, .int 0, .int 0, .int 0, .ref (q2), .int 0, .int 0, .ref (q3), .ref (q4), .int 0, .int 0, .ref (q5), .ref (q6), .int 0, .int 0, .int 0, .int 0, .int 0, .int 0, .ref (q7), .ref (q8), .null, .null, .long 0])), (q1, .inl (cI, 10, .inl (fun _ => 0))), (q2, .inl (cI, 6, .inl (fun _ => 0))), (q3, .inl (cI, 40, .inl (fun _ => 0))), (q4, .inl (cI, 5, .inl (fun _ => 0))), (q5, .inl (cI, 16, .inl (fun _ => 0))), (q6, .inl (cI, 8, .inl (fun _ => 0))), (q7, .inl (cI, 6, .inl (fun _ => 0))), (q8, .inl (cI, 40, .inl (fun _ => 0)))]) := hD
  refine lv_aload_n hx hb dX8_init_67 rfl (lv_at hl 0 rfl) ?_
  refine lv_iconst (v := nI (5)) hx hb dX8_init_68 (by decide +kernel) ?_
  refine va_newa (atype := .int) (a0 := (5, .inl (fun _ => 0))) (N' := 5) hx hb hW3 rfl hK hP hD hS hA (fun cA => rfl) (by decide +kernel) (nI_clamp (by decide)) (Nat.le_of_ble_eq_true rfl) (Nat.le_of_ble_eq_true rfl) (Nat.le_of_ble_eq_true rfl) dX8_init_69 (fun q9 cA H hK hP hD hS => ?_)
  have ecA : cA = cI := cls_int hK hK 1 0 rfl rfl
  subst ecA
  have hK : va_K (dC, dI) vwCl [(cA, .int)] s := hK.sub (tys' := [(cA, .int)]) [0] rfl
  generalize cA = cI at hK hP hD
  have hK : va_K (dC, dI) vwCl [(cI, .int)] s := hK
  have hP : va_P (dC, dI) vwCl ([(a, .inr (8, [.ref (q1), .int 0, .int 0, .int 0, .int 0, .ref (q2), .int 0, .int 0, .ref (q3), .ref (q4), .int 0, .int 0, .ref (q5), .ref (q6), .int 0, .int 0, .int 0, .int 0, .int 0, .int 0, .ref (q7), .ref (q8), .null, .null, .long 0])), (q1, .inl (cI, 10, .inl (fun _ => 0))), (q2, .inl (cI, 6, .inl (fun _ => 0))), (q3, .inl (cI, 40, .inl (fun _ => 0))), (q4, .inl (cI, 5, .inl (fun _ => 0))), (q5, .inl (cI, 16, .inl (fun _ => 0))), (q6, .inl (cI, 8, .inl (fun _ => 0))), (q7, .inl (cI, 6, .inl (fun _ => 0))), (q8, .inl (cI, 40, .inl (fun _ => 0))), (q9, .inl (cI, 5, .inl (fun _ => 0)))]) H := hP
  have hD : va_D A ([(a, .inr (8, [.ref (q1), .int 0, .int 0, .int 0, .int 0, .ref (q2), .int 0, .int 0, .ref (q3), .ref (q4), .int 0, .int 0, .ref (q5), .ref (q6), .int 0, .int 0, .int 0, .int 0, .int 0, .int 0, .ref (q7), .ref (q8), .null, .null, .long 0])), (q1, .inl (cI, 10, .inl (fun _ => 0))), (q2, .inl (cI, 6, .inl (fun _ => 0))), (q3, .inl (cI, 40, .inl (fun _ => 0))), (q4, .inl (cI, 5, .inl (fun _ => 0))), (q5, .inl (cI, 16, .inl (fun _ => 0))), (q6, .inl (cI, 8, .inl (fun _ => 0))), (q7, .inl (cI, 6, .inl (fun _ => 0))), (q8, .inl (cI, 40, .inl (fun _ => 0))), (q9, .inl (cI, 5, .inl (fun _ => 0)))]) := hD
  refine va_putF (D := (dC, dI)) (ci := 8) (v := .ref (q9)) (ty := .array .int) (C := RX8) (T := TX8) (N := 25) hx hb hts hin8 tyX8 tyX8_ok nmX8 hown hK hP hD hS 0 rfl rfl 22 (by decide) hW12 (fun _ h9 => h9) rfl hInit9 rfl (by decide +kernel) rfl rfl (Nat.le_of_ble_eq_true rfl) dX8_init_71 (fun H locs hP hD hS => ?_)
  have hP : va_P (dC, dI) vwCl ([(a, .inr (8, [.ref (q1), .int 0, .int 0, .int 0, .int 0, .ref (q2), .int 0, .int 0, .ref (q3), .ref (q4), .int 0, .int 0, .ref (q5), .ref (q6), .int 0, .int 0, .int 0, .int 0, .int 0, .int 0, .ref (q7), .ref (q8), .ref (q9), .null, .long 0])), (q1, .inl (cI, 10, .inl (fun _ => 0))), (q2, .inl (cI, 6, .inl (fun _ => 0))), (q3, .inl (cI, 40, .inl (fun _ => 0))), (q4, .inl (cI, 5, .inl (fun _ => 0))), (q5, .inl (cI, 16, .inl (fun _ => 0))), (q6, .inl (cI, 8, .inl (fun _ => 0))), (q7, .inl (cI, 6, .inl (fun _ => 0))), (q8, .inl (cI, 40, .inl (fun _ => 0))), (q9, .inl (cI, 5, .inl (fun _ => 0)))]) H := hP
  have hD : va_D A ([(a, .inr (8, [.ref (q1), .int 0, .int 0, .int 0, .int 0, .ref (q2), .int 0, .int 0, .ref (q3), .ref (q4), .int 0, .int 0, .ref (q5), .ref (q6), .int 0, .int 0, .int 0, .int 0, .int 0, .int 0, .ref (q7), .ref (q8), .ref (q9), .null, .long 0])), (q1, .inl (cI, 10, .inl (fun _ => 0))), (q2, .inl (cI, 6, .inl (fun _ => 0))), (q3, .inl (cI, 40, .inl (fun _ => 0))), (q4, .inl (cI, 5, .inl (fun _ => 0))), (q5, .inl (cI, 16, .inl (fun _ => 0))), (q6, .inl (cI, 8, .inl (fun _ => 0))), (q7, .inl (cI, 6, .inl (fun _ => 0))), (q8, .inl (cI, 40, .inl (fun _ => 0))), (q9, .inl (cI, 5, .inl (fun _ => 0)))]) := hD
  refine lv_aload_n hx hb dX8_init_74 rfl (lv_at hl 0 rfl) ?_
  refine lv_bipush (v := nI (16)) hx hb dX8_init_75 (by decide +kernel) ?_
  refine va_newa (atype := .int) (a0 := (16, .inl (fun _ => 0))) (N' := 16) hx hb hW3 rfl hK hP hD hS hA (fun cA => rfl) (by decide +kernel) (nI_clamp (by decide)) (Nat.le_of_ble_eq_true rfl) (Nat.le_of_ble_eq_true rfl) (Nat.le_of_ble_eq_true rfl) dX8_init_77 (fun q10 cA H hK hP hD hS => ?_)
  have ecA : cA = cI := cls_int hK hK 1 0 rfl rfl
  subst ecA
  have hK : va_K (dC, dI) vwCl [(cA, .int)] s := hK.sub (tys' := [(cA, .int)]) [0] rfl
  generalize cA = cI at hK hP hD
  have hK : va_K (dC, dI) vwCl [(cI, .int)] s := hK
  have hP : va_P (dC, dI) vwCl ([(a, .inr (8, [.ref (q1), .int 0, .int 0, .int 0, .int 0, .ref (q2), .int 0, .int 0, .ref (q3), .ref (q4), .int 0, .int 0, .ref (q5), .ref (q6), .int 0, .int 0, .int 0, .int 0, .int 0, .int 0, .ref (q7), .ref (q8), .ref (q9), .null, .long 0])), (q1, .inl (cI, 10, .inl (fun _ => 0))), (q2, .inl (cI, 6, .inl (fun _ => 0))), (q3, .inl (cI, 40, .inl (fun _ => 0))), (q4, .inl (cI, 5, .inl (fun _ => 0))), (q5, .inl (cI, 16, .inl (fun _ => 0))), (q6, .inl (cI, 8, .inl (fun _ => 0))), (q7, .inl (cI, 6, .inl (fun _ => 0))), (q8, .inl (cI, 40, .inl (fun _ => 0))), (q9, .inl (cI, 5, .inl (fun _ => 0))), (q10, .inl (cI, 16, .inl (fun _ => 0)))]) H := hP
  have hD : va_D A ([(a, .inr (8, [.ref (q1), .int 0, .int 0, .int 0, .int 0, .ref (q2), .int 0, .int 0, .ref (q3), .ref (q4), .int 0, .int 0, .ref (q5), .ref (q6), .int 0, .int 0, .int 0, .int 0, .int 0, .int 0, .ref (q7), .ref (q8), .ref (q9), .null, .long 0])), (q1, .inl (cI, 10, .inl (fun _ => 0))), (q2, .inl (cI, 6, .inl (fun _ => 0))), (q3, .inl (cI, 40, .inl (fun _ => 0))), (q4, .inl (cI, 5, .inl (fun _ => 0))), (q5, .inl (cI, 16, .inl (fun _ => 0))), (q6, .inl (cI, 8, .inl (fun _ => 0))), (q7, .inl (cI, 6, .inl (fun _ => 0))), (q8, .inl (cI, 40, .inl (fun _ => 0))), (q9, .inl (cI, 5, .inl (fun _ => 0))), (q10, .inl (cI, 16, .inl (fun _ => 0)))]) := hD
  refine va_putF (D := (dC, dI)) (ci := 8) (v := .ref (q10)) (ty := .array .int) (C := RX8) (T := TX8) (N := 25) hx hb hts hin8 tyX8 tyX8_ok nmX8 hown hK hP hD hS 0 rfl rfl 23 (by decide) hW13 (fun _ h9 => h9) rfl hInit9 rfl (by decide +kernel) rfl rfl (Nat.le_of_ble_eq_true rfl) dX8_init_79 (fun H locs hP hD hS => ?_)
  have hP : va_P (dC, dI) vwCl ([(a, .inr (8, [.ref (q1), .int 0, .int 0, .int 0, .int 0, .ref (q2), .int 0, .int 0, .ref (q3), .ref (q4), .int 0, .int 0, .ref (q5), .ref (q6), .int 0, .int 0, .int 0, .int 0, .int 0, .int 0, .ref (q7), .ref (q8), .ref (q9), .ref (q10), .long 0])), (q1, .inl (cI, 10, .inl (fun _ => 0))), (q2, .inl (cI, 6, .inl (fun _ => 0))), (q3, .inl (cI, 40, .inl (fun _ => 0))), (q4, .inl (cI, 5, .inl (fun _ => 0))), (q5, .inl (cI, 16, .inl (fun _ => 0))), (q6, .inl (cI, 8, .inl (fun _ => 0))), (q7, .inl (cI, 6, .inl (fun _ => 0))), (q8, .inl (cI, 40, .inl (fun _ => 0))), (q9, .inl (cI, 5, .inl (fun _ => 0))), (q10, .inl (cI, 16, .inl (fun _ => 0)))]) H := hP
  have hD : va_D A ([(a, .inr (8, [.ref (q1), .int 0, .int 0, .int 0, .int 0, .ref (q2), .int 0, .int 0, .ref (q3), .ref (q4), .int 0, .int 0, .ref (q5), .ref (q6), .int 0, .int 0, .int 0, .int 0, .int 0, .int 0, .ref (q7), .ref (q8), .ref (q9), .ref (q10), .long 0])), (q1, .inl (cI, 10, .inl (fun _ => 0))), (q2, .inl (cI, 6, .inl (fun _ => 0))), (q3, .inl (cI, 40, .inl (fun _ => 0))), (q4, .inl (cI, 5, .inl (fun _ => 0))), (q5, .inl (cI, 16, .inl (fun _ => 0))), (q6, .inl (cI, 8, .inl (fun _ => 0))), (q7, .inl (cI, 6, .inl (fun _ => 0))), (q8, .inl (cI, 40, .inl (fun _ => 0))), (q9, .inl (cI, 5, .inl (fun _ => 0))), (q10, .inl (cI, 16, .inl (fun _ => 0)))]) := hD
  refine lv_aload_n hx hb dX8_init_82 rfl (lv_at hl 0 rfl) ?_
  refine lv_iconst (v := (-1)) hx hb dX8_init_83 (by decide +kernel) ?_
  refine va_put (D := (dC, dI)) (ci := 8) (v := .int ((-1))) (ty := .int) (C := RX8) (T := TX8) (N := 25) hx hb hts hin8 tyX8 tyX8_ok nmX8 hown hK hP hD hS 0 rfl rfl 15 (by decide) hW14 (fun _ h9 => h9) rfl (by decide +kernel) rfl rfl (Nat.le_of_ble_eq_true rfl) dX8_init_84 (fun H locs hP hD hS => ?_)
  have hP : va_P (dC, dI) vwCl ([(a, .inr (8, [.ref (q1), .int 0, .int 0, .int 0, .int 0, .ref (q2), .int 0, .int 0, .ref (q3), .ref (q4), .int 0, .int 0, .ref (q5), .ref (q6), .int 0, .int ((-1)), .int 0, .int 0, .int 0, .int 0, .ref (q7), .ref (q8), .ref (q9), .ref (q10), .long 0])), (q1, .inl (cI, 10, .inl (fun _ => 0))), (q2, .inl (cI, 6, .inl (fun _ => 0))), (q3, .inl (cI, 40, .inl (fun _ => 0))), (q4, .inl (cI, 5, .inl (fun _ => 0))), (q5, .inl (cI, 16, .inl (fun _ => 0))), (q6, .inl (cI, 8, .inl (fun _ => 0))), (q7, .inl (cI, 6, .inl (fun _ => 0))), (q8, .inl (cI, 40, .inl (fun _ => 0))), (q9, .inl (cI, 5, .inl (fun _ => 0))), (q10, .inl (cI, 16, .inl (fun _ => 0)))]) H := hP
  have hD : va_D A ([(a, .inr (8, [.ref (q1), .int 0, .int 0, .int 0, .int 0, .ref (q2), .int 0, .int 0, .ref (q3), .ref (q4), .int 0, .int 0, .ref (q5), .ref (q6), .int 0, .int ((-1)), .int 0, .int 0, .int 0, .int 0, .ref (q7), .ref (q8), .ref (q9), .ref (q10), .long 0])), (q1, .inl (cI, 10, .inl (fun _ => 0))), (q2, .inl (cI, 6, .inl (fun _ => 0))), (q3, .inl (cI, 40, .inl (fun _ => 0))), (q4, .inl (cI, 5, .inl (fun _ => 0))), (q5, .inl (cI, 16, .inl (fun _ => 0))), (q6, .inl (cI, 8, .inl (fun _ => 0))), (q7, .inl (cI, 6, .inl (fun _ => 0))), (q8, .inl (cI, 40, .inl (fun _ => 0))), (q9, .inl (cI, 5, .inl (fun _ => 0))), (q10, .inl (cI, 16, .inl (fun _ => 0)))]) := hD
  have hP : va_P (dC, dI) vwCl (mW cI a (fun k : Nat => match k with | 0 => q1 | 5 => q2 | 8 => q3 | 9 => q4 | 12 => q5 | 13 => q6 | 20 => q7 | 21 => q8 | 22 => q9 | _ => q10) mf0 (fun _ _ => 0) 0) H := hP
  have hD : va_D A (mW cI a (fun k : Nat => match k with | 0 => q1 | 5 => q2 | 8 => q3 | 9 => q4 | 12 => q5 | 13 => q6 | 20 => q7 | 21 => q8 | 22 => q9 | _ => q10) mf0 (fun _ _ => 0) 0) := hD
  exact W.vret hx hb hr (fun t ht hW => ⟨⟨(cI, (fun k : Nat => match k with | 0 => q1 | 5 => q2 | 8 => q3 | 9 => q4 | 12 => q5 | 13 => q6 | 20 => q7 | 21 => q8 | 22 => q9 | _ => q10)), rfl, trivial, by rw [ht]; exact hP, va_K.moved hW.alike hK, hD⟩, hS.F ht⟩) hS.2.2 dX8_init_87

set_option maxHeartbeats 2400000 in
set_option maxRecDepth 100000 in
theorem c7_init (l : Launch) (dC : Nat → ClassId) (dI : Nat → Nat → Nat) (a : Nat) (sz : Nat) : Met l yX7_init wsX7_init ({ frames := 5, cells := 16, slots := 158, locals := 100 } : Room) (va_Pc [.ref (a)] (fun U => U.heap.size = sz ∧ va_P (dC, dI) vwCl ([(a, .inr (7, [.null, .null, .null, .null, .null, .null, .int 0, .int 0, .int 0, .int 0, .int 0, .int 0, .int 0, .int 0, .int 0, .int 0]))]) U.heap ∧ va_K (dC, dI) vwCl [] U ∧ xN U ∧ va_AO RX4 U ∧ va_D (fun _ => True) ([(a, .inr (7, [.null, .null, .null, .null, .null, .null, .int 0, .int 0, .int 0, .int 0, .int 0, .int 0, .int 0, .int 0, .int 0, .int 0]))]))) (va_Qv (fun (_ : ClassId × ClassId × (Nat → Nat)) => True) (fun u t => va_P (dC, dI) vwCl (xW u.1 u.2.1 a u.2.2 xf0 xg0 (fun _ => none) xt0 0 (fun _ => 0) (fun _ => 0) (fun _ _ => 0)) t.heap ∧ va_K (dC, dI) vwCl [(u.1, .int), (u.2.1, .object RX4)] t ∧ va_D (va_A ([(a, .inr (7, [.null, .null, .null, .null, .null, .null, .int 0, .int 0, .int 0, .int 0, .int 0, .int 0, .int 0, .int 0, .int 0, .int 0]))]) sz) (xW u.1 u.2.1 a u.2.2 xf0 xg0 (fun _ => none) xt0 0 (fun _ => 0) (fun _ => 0) (fun _ _ => 0))) (va_A ([(a, .inr (7, [.null, .null, .null, .null, .null, .null, .int 0, .int 0, .int 0, .int 0, .int 0, .int 0, .int 0, .int 0, .int 0, .int 0]))]) sz)) 16 158 (va_A ([(a, .inr (7, [.null, .null, .null, .null, .null, .null, .int 0, .int 0, .int 0, .int 0, .int 0, .int 0, .int 0, .int 0, .int 0, .int 0]))]) sz) := by
  refine Met.ofW (cc := cX7_init) (maxL := 2) (ret := none) (by decide) rfl ?_
  intro p_ e_ s m args below meth c_0 s₁ B hml hv
  obtain ⟨rfl, hsz, hP, hK, hN, hO, hD0⟩ := hv
  have hx := B.exec
  have hb := B.bytes
  have hr := B.returns
  have hts := atoms_spec (ws := wsX7_init) B.pre
  have hown : s.vm.findClass RX7 = some m.cls := findClass_of_methodNamed B.named
  have hlocks := B.notSynchronized
  have hInit9 : meth.name = "<init>" := (name_of_methodNamed B.named B.method).1
  subst hsz
  have hD := hD0.self (sz := s.heap.size)
  generalize hAe : va_A ([(a, .inr (7, [.null, .null, .null, .null, .null, .null, .int 0, .int 0, .int 0, .int 0, .int 0, .int 0, .int 0, .int 0, .int 0, .int 0]))]) s.heap.size = A at hD ⊢
  have hA : ∀ q : Nat, s.heap.size ≤ q → A q := fun q h => by rw [← hAe]; exact Or.inr h
  obtain ⟨H, hHe⟩ : ∃ H : Heap, H = s.heap := ⟨_, rfl⟩
  have hS : va_S A s.heap H [] := by rw [hHe]; exact va_S.rf
  rw [← hHe] at hP ⊢
  have hP : va_P (dC, dI) vwCl ([(a, .inr (7, [.null, .null, .null, .null, .null, .null, .int 0, .int 0, .int 0, .int 0, .int 0, .int 0, .int 0, .int 0, .int 0, .int 0]))]) H := hP
  have hl := lv_entry ([.ref (a)]) (n := 2) (Nat.le_of_ble_eq_true rfl)
  rw [lg_entry_eq]
  generalize (lg_sl ([.ref (a)]) ++ List.replicate (2 - (lg_sl ([.ref (a)])).length) Slot.unset).toArray = ls at hl ⊢
  have hl : lv_has ls 2 [(0, .ref (a))] := hl
  have hin1 : ∀ w ∈ wsX10, w ∈ wsX7_init := fun _ h => List.mem_cons_of_mem _ (List.mem_append_left _ (List.mem_append_left _ (List.mem_append_left _ (List.mem_append_left _ (List.mem_append_left _ (List.mem_append_right _ h))))))
  have hin3 : ∀ w ∈ wsX30, w ∈ wsX7_init := fun _ h => List.mem_cons_of_mem _ (List.mem_append_left _ (List.mem_append_left _ (List.mem_append_left _ (List.mem_append_left _ (List.mem_append_left _ (List.mem_append_left _ (List.mem_append_left _ (List.mem_append_right _ h))))))))
  have hin7 : ∀ w ∈ wsX70, w ∈ wsX7_init := fun _ h => List.mem_cons_of_mem _ (List.mem_append_left _ (List.mem_append_left _ (List.mem_append_left _ (List.mem_append_left _ (List.mem_append_left _ (List.mem_append_left _ (List.mem_append_right _ h)))))))
  have hW0 := hts (.methodLink RX7 3 objectInit) (by decide +kernel)
  have hW1 := hts (.instanceMethod objectInit) (by decide +kernel)
  have hW2 := hts (.code objectInit ⟨#[0xb1]⟩ 1 none) (by decide +kernel)
  have hW3 := hts (.classLink RX7 9 RX3) (by decide +kernel)
  have hW4 := hts (.instantiable RX3 2) (by decide +kernel)
  have hW5 := hts (.initialized RX3) (by decide +kernel)
  have hW6 := hts (.instanceMethod yX3_init) (by decide +kernel)
  have hW7 := hts (.fieldLink RX7 12 "EachEye" "page" "LEachEye$Page;") (by decide +kernel)
  have hW8 := hts (.classLink RX7 16 RX4) (by decide +kernel)
  have hW9 := hts (.fieldLink RX7 18 "EachEye" "people" "[LEachEye$Person;") (by decide +kernel)
  have hW10 := hts (.arrayClass .int) (by decide +kernel)
  have hW11 := hts (.fieldLink RX7 22 "EachEye" "inks" "[I") (by decide +kernel)
  have hW12 := hts (.classLink RX7 26 RX1) (by decide +kernel)
  have hW13 := hts (.instantiable RX1 6) (by decide +kernel)
  have hW14 := hts (.initialized RX1) (by decide +kernel)
  have hW15 := hts (.instanceMethod yX1_init) (by decide +kernel)
  have hW16 := hts (.fieldLink RX7 29 "EachEye" "cards" "LEachEye$Cards;") (by decide +kernel)
  have hW17 := hts (.fieldLink RX7 33 "EachEye" "trials" "[LEachEye$Person;") (by decide +kernel)
  have hW18 := hts (.fieldLink RX7 36 "EachEye" "sayings" "[I") (by decide +kernel)
  have hW19 := hts (.fieldLink RX7 39 "EachEye" "theSign" "I") (by decide +kernel)
  have hW20 := hts (.fieldLink RX7 43 "EachEye" "keptSign" "I") (by decide +kernel)
  refine lv_aload_n hx hb dX7_init_0 rfl (lv_at hl 0 rfl) ?_
  refine W.objInit hx hb hown hW0 hW1 hW2 rfl (by rw [hml]; exact hl.1) rfl dX7_init_1 (Nat.le_of_ble_eq_true rfl) (Nat.le_of_ble_eq_true rfl) ?_
  refine W.eq (g2 := F0 m 4 ls []) rfl ?_
  refine lv_aload_n hx hb dX7_init_4 rfl (lv_at hl 0 rfl) ?_
  refine va_new (ci := 3) (C := RX3) (T := TX3) (N := 2) (fs := [.null, .int 0]) hx hb hts hin3 tyX3 tyX3_ok hown hW3 hW4 hW5 hK hP hD hS hA rfl (by decide +kernel) (Nat.le_of_ble_eq_true rfl) (Nat.le_of_ble_eq_true rfl) dX7_init_5 (fun q1 H hP hD hS => ?_)
  have hP : va_P (dC, dI) vwCl ([(a, .inr (7, [.null, .null, .null, .null, .null, .null, .int 0, .int 0, .int 0, .int 0, .int 0, .int 0, .int 0, .int 0, .int 0, .int 0])), (q1, .inr (3, [.null, .int 0]))]) H := hP
  have hD : va_D A ([(a, .inr (7, [.null, .null, .null, .null, .null, .null, .int 0, .int 0, .int 0, .int 0, .int 0, .int 0, .int 0, .int 0, .int 0, .int 0])), (q1, .inr (3, [.null, .int 0]))]) := hD
  refine lv_dup hx hb dX7_init_8 rfl ?_
  have hPc := hP.sub (ws' := [(q1, .inr (3, [.null, .int 0]))]) [1] rfl
  have hDc := hD.sub (ws' := [(q1, .inr (3, [.null, .int 0]))]) [1] (by decide) rfl
  have hKc := hK.sub (tys' := []) [] rfl
  have hFc := va_free (wc := [(q1, .inr (3, [.null, .int 0]))]) hD hS hA [1] rfl
  refine va_callv (va_runIN (As := []) (rest := [.ref (q1), .ref (a)]) ⟨hx, hb, hml, hown, hts⟩ (c3_init l dC dI q1 H.size) ⟨va_cnB 0 hts gX7_init_X3_init_n11 rfl rfl rfl (hN.1 _ (List.mem_of_getElem? (i := 0) rfl)) hW5 (by decide +kernel) ⟨Nat.le_of_ble_eq_true rfl, Nat.le_of_ble_eq_true rfl⟩, rfl, hW6⟩ ⟨fun a U g mk q => by obtain ⟨q0, q1, qP, qK, qD⟩ := q; exact ⟨q0, q1, qP, va_K.moved (u := U) (U := U.calling g mk a) (Vm.Alike.refl U.vm) qK, qD⟩, fun U hU hW => ⟨rfl, by rw [hU], by rw [hU]; exact hPc, va_K.moved hW.alike hKc, hDc.weaken (fun _ _ _ _ => trivial)⟩⟩ rfl rfl hl.1 rfl (lv_room (Nat.le_of_ble_eq_true rfl)) dX7_init_9 ⟨Nat.le_of_ble_eq_true rfl, Nat.le_of_ble_eq_true rfl⟩) hS (fun q _ h => hFc q h) hFc (fun u t H1 locs ht hvm hw hB hz1 hk1 hS => ?_)
  obtain ⟨cI, q2⟩ := u
  obtain ⟨hP1, hK1, hD1⟩ := hB
  rw [ht] at hP1
  have hK1 := va_K.moved hvm.symm hK1
  obtain ⟨hP, hD⟩ := va_join (wr := [(a, .inr (7, [.null, .null, .null, .null, .null, .null, .int 0, .int 0, .int 0, .int 0, .int 0, .int 0, .int 0, .int 0, .int 0, .int 0]))]) (w1 := [(q1, .inr (3, [.ref (q2), .int 0])), (q2, .inl (cI, 10, .inl (fun _ => 0)))]) hP hD [1] [0] rfl rfl (by decide) (by decide) hk1 hFc hP1 hD1
  have hK := hK.app hK1
  have hK : va_K (dC, dI) vwCl [(cI, .int)] s := hK
  clear hP1 hD1 hK1 hPc hDc hFc hk1 hz1 hKc
  generalize H1 = H at hP hS ⊢
  have hP : va_P (dC, dI) vwCl ([(a, .inr (7, [.null, .null, .null, .null, .null, .null, .int 0, .int 0, .int 0, .int 0, .int 0, .int 0, .int 0, .int 0, .int 0, .int 0])), (q1, .inr (3, [.ref (q2), .int 0])), (q2, .inl (cI, 10, .inl (fun _ => 0)))]) H := hP
  have hD : va_D A ([(a, .inr (7, [.null, .null, .null, .null, .null, .null, .int 0, .int 0, .int 0, .int 0, .int 0, .int 0, .int 0, .int 0, .int 0, .int 0])), (q1, .inr (3, [.ref (q2), .int 0])), (q2, .inl (cI, 10, .inl (fun _ => 0)))]) := hD
  refine va_putF (D := (dC, dI)) (ci := 7) (v := .ref (q1)) (ty := .object RX3) (C := RX7) (T := TX7) (N := 16) hx hb hts hin7 tyX7 tyX7_ok nmX7 hown hK hP hD hS 0 rfl rfl 0 (by decide) hW7 (fun _ h9 => h9) rfl hInit9 rfl (by decide +kernel) rfl rfl (Nat.le_of_ble_eq_true rfl) dX7_init_12 (fun H locs hP hD hS => ?_)
  have hP : va_P (dC, dI) vwCl ([(a, .inr (7, [.ref (q1), .null, .null, .null, .null, .null, .int 0, .int 0, .int 0, .int 0, .int 0, .int 0, .int 0, .int 0, .int 0, .int 0])), (q1, .inr (3, [.ref (q2), .int 0])), (q2, .inl (cI, 10, .inl (fun _ => 0)))]) H := hP
  have hD : va_D A ([(a, .inr (7, [.ref (q1), .null, .null, .null, .null, .null, .int 0, .int 0, .int 0, .int 0, .int 0, .int 0, .int 0, .int 0, .int 0, .int 0])), (q1, .inr (3, [.ref (q2), .int 0])), (q2, .inl (cI, 10, .inl (fun _ => 0)))]) := hD
  refine lv_aload_n hx hb dX7_init_15 rfl (lv_at hl 0 rfl) ?_
  refine lv_iconst (v := nI (4)) hx hb dX7_init_16 (by decide +kernel) ?_
  refine va_newq (C := RX4) (N' := 4) hx hb hown hW8 hO hK hP hD hS hA (by decide +kernel) (nI_clamp (by decide)) (Nat.le_of_ble_eq_true rfl) (Nat.le_of_ble_eq_true rfl) (Nat.le_of_ble_eq_true rfl) dX7_init_17 (fun q3 cP H hK hP hD hS => ?_)
  have hK : va_K (dC, dI) vwCl [(cI, .int), (cP, .object RX4)] s := hK
  have hP : va_P (dC, dI) vwCl ([(a, .inr (7, [.ref (q1), .null, .null, .null, .null, .null, .int 0, .int 0, .int 0, .int 0, .int 0, .int 0, .int 0, .int 0, .int 0, .int 0])), (q1, .inr (3, [.ref (q2), .int 0])), (q2, .inl (cI, 10, .inl (fun _ => 0))), (q3, .inl (cP, 4, (.inr (.inr (.inr (.inr (fun _ => none)))))))]) H := hP
  have hD : va_D A ([(a, .inr (7, [.ref (q1), .null, .null, .null, .null, .null, .int 0, .int 0, .int 0, .int 0, .int 0, .int 0, .int 0, .int 0, .int 0, .int 0])), (q1, .inr (3, [.ref (q2), .int 0])), (q2, .inl (cI, 10, .inl (fun _ => 0))), (q3, .inl (cP, 4, (.inr (.inr (.inr (.inr (fun _ => none)))))))]) := hD
  refine va_putF (D := (dC, dI)) (ci := 7) (v := .ref (q3)) (ty := .array (.object RX4)) (C := RX7) (T := TX7) (N := 16) hx hb hts hin7 tyX7 tyX7_ok nmX7 hown hK hP hD hS 0 rfl rfl 1 (by decide) hW9 (fun _ h9 => h9) rfl hInit9 rfl (by decide +kernel) rfl rfl (Nat.le_of_ble_eq_true rfl) dX7_init_20 (fun H locs hP hD hS => ?_)
  have hP : va_P (dC, dI) vwCl ([(a, .inr (7, [.ref (q1), .ref (q3), .null, .null, .null, .null, .int 0, .int 0, .int 0, .int 0, .int 0, .int 0, .int 0, .int 0, .int 0, .int 0])), (q1, .inr (3, [.ref (q2), .int 0])), (q2, .inl (cI, 10, .inl (fun _ => 0))), (q3, .inl (cP, 4, (.inr (.inr (.inr (.inr (fun _ => none)))))))]) H := hP
  have hD : va_D A ([(a, .inr (7, [.ref (q1), .ref (q3), .null, .null, .null, .null, .int 0, .int 0, .int 0, .int 0, .int 0, .int 0, .int 0, .int 0, .int 0, .int 0])), (q1, .inr (3, [.ref (q2), .int 0])), (q2, .inl (cI, 10, .inl (fun _ => 0))), (q3, .inl (cP, 4, (.inr (.inr (.inr (.inr (fun _ => none)))))))]) := hD
  refine lv_aload_n hx hb dX7_init_23 rfl (lv_at hl 0 rfl) ?_
  refine lv_iconst (v := nI (5)) hx hb dX7_init_24 (by decide +kernel) ?_
  refine va_newa (atype := .int) (a0 := (5, .inl (fun _ => 0))) (N' := 5) hx hb hW10 rfl hK hP hD hS hA (fun cA => rfl) (by decide +kernel) (nI_clamp (by decide)) (Nat.le_of_ble_eq_true rfl) (Nat.le_of_ble_eq_true rfl) (Nat.le_of_ble_eq_true rfl) dX7_init_25 (fun q4 cA H hK hP hD hS => ?_)
  have ecA : cA = cI := cls_int hK hK 2 0 rfl rfl
  subst ecA
  have hK : va_K (dC, dI) vwCl [(cA, .int), (cP, .object RX4)] s := hK.sub (tys' := [(cA, .int), (cP, .object RX4)]) [0, 1] rfl
  generalize cA = cI at hK hP hD
  have hK : va_K (dC, dI) vwCl [(cI, .int), (cP, .object RX4)] s := hK
  have hP : va_P (dC, dI) vwCl ([(a, .inr (7, [.ref (q1), .ref (q3), .null, .null, .null, .null, .int 0, .int 0, .int 0, .int 0, .int 0, .int 0, .int 0, .int 0, .int 0, .int 0])), (q1, .inr (3, [.ref (q2), .int 0])), (q2, .inl (cI, 10, .inl (fun _ => 0))), (q3, .inl (cP, 4, (.inr (.inr (.inr (.inr (fun _ => none))))))), (q4, .inl (cI, 5, .inl (fun _ => 0)))]) H := hP
  have hD : va_D A ([(a, .inr (7, [.ref (q1), .ref (q3), .null, .null, .null, .null, .int 0, .int 0, .int 0, .int 0, .int 0, .int 0, .int 0, .int 0, .int 0, .int 0])), (q1, .inr (3, [.ref (q2), .int 0])), (q2, .inl (cI, 10, .inl (fun _ => 0))), (q3, .inl (cP, 4, (.inr (.inr (.inr (.inr (fun _ => none))))))), (q4, .inl (cI, 5, .inl (fun _ => 0)))]) := hD
  refine va_putF (D := (dC, dI)) (ci := 7) (v := .ref (q4)) (ty := .array .int) (C := RX7) (T := TX7) (N := 16) hx hb hts hin7 tyX7 tyX7_ok nmX7 hown hK hP hD hS 0 rfl rfl 2 (by decide) hW11 (fun _ h9 => h9) rfl hInit9 rfl (by decide +kernel) rfl rfl (Nat.le_of_ble_eq_true rfl) dX7_init_27 (fun H locs hP hD hS => ?_)
  have hP : va_P (dC, dI) vwCl ([(a, .inr (7, [.ref (q1), .ref (q3), .ref (q4), .null, .null, .null, .int 0, .int 0, .int 0, .int 0, .int 0, .int 0, .int 0, .int 0, .int 0, .int 0])), (q1, .inr (3, [.ref (q2), .int 0])), (q2, .inl (cI, 10, .inl (fun _ => 0))), (q3, .inl (cP, 4, (.inr (.inr (.inr (.inr (fun _ => none))))))), (q4, .inl (cI, 5, .inl (fun _ => 0)))]) H := hP
  have hD : va_D A ([(a, .inr (7, [.ref (q1), .ref (q3), .ref (q4), .null, .null, .null, .int 0, .int 0, .int 0, .int 0, .int 0, .int 0, .int 0, .int 0, .int 0, .int 0])), (q1, .inr (3, [.ref (q2), .int 0])), (q2, .inl (cI, 10, .inl (fun _ => 0))), (q3, .inl (cP, 4, (.inr (.inr (.inr (.inr (fun _ => none))))))), (q4, .inl (cI, 5, .inl (fun _ => 0)))]) := hD
  refine lv_aload_n hx hb dX7_init_30 rfl (lv_at hl 0 rfl) ?_
  refine va_new (ci := 1) (C := RX1) (T := TX1) (N := 6) (fs := [.null, .null, .null, .null, .int 0, .int 0]) hx hb hts hin1 tyX1 tyX1_ok hown hW12 hW13 hW14 hK hP hD hS hA rfl (by decide +kernel) (Nat.le_of_ble_eq_true rfl) (Nat.le_of_ble_eq_true rfl) dX7_init_31 (fun q5 H hP hD hS => ?_)
  have hP : va_P (dC, dI) vwCl ([(a, .inr (7, [.ref (q1), .ref (q3), .ref (q4), .null, .null, .null, .int 0, .int 0, .int 0, .int 0, .int 0, .int 0, .int 0, .int 0, .int 0, .int 0])), (q1, .inr (3, [.ref (q2), .int 0])), (q2, .inl (cI, 10, .inl (fun _ => 0))), (q3, .inl (cP, 4, (.inr (.inr (.inr (.inr (fun _ => none))))))), (q4, .inl (cI, 5, .inl (fun _ => 0))), (q5, .inr (1, [.null, .null, .null, .null, .int 0, .int 0]))]) H := hP
  have hD : va_D A ([(a, .inr (7, [.ref (q1), .ref (q3), .ref (q4), .null, .null, .null, .int 0, .int 0, .int 0, .int 0, .int 0, .int 0, .int 0, .int 0, .int 0, .int 0])), (q1, .inr (3, [.ref (q2), .int 0])), (q2, .inl (cI, 10, .inl (fun _ => 0))), (q3, .inl (cP, 4, (.inr (.inr (.inr (.inr (fun _ => none))))))), (q4, .inl (cI, 5, .inl (fun _ => 0))), (q5, .inr (1, [.null, .null, .null, .null, .int 0, .int 0]))]) := hD
  refine lv_dup hx hb dX7_init_34 rfl ?_
  have hPc := hP.sub (ws' := [(q5, .inr (1, [.null, .null, .null, .null, .int 0, .int 0]))]) [5] rfl
  have hDc := hD.sub (ws' := [(q5, .inr (1, [.null, .null, .null, .null, .int 0, .int 0]))]) [5] (by decide) rfl
  have hKc := hK.sub (tys' := []) [] rfl
  have hFc := va_free (wc := [(q5, .inr (1, [.null, .null, .null, .null, .int 0, .int 0]))]) hD hS hA [5] rfl
  refine va_callv (va_runIN (As := []) (rest := [.ref (q5), .ref (a)]) ⟨hx, hb, hml, hown, hts⟩ (c1_init l dC dI q5 H.size) ⟨va_cnB 0 hts gX7_init_X1_init_n28 rfl rfl rfl (hN.1 _ (List.mem_of_getElem? (i := 3) rfl)) hW14 (by decide +kernel) ⟨Nat.le_of_ble_eq_true rfl, Nat.le_of_ble_eq_true rfl⟩, rfl, hW15⟩ ⟨fun a U g mk q => by obtain ⟨q0, q1, qP, qK, qD⟩ := q; exact ⟨q0, q1, qP, va_K.moved (u := U) (U := U.calling g mk a) (Vm.Alike.refl U.vm) qK, qD⟩, fun U hU hW => ⟨rfl, by rw [hU], by rw [hU]; exact hPc, va_K.moved hW.alike hKc, hDc.weaken (fun _ _ _ _ => trivial)⟩⟩ rfl rfl hl.1 rfl (lv_room (Nat.le_of_ble_eq_true rfl)) dX7_init_35 ⟨Nat.le_of_ble_eq_true rfl, Nat.le_of_ble_eq_true rfl⟩) hS (fun q _ h => hFc q h) hFc (fun u t H1 locs ht hvm hw hB hz1 hk1 hS => ?_)
  obtain ⟨cA, q6, q7, q8, q9⟩ := u
  obtain ⟨hP1, hK1, hD1⟩ := hB
  rw [ht] at hP1
  have hK1 := va_K.moved hvm.symm hK1
  have ecA : cA = cI := cls_int hK1 hK 0 0 rfl rfl
  subst ecA
  generalize cA = cI at hK hP hD hP1 hD1 hK1 hFc
  obtain ⟨hP, hD⟩ := va_join (wr := [(a, .inr (7, [.ref (q1), .ref (q3), .ref (q4), .null, .null, .null, .int 0, .int 0, .int 0, .int 0, .int 0, .int 0, .int 0, .int 0, .int 0, .int 0])), (q1, .inr (3, [.ref (q2), .int 0])), (q2, .inl (cI, 10, .inl (fun _ => 0))), (q3, .inl (cP, 4, (.inr (.inr (.inr (.inr (fun _ => none))))))), (q4, .inl (cI, 5, .inl (fun _ => 0)))]) (w1 := [(q5, .inr (1, [.ref (q6), .ref (q7), .ref (q8), .ref (q9), .int 0, .int 0])), (q6, .inl (cI, 8, .inl (fun _ => 0))), (q7, .inl (cI, 8, .inl (fun _ => 0))), (q8, .inl (cI, 8, .inl (fun _ => 0))), (q9, .inl (cI, 8, .inl (fun _ => 0)))]) hP hD [5] [0, 1, 2, 3, 4] rfl rfl (by decide) (by decide) hk1 hFc hP1 hD1
  clear hP1 hD1 hK1 hPc hDc hFc hk1 hz1 hKc
  generalize H1 = H at hP hS ⊢
  have hP : va_P (dC, dI) vwCl ([(a, .inr (7, [.ref (q1), .ref (q3), .ref (q4), .null, .null, .null, .int 0, .int 0, .int 0, .int 0, .int 0, .int 0, .int 0, .int 0, .int 0, .int 0])), (q1, .inr (3, [.ref (q2), .int 0])), (q2, .inl (cI, 10, .inl (fun _ => 0))), (q3, .inl (cP, 4, (.inr (.inr (.inr (.inr (fun _ => none))))))), (q4, .inl (cI, 5, .inl (fun _ => 0))), (q5, .inr (1, [.ref (q6), .ref (q7), .ref (q8), .ref (q9), .int 0, .int 0])), (q6, .inl (cI, 8, .inl (fun _ => 0))), (q7, .inl (cI, 8, .inl (fun _ => 0))), (q8, .inl (cI, 8, .inl (fun _ => 0))), (q9, .inl (cI, 8, .inl (fun _ => 0)))]) H := hP
  have hD : va_D A ([(a, .inr (7, [.ref (q1), .ref (q3), .ref (q4), .null, .null, .null, .int 0, .int 0, .int 0, .int 0, .int 0, .int 0, .int 0, .int 0, .int 0, .int 0])), (q1, .inr (3, [.ref (q2), .int 0])), (q2, .inl (cI, 10, .inl (fun _ => 0))), (q3, .inl (cP, 4, (.inr (.inr (.inr (.inr (fun _ => none))))))), (q4, .inl (cI, 5, .inl (fun _ => 0))), (q5, .inr (1, [.ref (q6), .ref (q7), .ref (q8), .ref (q9), .int 0, .int 0])), (q6, .inl (cI, 8, .inl (fun _ => 0))), (q7, .inl (cI, 8, .inl (fun _ => 0))), (q8, .inl (cI, 8, .inl (fun _ => 0))), (q9, .inl (cI, 8, .inl (fun _ => 0)))]) := hD
  refine va_putF (D := (dC, dI)) (ci := 7) (v := .ref (q5)) (ty := .object RX1) (C := RX7) (T := TX7) (N := 16) hx hb hts hin7 tyX7 tyX7_ok nmX7 hown hK hP hD hS 0 rfl rfl 3 (by decide) hW16 (fun _ h9 => h9) rfl hInit9 rfl (by decide +kernel) rfl rfl (Nat.le_of_ble_eq_true rfl) dX7_init_38 (fun H locs hP hD hS => ?_)
  have hP : va_P (dC, dI) vwCl ([(a, .inr (7, [.ref (q1), .ref (q3), .ref (q4), .ref (q5), .null, .null, .int 0, .int 0, .int 0, .int 0, .int 0, .int 0, .int 0, .int 0, .int 0, .int 0])), (q1, .inr (3, [.ref (q2), .int 0])), (q2, .inl (cI, 10, .inl (fun _ => 0))), (q3, .inl (cP, 4, (.inr (.inr (.inr (.inr (fun _ => none))))))), (q4, .inl (cI, 5, .inl (fun _ => 0))), (q5, .inr (1, [.ref (q6), .ref (q7), .ref (q8), .ref (q9), .int 0, .int 0])), (q6, .inl (cI, 8, .inl (fun _ => 0))), (q7, .inl (cI, 8, .inl (fun _ => 0))), (q8, .inl (cI, 8, .inl (fun _ => 0))), (q9, .inl (cI, 8, .inl (fun _ => 0)))]) H := hP
  have hD : va_D A ([(a, .inr (7, [.ref (q1), .ref (q3), .ref (q4), .ref (q5), .null, .null, .int 0, .int 0, .int 0, .int 0, .int 0, .int 0, .int 0, .int 0, .int 0, .int 0])), (q1, .inr (3, [.ref (q2), .int 0])), (q2, .inl (cI, 10, .inl (fun _ => 0))), (q3, .inl (cP, 4, (.inr (.inr (.inr (.inr (fun _ => none))))))), (q4, .inl (cI, 5, .inl (fun _ => 0))), (q5, .inr (1, [.ref (q6), .ref (q7), .ref (q8), .ref (q9), .int 0, .int 0])), (q6, .inl (cI, 8, .inl (fun _ => 0))), (q7, .inl (cI, 8, .inl (fun _ => 0))), (q8, .inl (cI, 8, .inl (fun _ => 0))), (q9, .inl (cI, 8, .inl (fun _ => 0)))]) := hD
  refine lv_aload_n hx hb dX7_init_41 rfl (lv_at hl 0 rfl) ?_
  refine lv_iconst (v := nI (5)) hx hb dX7_init_42 (by decide +kernel) ?_
  refine va_newq (C := RX4) (N' := 5) hx hb hown hW8 hO hK hP hD hS hA (by decide +kernel) (nI_clamp (by decide)) (Nat.le_of_ble_eq_true rfl) (Nat.le_of_ble_eq_true rfl) (Nat.le_of_ble_eq_true rfl) dX7_init_43 (fun q10 cA H hK hP hD hS => ?_)
  have ecA : cA = cP := cls_obj hK hK 2 1 rfl rfl
  subst ecA
  have hK : va_K (dC, dI) vwCl [(cI, .int), (cA, .object RX4)] s := hK.sub (tys' := [(cI, .int), (cA, .object RX4)]) [0, 1] rfl
  generalize cA = cP at hK hP hD
  have hK : va_K (dC, dI) vwCl [(cI, .int), (cP, .object RX4)] s := hK
  have hP : va_P (dC, dI) vwCl ([(a, .inr (7, [.ref (q1), .ref (q3), .ref (q4), .ref (q5), .null, .null, .int 0, .int 0, .int 0, .int 0, .int 0, .int 0, .int 0, .int 0, .int 0, .int 0])), (q1, .inr (3, [.ref (q2), .int 0])), (q2, .inl (cI, 10, .inl (fun _ => 0))), (q3, .inl (cP, 4, (.inr (.inr (.inr (.inr (fun _ => none))))))), (q4, .inl (cI, 5, .inl (fun _ => 0))), (q5, .inr (1, [.ref (q6), .ref (q7), .ref (q8), .ref (q9), .int 0, .int 0])), (q6, .inl (cI, 8, .inl (fun _ => 0))), (q7, .inl (cI, 8, .inl (fun _ => 0))), (q8, .inl (cI, 8, .inl (fun _ => 0))), (q9, .inl (cI, 8, .inl (fun _ => 0))), (q10, .inl (cP, 5, (.inr (.inr (.inr (.inr (fun _ => none)))))))]) H := hP
  have hD : va_D A ([(a, .inr (7, [.ref (q1), .ref (q3), .ref (q4), .ref (q5), .null, .null, .int 0, .int 0, .int 0, .int 0, .int 0, .int 0, .int 0, .int 0, .int 0, .int 0])), (q1, .inr (3, [.ref (q2), .int 0])), (q2, .inl (cI, 10, .inl (fun _ => 0))), (q3, .inl (cP, 4, (.inr (.inr (.inr (.inr (fun _ => none))))))), (q4, .inl (cI, 5, .inl (fun _ => 0))), (q5, .inr (1, [.ref (q6), .ref (q7), .ref (q8), .ref (q9), .int 0, .int 0])), (q6, .inl (cI, 8, .inl (fun _ => 0))), (q7, .inl (cI, 8, .inl (fun _ => 0))), (q8, .inl (cI, 8, .inl (fun _ => 0))), (q9, .inl (cI, 8, .inl (fun _ => 0))), (q10, .inl (cP, 5, (.inr (.inr (.inr (.inr (fun _ => none)))))))]) := hD
  refine va_putF (D := (dC, dI)) (ci := 7) (v := .ref (q10)) (ty := .array (.object RX4)) (C := RX7) (T := TX7) (N := 16) hx hb hts hin7 tyX7 tyX7_ok nmX7 hown hK hP hD hS 0 rfl rfl 4 (by decide) hW17 (fun _ h9 => h9) rfl hInit9 rfl (by decide +kernel) rfl rfl (Nat.le_of_ble_eq_true rfl) dX7_init_46 (fun H locs hP hD hS => ?_)
  have hP : va_P (dC, dI) vwCl ([(a, .inr (7, [.ref (q1), .ref (q3), .ref (q4), .ref (q5), .ref (q10), .null, .int 0, .int 0, .int 0, .int 0, .int 0, .int 0, .int 0, .int 0, .int 0, .int 0])), (q1, .inr (3, [.ref (q2), .int 0])), (q2, .inl (cI, 10, .inl (fun _ => 0))), (q3, .inl (cP, 4, (.inr (.inr (.inr (.inr (fun _ => none))))))), (q4, .inl (cI, 5, .inl (fun _ => 0))), (q5, .inr (1, [.ref (q6), .ref (q7), .ref (q8), .ref (q9), .int 0, .int 0])), (q6, .inl (cI, 8, .inl (fun _ => 0))), (q7, .inl (cI, 8, .inl (fun _ => 0))), (q8, .inl (cI, 8, .inl (fun _ => 0))), (q9, .inl (cI, 8, .inl (fun _ => 0))), (q10, .inl (cP, 5, (.inr (.inr (.inr (.inr (fun _ => none)))))))]) H := hP
  have hD : va_D A ([(a, .inr (7, [.ref (q1), .ref (q3), .ref (q4), .ref (q5), .ref (q10), .null, .int 0, .int 0, .int 0, .int 0, .int 0, .int 0, .int 0, .int 0, .int 0, .int 0])), (q1, .inr (3, [.ref (q2), .int 0])), (q2, .inl (cI, 10, .inl (fun _ => 0))), (q3, .inl (cP, 4, (.inr (.inr (.inr (.inr (fun _ => none))))))), (q4, .inl (cI, 5, .inl (fun _ => 0))), (q5, .inr (1, [.ref (q6), .ref (q7), .ref (q8), .ref (q9), .int 0, .int 0])), (q6, .inl (cI, 8, .inl (fun _ => 0))), (q7, .inl (cI, 8, .inl (fun _ => 0))), (q8, .inl (cI, 8, .inl (fun _ => 0))), (q9, .inl (cI, 8, .inl (fun _ => 0))), (q10, .inl (cP, 5, (.inr (.inr (.inr (.inr (fun _ => none)))))))]) := hD
  refine lv_aload_n hx hb dX7_init_49 rfl (lv_at hl 0 rfl) ?_
  refine lv_bipush (v := nI (64)) hx hb dX7_init_50 (by decide +kernel) ?_
  refine va_newa (atype := .int) (a0 := (64, .inl (fun _ => 0))) (N' := 64) hx hb hW10 rfl hK hP hD hS hA (fun cA => rfl) (by decide +kernel) (nI_clamp (by decide)) (Nat.le_of_ble_eq_true rfl) (Nat.le_of_ble_eq_true rfl) (Nat.le_of_ble_eq_true rfl) dX7_init_52 (fun q11 cA H hK hP hD hS => ?_)
  have ecA : cA = cI := cls_int hK hK 2 0 rfl rfl
  subst ecA
  have hK : va_K (dC, dI) vwCl [(cA, .int), (cP, .object RX4)] s := hK.sub (tys' := [(cA, .int), (cP, .object RX4)]) [0, 1] rfl
  generalize cA = cI at hK hP hD
  have hK : va_K (dC, dI) vwCl [(cI, .int), (cP, .object RX4)] s := hK
  have hP : va_P (dC, dI) vwCl ([(a, .inr (7, [.ref (q1), .ref (q3), .ref (q4), .ref (q5), .ref (q10), .null, .int 0, .int 0, .int 0, .int 0, .int 0, .int 0, .int 0, .int 0, .int 0, .int 0])), (q1, .inr (3, [.ref (q2), .int 0])), (q2, .inl (cI, 10, .inl (fun _ => 0))), (q3, .inl (cP, 4, (.inr (.inr (.inr (.inr (fun _ => none))))))), (q4, .inl (cI, 5, .inl (fun _ => 0))), (q5, .inr (1, [.ref (q6), .ref (q7), .ref (q8), .ref (q9), .int 0, .int 0])), (q6, .inl (cI, 8, .inl (fun _ => 0))), (q7, .inl (cI, 8, .inl (fun _ => 0))), (q8, .inl (cI, 8, .inl (fun _ => 0))), (q9, .inl (cI, 8, .inl (fun _ => 0))), (q10, .inl (cP, 5, (.inr (.inr (.inr (.inr (fun _ => none))))))), (q11, .inl (cI, 64, .inl (fun _ => 0)))]) H := hP
  have hD : va_D A ([(a, .inr (7, [.ref (q1), .ref (q3), .ref (q4), .ref (q5), .ref (q10), .null, .int 0, .int 0, .int 0, .int 0, .int 0, .int 0, .int 0, .int 0, .int 0, .int 0])), (q1, .inr (3, [.ref (q2), .int 0])), (q2, .inl (cI, 10, .inl (fun _ => 0))), (q3, .inl (cP, 4, (.inr (.inr (.inr (.inr (fun _ => none))))))), (q4, .inl (cI, 5, .inl (fun _ => 0))), (q5, .inr (1, [.ref (q6), .ref (q7), .ref (q8), .ref (q9), .int 0, .int 0])), (q6, .inl (cI, 8, .inl (fun _ => 0))), (q7, .inl (cI, 8, .inl (fun _ => 0))), (q8, .inl (cI, 8, .inl (fun _ => 0))), (q9, .inl (cI, 8, .inl (fun _ => 0))), (q10, .inl (cP, 5, (.inr (.inr (.inr (.inr (fun _ => none))))))), (q11, .inl (cI, 64, .inl (fun _ => 0)))]) := hD
  refine va_putF (D := (dC, dI)) (ci := 7) (v := .ref (q11)) (ty := .array .int) (C := RX7) (T := TX7) (N := 16) hx hb hts hin7 tyX7 tyX7_ok nmX7 hown hK hP hD hS 0 rfl rfl 5 (by decide) hW18 (fun _ h9 => h9) rfl hInit9 rfl (by decide +kernel) rfl rfl (Nat.le_of_ble_eq_true rfl) dX7_init_54 (fun H locs hP hD hS => ?_)
  have hP : va_P (dC, dI) vwCl ([(a, .inr (7, [.ref (q1), .ref (q3), .ref (q4), .ref (q5), .ref (q10), .ref (q11), .int 0, .int 0, .int 0, .int 0, .int 0, .int 0, .int 0, .int 0, .int 0, .int 0])), (q1, .inr (3, [.ref (q2), .int 0])), (q2, .inl (cI, 10, .inl (fun _ => 0))), (q3, .inl (cP, 4, (.inr (.inr (.inr (.inr (fun _ => none))))))), (q4, .inl (cI, 5, .inl (fun _ => 0))), (q5, .inr (1, [.ref (q6), .ref (q7), .ref (q8), .ref (q9), .int 0, .int 0])), (q6, .inl (cI, 8, .inl (fun _ => 0))), (q7, .inl (cI, 8, .inl (fun _ => 0))), (q8, .inl (cI, 8, .inl (fun _ => 0))), (q9, .inl (cI, 8, .inl (fun _ => 0))), (q10, .inl (cP, 5, (.inr (.inr (.inr (.inr (fun _ => none))))))), (q11, .inl (cI, 64, .inl (fun _ => 0)))]) H := hP
  have hD : va_D A ([(a, .inr (7, [.ref (q1), .ref (q3), .ref (q4), .ref (q5), .ref (q10), .ref (q11), .int 0, .int 0, .int 0, .int 0, .int 0, .int 0, .int 0, .int 0, .int 0, .int 0])), (q1, .inr (3, [.ref (q2), .int 0])), (q2, .inl (cI, 10, .inl (fun _ => 0))), (q3, .inl (cP, 4, (.inr (.inr (.inr (.inr (fun _ => none))))))), (q4, .inl (cI, 5, .inl (fun _ => 0))), (q5, .inr (1, [.ref (q6), .ref (q7), .ref (q8), .ref (q9), .int 0, .int 0])), (q6, .inl (cI, 8, .inl (fun _ => 0))), (q7, .inl (cI, 8, .inl (fun _ => 0))), (q8, .inl (cI, 8, .inl (fun _ => 0))), (q9, .inl (cI, 8, .inl (fun _ => 0))), (q10, .inl (cP, 5, (.inr (.inr (.inr (.inr (fun _ => none))))))), (q11, .inl (cI, 64, .inl (fun _ => 0)))]) := hD
  refine lv_aload_n hx hb dX7_init_57 rfl (lv_at hl 0 rfl) ?_
  refine lv_iconst (v := (-1)) hx hb dX7_init_58 (by decide +kernel) ?_
  refine va_put (D := (dC, dI)) (ci := 7) (v := .int ((-1))) (ty := .int) (C := RX7) (T := TX7) (N := 16) hx hb hts hin7 tyX7 tyX7_ok nmX7 hown hK hP hD hS 0 rfl rfl 6 (by decide) hW19 (fun _ h9 => h9) rfl (by decide +kernel) rfl rfl (Nat.le_of_ble_eq_true rfl) dX7_init_59 (fun H locs hP hD hS => ?_)
  have hP : va_P (dC, dI) vwCl ([(a, .inr (7, [.ref (q1), .ref (q3), .ref (q4), .ref (q5), .ref (q10), .ref (q11), .int ((-1)), .int 0, .int 0, .int 0, .int 0, .int 0, .int 0, .int 0, .int 0, .int 0])), (q1, .inr (3, [.ref (q2), .int 0])), (q2, .inl (cI, 10, .inl (fun _ => 0))), (q3, .inl (cP, 4, (.inr (.inr (.inr (.inr (fun _ => none))))))), (q4, .inl (cI, 5, .inl (fun _ => 0))), (q5, .inr (1, [.ref (q6), .ref (q7), .ref (q8), .ref (q9), .int 0, .int 0])), (q6, .inl (cI, 8, .inl (fun _ => 0))), (q7, .inl (cI, 8, .inl (fun _ => 0))), (q8, .inl (cI, 8, .inl (fun _ => 0))), (q9, .inl (cI, 8, .inl (fun _ => 0))), (q10, .inl (cP, 5, (.inr (.inr (.inr (.inr (fun _ => none))))))), (q11, .inl (cI, 64, .inl (fun _ => 0)))]) H := hP
  have hD : va_D A ([(a, .inr (7, [.ref (q1), .ref (q3), .ref (q4), .ref (q5), .ref (q10), .ref (q11), .int ((-1)), .int 0, .int 0, .int 0, .int 0, .int 0, .int 0, .int 0, .int 0, .int 0])), (q1, .inr (3, [.ref (q2), .int 0])), (q2, .inl (cI, 10, .inl (fun _ => 0))), (q3, .inl (cP, 4, (.inr (.inr (.inr (.inr (fun _ => none))))))), (q4, .inl (cI, 5, .inl (fun _ => 0))), (q5, .inr (1, [.ref (q6), .ref (q7), .ref (q8), .ref (q9), .int 0, .int 0])), (q6, .inl (cI, 8, .inl (fun _ => 0))), (q7, .inl (cI, 8, .inl (fun _ => 0))), (q8, .inl (cI, 8, .inl (fun _ => 0))), (q9, .inl (cI, 8, .inl (fun _ => 0))), (q10, .inl (cP, 5, (.inr (.inr (.inr (.inr (fun _ => none))))))), (q11, .inl (cI, 64, .inl (fun _ => 0)))]) := hD
  refine lv_aload_n hx hb dX7_init_62 rfl (lv_at hl 0 rfl) ?_
  refine lv_iconst (v := (-1)) hx hb dX7_init_63 (by decide +kernel) ?_
  refine va_put (D := (dC, dI)) (ci := 7) (v := .int ((-1))) (ty := .int) (C := RX7) (T := TX7) (N := 16) hx hb hts hin7 tyX7 tyX7_ok nmX7 hown hK hP hD hS 0 rfl rfl 12 (by decide) hW20 (fun _ h9 => h9) rfl (by decide +kernel) rfl rfl (Nat.le_of_ble_eq_true rfl) dX7_init_64 (fun H locs hP hD hS => ?_)
  have hP : va_P (dC, dI) vwCl ([(a, .inr (7, [.ref (q1), .ref (q3), .ref (q4), .ref (q5), .ref (q10), .ref (q11), .int ((-1)), .int 0, .int 0, .int 0, .int 0, .int 0, .int ((-1)), .int 0, .int 0, .int 0])), (q1, .inr (3, [.ref (q2), .int 0])), (q2, .inl (cI, 10, .inl (fun _ => 0))), (q3, .inl (cP, 4, (.inr (.inr (.inr (.inr (fun _ => none))))))), (q4, .inl (cI, 5, .inl (fun _ => 0))), (q5, .inr (1, [.ref (q6), .ref (q7), .ref (q8), .ref (q9), .int 0, .int 0])), (q6, .inl (cI, 8, .inl (fun _ => 0))), (q7, .inl (cI, 8, .inl (fun _ => 0))), (q8, .inl (cI, 8, .inl (fun _ => 0))), (q9, .inl (cI, 8, .inl (fun _ => 0))), (q10, .inl (cP, 5, (.inr (.inr (.inr (.inr (fun _ => none))))))), (q11, .inl (cI, 64, .inl (fun _ => 0)))]) H := hP
  have hD : va_D A ([(a, .inr (7, [.ref (q1), .ref (q3), .ref (q4), .ref (q5), .ref (q10), .ref (q11), .int ((-1)), .int 0, .int 0, .int 0, .int 0, .int 0, .int ((-1)), .int 0, .int 0, .int 0])), (q1, .inr (3, [.ref (q2), .int 0])), (q2, .inl (cI, 10, .inl (fun _ => 0))), (q3, .inl (cP, 4, (.inr (.inr (.inr (.inr (fun _ => none))))))), (q4, .inl (cI, 5, .inl (fun _ => 0))), (q5, .inr (1, [.ref (q6), .ref (q7), .ref (q8), .ref (q9), .int 0, .int 0])), (q6, .inl (cI, 8, .inl (fun _ => 0))), (q7, .inl (cI, 8, .inl (fun _ => 0))), (q8, .inl (cI, 8, .inl (fun _ => 0))), (q9, .inl (cI, 8, .inl (fun _ => 0))), (q10, .inl (cP, 5, (.inr (.inr (.inr (.inr (fun _ => none))))))), (q11, .inl (cI, 64, .inl (fun _ => 0)))]) := hD
  refine lv_iconst (v := nI (0)) hx hb dX7_init_67 (by decide +kernel) ?_
  refine lv_istore_n (lv' := [(1, .int (nI (0))), (0, .ref (a))]) hx hb dX7_init_68 rfl hl (by decide) rfl (fun ls hl => ?_)
  refine lv_iload_n hx hb dX7_init_69 rfl (lv_at hl 0 rfl) ?_
  refine lv_iconst (v := nI (5)) hx hb dX7_init_70 (by decide +kernel) ?_
  refine lv_icmp_ge (tgt := 90) hx hb dX7_init_71 (by decide) (fun c_9 => absurd c_9 (by decide +kernel)) (fun c_9 => ?_)
  refine lv_aload_n hx hb dX7_init_74 rfl (lv_at hl 1 rfl) ?_
  refine va_get (D := (dC, dI)) (ci := 7) (v := .ref (q10)) (C := RX7) (T := TX7) (N := 16) hx hb hts hin7 hown hK hP 0 rfl rfl 4 (by decide) hW17 (fun _ h9 => h9) rfl dX7_init_75 ?_
  refine lv_iload_n hx hb dX7_init_78 rfl (lv_at hl 0 rfl) ?_
  refine lv_iload_n hx hb dX7_init_79 rfl (lv_at hl 0 rfl) ?_
  have hFc : ∀ q, va_A ([] : va_W) H.size q → A q := fun q h => h.elim (fun ⟨j, e, hj⟩ => by cases hj) (fun h => hA q (Nat.le_trans hS.1 h))
  refine va_callr (va_runS (As := [.int (nI (0))]) (rest := [.int (nI (0)), .ref (q10)]) ⟨hx, hb, hml, hown, hts⟩ (c7_newPerson l dC dI [(cI, .int), (cP, .object RX4)] 0 (by omega) H.size) (va_cwS 1 hts gX7_init_X7_newPerson rfl rfl rfl (by decide +kernel) ⟨Nat.le_of_ble_eq_true rfl, Nat.le_of_ble_eq_true rfl⟩) ⟨fun a U g mk q => by obtain ⟨q0, q1, qP, qK, qN, qD⟩ := q; exact ⟨q0, q1, qP, va_K.moved (u := U) (U := U.calling g mk a) (Vm.Alike.refl U.vm) qK, xN.same (u := U) (U := U.calling g mk a) rfl qN, qD⟩, fun U hU hW => ⟨rfl, by rw [hU], (fun k q h => by cases h), va_K.moved hW.alike hK, xN.warm hW hN, ⟨(fun i j p q h => by cases h), (fun k q h => by cases h)⟩⟩⟩ rfl rfl hl.1 rfl (lv_room (Nat.le_of_ble_eq_true rfl)) dX7_init_80 ⟨Nat.le_of_ble_eq_true rfl, Nat.le_of_ble_eq_true rfl⟩) hS (fun q _ h => hFc q h) hFc (fun u p0 t H1 locs ht hvm hw hB hz1 hk1 hS => ?_)
  have hw : u = xIni (fun _ => 0) := hw
  subst hw
  obtain ⟨hP1, hK1, hD1⟩ := hB
  rw [ht] at hP1
  obtain ⟨hP, hD⟩ := jn hP hD hk1 hFc hP1 hD1
  clear hP1 hD1 hK1 hFc hk1 hz1
  generalize H1 = H at hP hS ⊢
  have hP : va_P (dC, dI) vwCl ([(a, .inr (7, [.ref (q1), .ref (q3), .ref (q4), .ref (q5), .ref (q10), .ref (q11), .int ((-1)), .int 0, .int 0, .int 0, .int 0, .int 0, .int ((-1)), .int 0, .int 0, .int 0])), (q1, .inr (3, [.ref (q2), .int 0])), (q2, .inl (cI, 10, .inl (fun _ => 0))), (q3, .inl (cP, 4, (.inr (.inr (.inr (.inr (fun _ => none))))))), (q4, .inl (cI, 5, .inl (fun _ => 0))), (q5, .inr (1, [.ref (q6), .ref (q7), .ref (q8), .ref (q9), .int 0, .int 0])), (q6, .inl (cI, 8, .inl (fun _ => 0))), (q7, .inl (cI, 8, .inl (fun _ => 0))), (q8, .inl (cI, 8, .inl (fun _ => 0))), (q9, .inl (cI, 8, .inl (fun _ => 0))), (q10, .inl (cP, 5, (.inr (.inr (.inr (.inr (fun _ => none))))))), (q11, .inl (cI, 64, .inl (fun _ => 0))), (p0, .inr (kc 0, pF (xIni (fun _ => 0))))]) H := hP
  have hD : va_D A ([(a, .inr (7, [.ref (q1), .ref (q3), .ref (q4), .ref (q5), .ref (q10), .ref (q11), .int ((-1)), .int 0, .int 0, .int 0, .int 0, .int 0, .int ((-1)), .int 0, .int 0, .int 0])), (q1, .inr (3, [.ref (q2), .int 0])), (q2, .inl (cI, 10, .inl (fun _ => 0))), (q3, .inl (cP, 4, (.inr (.inr (.inr (.inr (fun _ => none))))))), (q4, .inl (cI, 5, .inl (fun _ => 0))), (q5, .inr (1, [.ref (q6), .ref (q7), .ref (q8), .ref (q9), .int 0, .int 0])), (q6, .inl (cI, 8, .inl (fun _ => 0))), (q7, .inl (cI, 8, .inl (fun _ => 0))), (q8, .inl (cI, 8, .inl (fun _ => 0))), (q9, .inl (cI, 8, .inl (fun _ => 0))), (q10, .inl (cP, 5, (.inr (.inr (.inr (.inr (fun _ => none))))))), (q11, .inl (cI, 64, .inl (fun _ => 0))), (p0, .inr (kc 0, pF (xIni (fun _ => 0))))]) := hD
  refine ap hx hb hN hK hP hD hS 10 1 12 (k := 0) (by decide) rfl rfl rfl (j := 0) rfl (by decide) (by decide) dX7_init_83 (fun H locs hP hD hS => ?_)
  have hP : va_P (dC, dI) vwCl ([(a, .inr (7, [.ref (q1), .ref (q3), .ref (q4), .ref (q5), .ref (q10), .ref (q11), .int ((-1)), .int 0, .int 0, .int 0, .int 0, .int 0, .int ((-1)), .int 0, .int 0, .int 0])), (q1, .inr (3, [.ref (q2), .int 0])), (q2, .inl (cI, 10, .inl (fun _ => 0))), (q3, .inl (cP, 4, (.inr (.inr (.inr (.inr (fun _ => none))))))), (q4, .inl (cI, 5, .inl (fun _ => 0))), (q5, .inr (1, [.ref (q6), .ref (q7), .ref (q8), .ref (q9), .int 0, .int 0])), (q6, .inl (cI, 8, .inl (fun _ => 0))), (q7, .inl (cI, 8, .inl (fun _ => 0))), (q8, .inl (cI, 8, .inl (fun _ => 0))), (q9, .inl (cI, 8, .inl (fun _ => 0))), (q10, .inl (cP, 5, (.inr (.inr (.inr (.inr (su (fun _ => none) 0 (some p0)))))))), (q11, .inl (cI, 64, .inl (fun _ => 0))), (p0, .inr (kc 0, pF (xIni (fun _ => 0))))]) H := hP
  have hD : va_D A ([(a, .inr (7, [.ref (q1), .ref (q3), .ref (q4), .ref (q5), .ref (q10), .ref (q11), .int ((-1)), .int 0, .int 0, .int 0, .int 0, .int 0, .int ((-1)), .int 0, .int 0, .int 0])), (q1, .inr (3, [.ref (q2), .int 0])), (q2, .inl (cI, 10, .inl (fun _ => 0))), (q3, .inl (cP, 4, (.inr (.inr (.inr (.inr (fun _ => none))))))), (q4, .inl (cI, 5, .inl (fun _ => 0))), (q5, .inr (1, [.ref (q6), .ref (q7), .ref (q8), .ref (q9), .int 0, .int 0])), (q6, .inl (cI, 8, .inl (fun _ => 0))), (q7, .inl (cI, 8, .inl (fun _ => 0))), (q8, .inl (cI, 8, .inl (fun _ => 0))), (q9, .inl (cI, 8, .inl (fun _ => 0))), (q10, .inl (cP, 5, (.inr (.inr (.inr (.inr (su (fun _ => none) 0 (some p0)))))))), (q11, .inl (cI, 64, .inl (fun _ => 0))), (p0, .inr (kc 0, pF (xIni (fun _ => 0))))]) := hD
  refine lv_iinc (v := nI (1)) (lv' := [(1, .int (nI (1))), (0, .ref (a))]) hx hb dX7_init_84 hl (k := 0) rfl (nI_1 _) (by decide) rfl (fun ls hl => ?_)
  refine lv_goto (tgt := 69) hx hb dX7_init_87 (by decide) ?_
  refine lv_iload_n hx hb dX7_init_69 rfl (lv_at hl 0 rfl) ?_
  refine lv_iconst (v := nI (5)) hx hb dX7_init_70 (by decide +kernel) ?_
  refine lv_icmp_ge (tgt := 90) hx hb dX7_init_71 (by decide) (fun c_9 => absurd c_9 (by decide +kernel)) (fun c_9 => ?_)
  refine lv_aload_n hx hb dX7_init_74 rfl (lv_at hl 1 rfl) ?_
  refine va_get (D := (dC, dI)) (ci := 7) (v := .ref (q10)) (C := RX7) (T := TX7) (N := 16) hx hb hts hin7 hown hK hP 0 rfl rfl 4 (by decide) hW17 (fun _ h9 => h9) rfl dX7_init_75 ?_
  refine lv_iload_n hx hb dX7_init_78 rfl (lv_at hl 0 rfl) ?_
  refine lv_iload_n hx hb dX7_init_79 rfl (lv_at hl 0 rfl) ?_
  have hFc : ∀ q, va_A ([] : va_W) H.size q → A q := fun q h => h.elim (fun ⟨j, e, hj⟩ => by cases hj) (fun h => hA q (Nat.le_trans hS.1 h))
  refine va_callr (va_runS (As := [.int (nI (1))]) (rest := [.int (nI (1)), .ref (q10)]) ⟨hx, hb, hml, hown, hts⟩ (c7_newPerson l dC dI [(cI, .int), (cP, .object RX4)] 1 (by omega) H.size) (va_cwS 1 hts gX7_init_X7_newPerson rfl rfl rfl (by decide +kernel) ⟨Nat.le_of_ble_eq_true rfl, Nat.le_of_ble_eq_true rfl⟩) ⟨fun a U g mk q => by obtain ⟨q0, q1, qP, qK, qN, qD⟩ := q; exact ⟨q0, q1, qP, va_K.moved (u := U) (U := U.calling g mk a) (Vm.Alike.refl U.vm) qK, xN.same (u := U) (U := U.calling g mk a) rfl qN, qD⟩, fun U hU hW => ⟨rfl, by rw [hU], (fun k q h => by cases h), va_K.moved hW.alike hK, xN.warm hW hN, ⟨(fun i j p q h => by cases h), (fun k q h => by cases h)⟩⟩⟩ rfl rfl hl.1 rfl (lv_room (Nat.le_of_ble_eq_true rfl)) dX7_init_80 ⟨Nat.le_of_ble_eq_true rfl, Nat.le_of_ble_eq_true rfl⟩) hS (fun q _ h => hFc q h) hFc (fun u p1 t H1 locs ht hvm hw hB hz1 hk1 hS => ?_)
  have hw : u = xIni (fun _ => 0) := hw
  subst hw
  obtain ⟨hP1, hK1, hD1⟩ := hB
  rw [ht] at hP1
  obtain ⟨hP, hD⟩ := jn hP hD hk1 hFc hP1 hD1
  clear hP1 hD1 hK1 hFc hk1 hz1
  generalize H1 = H at hP hS ⊢
  have hP : va_P (dC, dI) vwCl ([(a, .inr (7, [.ref (q1), .ref (q3), .ref (q4), .ref (q5), .ref (q10), .ref (q11), .int ((-1)), .int 0, .int 0, .int 0, .int 0, .int 0, .int ((-1)), .int 0, .int 0, .int 0])), (q1, .inr (3, [.ref (q2), .int 0])), (q2, .inl (cI, 10, .inl (fun _ => 0))), (q3, .inl (cP, 4, (.inr (.inr (.inr (.inr (fun _ => none))))))), (q4, .inl (cI, 5, .inl (fun _ => 0))), (q5, .inr (1, [.ref (q6), .ref (q7), .ref (q8), .ref (q9), .int 0, .int 0])), (q6, .inl (cI, 8, .inl (fun _ => 0))), (q7, .inl (cI, 8, .inl (fun _ => 0))), (q8, .inl (cI, 8, .inl (fun _ => 0))), (q9, .inl (cI, 8, .inl (fun _ => 0))), (q10, .inl (cP, 5, (.inr (.inr (.inr (.inr (su (fun _ => none) 0 (some p0)))))))), (q11, .inl (cI, 64, .inl (fun _ => 0))), (p0, .inr (kc 0, pF (xIni (fun _ => 0)))), (p1, .inr (kc 1, pF (xIni (fun _ => 0))))]) H := hP
  have hD : va_D A ([(a, .inr (7, [.ref (q1), .ref (q3), .ref (q4), .ref (q5), .ref (q10), .ref (q11), .int ((-1)), .int 0, .int 0, .int 0, .int 0, .int 0, .int ((-1)), .int 0, .int 0, .int 0])), (q1, .inr (3, [.ref (q2), .int 0])), (q2, .inl (cI, 10, .inl (fun _ => 0))), (q3, .inl (cP, 4, (.inr (.inr (.inr (.inr (fun _ => none))))))), (q4, .inl (cI, 5, .inl (fun _ => 0))), (q5, .inr (1, [.ref (q6), .ref (q7), .ref (q8), .ref (q9), .int 0, .int 0])), (q6, .inl (cI, 8, .inl (fun _ => 0))), (q7, .inl (cI, 8, .inl (fun _ => 0))), (q8, .inl (cI, 8, .inl (fun _ => 0))), (q9, .inl (cI, 8, .inl (fun _ => 0))), (q10, .inl (cP, 5, (.inr (.inr (.inr (.inr (su (fun _ => none) 0 (some p0)))))))), (q11, .inl (cI, 64, .inl (fun _ => 0))), (p0, .inr (kc 0, pF (xIni (fun _ => 0)))), (p1, .inr (kc 1, pF (xIni (fun _ => 0))))]) := hD
  refine ap hx hb hN hK hP hD hS 10 1 13 (k := 1) (by decide) rfl rfl rfl (j := 1) rfl (by decide) (by decide) dX7_init_83 (fun H locs hP hD hS => ?_)
  have hP : va_P (dC, dI) vwCl ([(a, .inr (7, [.ref (q1), .ref (q3), .ref (q4), .ref (q5), .ref (q10), .ref (q11), .int ((-1)), .int 0, .int 0, .int 0, .int 0, .int 0, .int ((-1)), .int 0, .int 0, .int 0])), (q1, .inr (3, [.ref (q2), .int 0])), (q2, .inl (cI, 10, .inl (fun _ => 0))), (q3, .inl (cP, 4, (.inr (.inr (.inr (.inr (fun _ => none))))))), (q4, .inl (cI, 5, .inl (fun _ => 0))), (q5, .inr (1, [.ref (q6), .ref (q7), .ref (q8), .ref (q9), .int 0, .int 0])), (q6, .inl (cI, 8, .inl (fun _ => 0))), (q7, .inl (cI, 8, .inl (fun _ => 0))), (q8, .inl (cI, 8, .inl (fun _ => 0))), (q9, .inl (cI, 8, .inl (fun _ => 0))), (q10, .inl (cP, 5, (.inr (.inr (.inr (.inr (su (su (fun _ => none) 0 (some p0)) 1 (some p1)))))))), (q11, .inl (cI, 64, .inl (fun _ => 0))), (p0, .inr (kc 0, pF (xIni (fun _ => 0)))), (p1, .inr (kc 1, pF (xIni (fun _ => 0))))]) H := hP
  have hD : va_D A ([(a, .inr (7, [.ref (q1), .ref (q3), .ref (q4), .ref (q5), .ref (q10), .ref (q11), .int ((-1)), .int 0, .int 0, .int 0, .int 0, .int 0, .int ((-1)), .int 0, .int 0, .int 0])), (q1, .inr (3, [.ref (q2), .int 0])), (q2, .inl (cI, 10, .inl (fun _ => 0))), (q3, .inl (cP, 4, (.inr (.inr (.inr (.inr (fun _ => none))))))), (q4, .inl (cI, 5, .inl (fun _ => 0))), (q5, .inr (1, [.ref (q6), .ref (q7), .ref (q8), .ref (q9), .int 0, .int 0])), (q6, .inl (cI, 8, .inl (fun _ => 0))), (q7, .inl (cI, 8, .inl (fun _ => 0))), (q8, .inl (cI, 8, .inl (fun _ => 0))), (q9, .inl (cI, 8, .inl (fun _ => 0))), (q10, .inl (cP, 5, (.inr (.inr (.inr (.inr (su (su (fun _ => none) 0 (some p0)) 1 (some p1)))))))), (q11, .inl (cI, 64, .inl (fun _ => 0))), (p0, .inr (kc 0, pF (xIni (fun _ => 0)))), (p1, .inr (kc 1, pF (xIni (fun _ => 0))))]) := hD
  refine lv_iinc (v := nI (2)) (lv' := [(1, .int (nI (2))), (0, .ref (a))]) hx hb dX7_init_84 hl (k := 0) rfl (nI_1 _) (by decide) rfl (fun ls hl => ?_)
  refine lv_goto (tgt := 69) hx hb dX7_init_87 (by decide) ?_
  refine lv_iload_n hx hb dX7_init_69 rfl (lv_at hl 0 rfl) ?_
  refine lv_iconst (v := nI (5)) hx hb dX7_init_70 (by decide +kernel) ?_
  refine lv_icmp_ge (tgt := 90) hx hb dX7_init_71 (by decide) (fun c_9 => absurd c_9 (by decide +kernel)) (fun c_9 => ?_)
  refine lv_aload_n hx hb dX7_init_74 rfl (lv_at hl 1 rfl) ?_
  refine va_get (D := (dC, dI)) (ci := 7) (v := .ref (q10)) (C := RX7) (T := TX7) (N := 16) hx hb hts hin7 hown hK hP 0 rfl rfl 4 (by decide) hW17 (fun _ h9 => h9) rfl dX7_init_75 ?_
  refine lv_iload_n hx hb dX7_init_78 rfl (lv_at hl 0 rfl) ?_
  refine lv_iload_n hx hb dX7_init_79 rfl (lv_at hl 0 rfl) ?_
  have hFc : ∀ q, va_A ([] : va_W) H.size q → A q := fun q h => h.elim (fun ⟨j, e, hj⟩ => by cases hj) (fun h => hA q (Nat.le_trans hS.1 h))
  refine va_callr (va_runS (As := [.int (nI (2))]) (rest := [.int (nI (2)), .ref (q10)]) ⟨hx, hb, hml, hown, hts⟩ (c7_newPerson l dC dI [(cI, .int), (cP, .object RX4)] 2 (by omega) H.size) (va_cwS 1 hts gX7_init_X7_newPerson rfl rfl rfl (by decide +kernel) ⟨Nat.le_of_ble_eq_true rfl, Nat.le_of_ble_eq_true rfl⟩) ⟨fun a U g mk q => by obtain ⟨q0, q1, qP, qK, qN, qD⟩ := q; exact ⟨q0, q1, qP, va_K.moved (u := U) (U := U.calling g mk a) (Vm.Alike.refl U.vm) qK, xN.same (u := U) (U := U.calling g mk a) rfl qN, qD⟩, fun U hU hW => ⟨rfl, by rw [hU], (fun k q h => by cases h), va_K.moved hW.alike hK, xN.warm hW hN, ⟨(fun i j p q h => by cases h), (fun k q h => by cases h)⟩⟩⟩ rfl rfl hl.1 rfl (lv_room (Nat.le_of_ble_eq_true rfl)) dX7_init_80 ⟨Nat.le_of_ble_eq_true rfl, Nat.le_of_ble_eq_true rfl⟩) hS (fun q _ h => hFc q h) hFc (fun u p2 t H1 locs ht hvm hw hB hz1 hk1 hS => ?_)
  have hw : u = xIni (fun _ => 0) := hw
  subst hw
  obtain ⟨hP1, hK1, hD1⟩ := hB
  rw [ht] at hP1
  obtain ⟨hP, hD⟩ := jn hP hD hk1 hFc hP1 hD1
  clear hP1 hD1 hK1 hFc hk1 hz1
  generalize H1 = H at hP hS ⊢
  have hP : va_P (dC, dI) vwCl ([(a, .inr (7, [.ref (q1), .ref (q3), .ref (q4), .ref (q5), .ref (q10), .ref (q11), .int ((-1)), .int 0, .int 0, .int 0, .int 0, .int 0, .int ((-1)), .int 0, .int 0, .int 0])), (q1, .inr (3, [.ref (q2), .int 0])), (q2, .inl (cI, 10, .inl (fun _ => 0))), (q3, .inl (cP, 4, (.inr (.inr (.inr (.inr (fun _ => none))))))), (q4, .inl (cI, 5, .inl (fun _ => 0))), (q5, .inr (1, [.ref (q6), .ref (q7), .ref (q8), .ref (q9), .int 0, .int 0])), (q6, .inl (cI, 8, .inl (fun _ => 0))), (q7, .inl (cI, 8, .inl (fun _ => 0))), (q8, .inl (cI, 8, .inl (fun _ => 0))), (q9, .inl (cI, 8, .inl (fun _ => 0))), (q10, .inl (cP, 5, (.inr (.inr (.inr (.inr (su (su (fun _ => none) 0 (some p0)) 1 (some p1)))))))), (q11, .inl (cI, 64, .inl (fun _ => 0))), (p0, .inr (kc 0, pF (xIni (fun _ => 0)))), (p1, .inr (kc 1, pF (xIni (fun _ => 0)))), (p2, .inr (kc 2, pF (xIni (fun _ => 0))))]) H := hP
  have hD : va_D A ([(a, .inr (7, [.ref (q1), .ref (q3), .ref (q4), .ref (q5), .ref (q10), .ref (q11), .int ((-1)), .int 0, .int 0, .int 0, .int 0, .int 0, .int ((-1)), .int 0, .int 0, .int 0])), (q1, .inr (3, [.ref (q2), .int 0])), (q2, .inl (cI, 10, .inl (fun _ => 0))), (q3, .inl (cP, 4, (.inr (.inr (.inr (.inr (fun _ => none))))))), (q4, .inl (cI, 5, .inl (fun _ => 0))), (q5, .inr (1, [.ref (q6), .ref (q7), .ref (q8), .ref (q9), .int 0, .int 0])), (q6, .inl (cI, 8, .inl (fun _ => 0))), (q7, .inl (cI, 8, .inl (fun _ => 0))), (q8, .inl (cI, 8, .inl (fun _ => 0))), (q9, .inl (cI, 8, .inl (fun _ => 0))), (q10, .inl (cP, 5, (.inr (.inr (.inr (.inr (su (su (fun _ => none) 0 (some p0)) 1 (some p1)))))))), (q11, .inl (cI, 64, .inl (fun _ => 0))), (p0, .inr (kc 0, pF (xIni (fun _ => 0)))), (p1, .inr (kc 1, pF (xIni (fun _ => 0)))), (p2, .inr (kc 2, pF (xIni (fun _ => 0))))]) := hD
  refine ap hx hb hN hK hP hD hS 10 1 14 (k := 2) (by decide) rfl rfl rfl (j := 2) rfl (by decide) (by decide) dX7_init_83 (fun H locs hP hD hS => ?_)
  have hP : va_P (dC, dI) vwCl ([(a, .inr (7, [.ref (q1), .ref (q3), .ref (q4), .ref (q5), .ref (q10), .ref (q11), .int ((-1)), .int 0, .int 0, .int 0, .int 0, .int 0, .int ((-1)), .int 0, .int 0, .int 0])), (q1, .inr (3, [.ref (q2), .int 0])), (q2, .inl (cI, 10, .inl (fun _ => 0))), (q3, .inl (cP, 4, (.inr (.inr (.inr (.inr (fun _ => none))))))), (q4, .inl (cI, 5, .inl (fun _ => 0))), (q5, .inr (1, [.ref (q6), .ref (q7), .ref (q8), .ref (q9), .int 0, .int 0])), (q6, .inl (cI, 8, .inl (fun _ => 0))), (q7, .inl (cI, 8, .inl (fun _ => 0))), (q8, .inl (cI, 8, .inl (fun _ => 0))), (q9, .inl (cI, 8, .inl (fun _ => 0))), (q10, .inl (cP, 5, (.inr (.inr (.inr (.inr (su (su (su (fun _ => none) 0 (some p0)) 1 (some p1)) 2 (some p2)))))))), (q11, .inl (cI, 64, .inl (fun _ => 0))), (p0, .inr (kc 0, pF (xIni (fun _ => 0)))), (p1, .inr (kc 1, pF (xIni (fun _ => 0)))), (p2, .inr (kc 2, pF (xIni (fun _ => 0))))]) H := hP
  have hD : va_D A ([(a, .inr (7, [.ref (q1), .ref (q3), .ref (q4), .ref (q5), .ref (q10), .ref (q11), .int ((-1)), .int 0, .int 0, .int 0, .int 0, .int 0, .int ((-1)), .int 0, .int 0, .int 0])), (q1, .inr (3, [.ref (q2), .int 0])), (q2, .inl (cI, 10, .inl (fun _ => 0))), (q3, .inl (cP, 4, (.inr (.inr (.inr (.inr (fun _ => none))))))), (q4, .inl (cI, 5, .inl (fun _ => 0))), (q5, .inr (1, [.ref (q6), .ref (q7), .ref (q8), .ref (q9), .int 0, .int 0])), (q6, .inl (cI, 8, .inl (fun _ => 0))), (q7, .inl (cI, 8, .inl (fun _ => 0))), (q8, .inl (cI, 8, .inl (fun _ => 0))), (q9, .inl (cI, 8, .inl (fun _ => 0))), (q10, .inl (cP, 5, (.inr (.inr (.inr (.inr (su (su (su (fun _ => none) 0 (some p0)) 1 (some p1)) 2 (some p2)))))))), (q11, .inl (cI, 64, .inl (fun _ => 0))), (p0, .inr (kc 0, pF (xIni (fun _ => 0)))), (p1, .inr (kc 1, pF (xIni (fun _ => 0)))), (p2, .inr (kc 2, pF (xIni (fun _ => 0))))]) := hD
  refine lv_iinc (v := nI (3)) (lv' := [(1, .int (nI (3))), (0, .ref (a))]) hx hb dX7_init_84 hl (k := 0) rfl (nI_1 _) (by decide) rfl (fun ls hl => ?_)
  refine lv_goto (tgt := 69) hx hb dX7_init_87 (by decide) ?_
  refine lv_iload_n hx hb dX7_init_69 rfl (lv_at hl 0 rfl) ?_
  refine lv_iconst (v := nI (5)) hx hb dX7_init_70 (by decide +kernel) ?_
  refine lv_icmp_ge (tgt := 90) hx hb dX7_init_71 (by decide) (fun c_9 => absurd c_9 (by decide +kernel)) (fun c_9 => ?_)
  refine lv_aload_n hx hb dX7_init_74 rfl (lv_at hl 1 rfl) ?_
  refine va_get (D := (dC, dI)) (ci := 7) (v := .ref (q10)) (C := RX7) (T := TX7) (N := 16) hx hb hts hin7 hown hK hP 0 rfl rfl 4 (by decide) hW17 (fun _ h9 => h9) rfl dX7_init_75 ?_
  refine lv_iload_n hx hb dX7_init_78 rfl (lv_at hl 0 rfl) ?_
  refine lv_iload_n hx hb dX7_init_79 rfl (lv_at hl 0 rfl) ?_
  have hFc : ∀ q, va_A ([] : va_W) H.size q → A q := fun q h => h.elim (fun ⟨j, e, hj⟩ => by cases hj) (fun h => hA q (Nat.le_trans hS.1 h))
  refine va_callr (va_runS (As := [.int (nI (3))]) (rest := [.int (nI (3)), .ref (q10)]) ⟨hx, hb, hml, hown, hts⟩ (c7_newPerson l dC dI [(cI, .int), (cP, .object RX4)] 3 (by omega) H.size) (va_cwS 1 hts gX7_init_X7_newPerson rfl rfl rfl (by decide +kernel) ⟨Nat.le_of_ble_eq_true rfl, Nat.le_of_ble_eq_true rfl⟩) ⟨fun a U g mk q => by obtain ⟨q0, q1, qP, qK, qN, qD⟩ := q; exact ⟨q0, q1, qP, va_K.moved (u := U) (U := U.calling g mk a) (Vm.Alike.refl U.vm) qK, xN.same (u := U) (U := U.calling g mk a) rfl qN, qD⟩, fun U hU hW => ⟨rfl, by rw [hU], (fun k q h => by cases h), va_K.moved hW.alike hK, xN.warm hW hN, ⟨(fun i j p q h => by cases h), (fun k q h => by cases h)⟩⟩⟩ rfl rfl hl.1 rfl (lv_room (Nat.le_of_ble_eq_true rfl)) dX7_init_80 ⟨Nat.le_of_ble_eq_true rfl, Nat.le_of_ble_eq_true rfl⟩) hS (fun q _ h => hFc q h) hFc (fun u p3 t H1 locs ht hvm hw hB hz1 hk1 hS => ?_)
  have hw : u = xIni (fun _ => 0) := hw
  subst hw
  obtain ⟨hP1, hK1, hD1⟩ := hB
  rw [ht] at hP1
  obtain ⟨hP, hD⟩ := jn hP hD hk1 hFc hP1 hD1
  clear hP1 hD1 hK1 hFc hk1 hz1
  generalize H1 = H at hP hS ⊢
  have hP : va_P (dC, dI) vwCl ([(a, .inr (7, [.ref (q1), .ref (q3), .ref (q4), .ref (q5), .ref (q10), .ref (q11), .int ((-1)), .int 0, .int 0, .int 0, .int 0, .int 0, .int ((-1)), .int 0, .int 0, .int 0])), (q1, .inr (3, [.ref (q2), .int 0])), (q2, .inl (cI, 10, .inl (fun _ => 0))), (q3, .inl (cP, 4, (.inr (.inr (.inr (.inr (fun _ => none))))))), (q4, .inl (cI, 5, .inl (fun _ => 0))), (q5, .inr (1, [.ref (q6), .ref (q7), .ref (q8), .ref (q9), .int 0, .int 0])), (q6, .inl (cI, 8, .inl (fun _ => 0))), (q7, .inl (cI, 8, .inl (fun _ => 0))), (q8, .inl (cI, 8, .inl (fun _ => 0))), (q9, .inl (cI, 8, .inl (fun _ => 0))), (q10, .inl (cP, 5, (.inr (.inr (.inr (.inr (su (su (su (fun _ => none) 0 (some p0)) 1 (some p1)) 2 (some p2)))))))), (q11, .inl (cI, 64, .inl (fun _ => 0))), (p0, .inr (kc 0, pF (xIni (fun _ => 0)))), (p1, .inr (kc 1, pF (xIni (fun _ => 0)))), (p2, .inr (kc 2, pF (xIni (fun _ => 0)))), (p3, .inr (kc 3, pF (xIni (fun _ => 0))))]) H := hP
  have hD : va_D A ([(a, .inr (7, [.ref (q1), .ref (q3), .ref (q4), .ref (q5), .ref (q10), .ref (q11), .int ((-1)), .int 0, .int 0, .int 0, .int 0, .int 0, .int ((-1)), .int 0, .int 0, .int 0])), (q1, .inr (3, [.ref (q2), .int 0])), (q2, .inl (cI, 10, .inl (fun _ => 0))), (q3, .inl (cP, 4, (.inr (.inr (.inr (.inr (fun _ => none))))))), (q4, .inl (cI, 5, .inl (fun _ => 0))), (q5, .inr (1, [.ref (q6), .ref (q7), .ref (q8), .ref (q9), .int 0, .int 0])), (q6, .inl (cI, 8, .inl (fun _ => 0))), (q7, .inl (cI, 8, .inl (fun _ => 0))), (q8, .inl (cI, 8, .inl (fun _ => 0))), (q9, .inl (cI, 8, .inl (fun _ => 0))), (q10, .inl (cP, 5, (.inr (.inr (.inr (.inr (su (su (su (fun _ => none) 0 (some p0)) 1 (some p1)) 2 (some p2)))))))), (q11, .inl (cI, 64, .inl (fun _ => 0))), (p0, .inr (kc 0, pF (xIni (fun _ => 0)))), (p1, .inr (kc 1, pF (xIni (fun _ => 0)))), (p2, .inr (kc 2, pF (xIni (fun _ => 0)))), (p3, .inr (kc 3, pF (xIni (fun _ => 0))))]) := hD
  refine ap hx hb hN hK hP hD hS 10 1 15 (k := 3) (by decide) rfl rfl rfl (j := 3) rfl (by decide) (by decide) dX7_init_83 (fun H locs hP hD hS => ?_)
  have hP : va_P (dC, dI) vwCl ([(a, .inr (7, [.ref (q1), .ref (q3), .ref (q4), .ref (q5), .ref (q10), .ref (q11), .int ((-1)), .int 0, .int 0, .int 0, .int 0, .int 0, .int ((-1)), .int 0, .int 0, .int 0])), (q1, .inr (3, [.ref (q2), .int 0])), (q2, .inl (cI, 10, .inl (fun _ => 0))), (q3, .inl (cP, 4, (.inr (.inr (.inr (.inr (fun _ => none))))))), (q4, .inl (cI, 5, .inl (fun _ => 0))), (q5, .inr (1, [.ref (q6), .ref (q7), .ref (q8), .ref (q9), .int 0, .int 0])), (q6, .inl (cI, 8, .inl (fun _ => 0))), (q7, .inl (cI, 8, .inl (fun _ => 0))), (q8, .inl (cI, 8, .inl (fun _ => 0))), (q9, .inl (cI, 8, .inl (fun _ => 0))), (q10, .inl (cP, 5, (.inr (.inr (.inr (.inr (su (su (su (su (fun _ => none) 0 (some p0)) 1 (some p1)) 2 (some p2)) 3 (some p3)))))))), (q11, .inl (cI, 64, .inl (fun _ => 0))), (p0, .inr (kc 0, pF (xIni (fun _ => 0)))), (p1, .inr (kc 1, pF (xIni (fun _ => 0)))), (p2, .inr (kc 2, pF (xIni (fun _ => 0)))), (p3, .inr (kc 3, pF (xIni (fun _ => 0))))]) H := hP
  have hD : va_D A ([(a, .inr (7, [.ref (q1), .ref (q3), .ref (q4), .ref (q5), .ref (q10), .ref (q11), .int ((-1)), .int 0, .int 0, .int 0, .int 0, .int 0, .int ((-1)), .int 0, .int 0, .int 0])), (q1, .inr (3, [.ref (q2), .int 0])), (q2, .inl (cI, 10, .inl (fun _ => 0))), (q3, .inl (cP, 4, (.inr (.inr (.inr (.inr (fun _ => none))))))), (q4, .inl (cI, 5, .inl (fun _ => 0))), (q5, .inr (1, [.ref (q6), .ref (q7), .ref (q8), .ref (q9), .int 0, .int 0])), (q6, .inl (cI, 8, .inl (fun _ => 0))), (q7, .inl (cI, 8, .inl (fun _ => 0))), (q8, .inl (cI, 8, .inl (fun _ => 0))), (q9, .inl (cI, 8, .inl (fun _ => 0))), (q10, .inl (cP, 5, (.inr (.inr (.inr (.inr (su (su (su (su (fun _ => none) 0 (some p0)) 1 (some p1)) 2 (some p2)) 3 (some p3)))))))), (q11, .inl (cI, 64, .inl (fun _ => 0))), (p0, .inr (kc 0, pF (xIni (fun _ => 0)))), (p1, .inr (kc 1, pF (xIni (fun _ => 0)))), (p2, .inr (kc 2, pF (xIni (fun _ => 0)))), (p3, .inr (kc 3, pF (xIni (fun _ => 0))))]) := hD
  refine lv_iinc (v := nI (4)) (lv' := [(1, .int (nI (4))), (0, .ref (a))]) hx hb dX7_init_84 hl (k := 0) rfl (nI_1 _) (by decide) rfl (fun ls hl => ?_)
  refine lv_goto (tgt := 69) hx hb dX7_init_87 (by decide) ?_
  refine lv_iload_n hx hb dX7_init_69 rfl (lv_at hl 0 rfl) ?_
  refine lv_iconst (v := nI (5)) hx hb dX7_init_70 (by decide +kernel) ?_
  refine lv_icmp_ge (tgt := 90) hx hb dX7_init_71 (by decide) (fun c_9 => absurd c_9 (by decide +kernel)) (fun c_9 => ?_)
  refine lv_aload_n hx hb dX7_init_74 rfl (lv_at hl 1 rfl) ?_
  refine va_get (D := (dC, dI)) (ci := 7) (v := .ref (q10)) (C := RX7) (T := TX7) (N := 16) hx hb hts hin7 hown hK hP 0 rfl rfl 4 (by decide) hW17 (fun _ h9 => h9) rfl dX7_init_75 ?_
  refine lv_iload_n hx hb dX7_init_78 rfl (lv_at hl 0 rfl) ?_
  refine lv_iload_n hx hb dX7_init_79 rfl (lv_at hl 0 rfl) ?_
  have hFc : ∀ q, va_A ([] : va_W) H.size q → A q := fun q h => h.elim (fun ⟨j, e, hj⟩ => by cases hj) (fun h => hA q (Nat.le_trans hS.1 h))
  refine va_callr (va_runS (As := [.int (nI (4))]) (rest := [.int (nI (4)), .ref (q10)]) ⟨hx, hb, hml, hown, hts⟩ (c7_newPerson l dC dI [(cI, .int), (cP, .object RX4)] 4 (by omega) H.size) (va_cwS 1 hts gX7_init_X7_newPerson rfl rfl rfl (by decide +kernel) ⟨Nat.le_of_ble_eq_true rfl, Nat.le_of_ble_eq_true rfl⟩) ⟨fun a U g mk q => by obtain ⟨q0, q1, qP, qK, qN, qD⟩ := q; exact ⟨q0, q1, qP, va_K.moved (u := U) (U := U.calling g mk a) (Vm.Alike.refl U.vm) qK, xN.same (u := U) (U := U.calling g mk a) rfl qN, qD⟩, fun U hU hW => ⟨rfl, by rw [hU], (fun k q h => by cases h), va_K.moved hW.alike hK, xN.warm hW hN, ⟨(fun i j p q h => by cases h), (fun k q h => by cases h)⟩⟩⟩ rfl rfl hl.1 rfl (lv_room (Nat.le_of_ble_eq_true rfl)) dX7_init_80 ⟨Nat.le_of_ble_eq_true rfl, Nat.le_of_ble_eq_true rfl⟩) hS (fun q _ h => hFc q h) hFc (fun u p4 t H1 locs ht hvm hw hB hz1 hk1 hS => ?_)
  have hw : u = xIni (fun _ => 0) := hw
  subst hw
  obtain ⟨hP1, hK1, hD1⟩ := hB
  rw [ht] at hP1
  obtain ⟨hP, hD⟩ := jn hP hD hk1 hFc hP1 hD1
  clear hP1 hD1 hK1 hFc hk1 hz1
  generalize H1 = H at hP hS ⊢
  have hP : va_P (dC, dI) vwCl ([(a, .inr (7, [.ref (q1), .ref (q3), .ref (q4), .ref (q5), .ref (q10), .ref (q11), .int ((-1)), .int 0, .int 0, .int 0, .int 0, .int 0, .int ((-1)), .int 0, .int 0, .int 0])), (q1, .inr (3, [.ref (q2), .int 0])), (q2, .inl (cI, 10, .inl (fun _ => 0))), (q3, .inl (cP, 4, (.inr (.inr (.inr (.inr (fun _ => none))))))), (q4, .inl (cI, 5, .inl (fun _ => 0))), (q5, .inr (1, [.ref (q6), .ref (q7), .ref (q8), .ref (q9), .int 0, .int 0])), (q6, .inl (cI, 8, .inl (fun _ => 0))), (q7, .inl (cI, 8, .inl (fun _ => 0))), (q8, .inl (cI, 8, .inl (fun _ => 0))), (q9, .inl (cI, 8, .inl (fun _ => 0))), (q10, .inl (cP, 5, (.inr (.inr (.inr (.inr (su (su (su (su (fun _ => none) 0 (some p0)) 1 (some p1)) 2 (some p2)) 3 (some p3)))))))), (q11, .inl (cI, 64, .inl (fun _ => 0))), (p0, .inr (kc 0, pF (xIni (fun _ => 0)))), (p1, .inr (kc 1, pF (xIni (fun _ => 0)))), (p2, .inr (kc 2, pF (xIni (fun _ => 0)))), (p3, .inr (kc 3, pF (xIni (fun _ => 0)))), (p4, .inr (kc 4, pF (xIni (fun _ => 0))))]) H := hP
  have hD : va_D A ([(a, .inr (7, [.ref (q1), .ref (q3), .ref (q4), .ref (q5), .ref (q10), .ref (q11), .int ((-1)), .int 0, .int 0, .int 0, .int 0, .int 0, .int ((-1)), .int 0, .int 0, .int 0])), (q1, .inr (3, [.ref (q2), .int 0])), (q2, .inl (cI, 10, .inl (fun _ => 0))), (q3, .inl (cP, 4, (.inr (.inr (.inr (.inr (fun _ => none))))))), (q4, .inl (cI, 5, .inl (fun _ => 0))), (q5, .inr (1, [.ref (q6), .ref (q7), .ref (q8), .ref (q9), .int 0, .int 0])), (q6, .inl (cI, 8, .inl (fun _ => 0))), (q7, .inl (cI, 8, .inl (fun _ => 0))), (q8, .inl (cI, 8, .inl (fun _ => 0))), (q9, .inl (cI, 8, .inl (fun _ => 0))), (q10, .inl (cP, 5, (.inr (.inr (.inr (.inr (su (su (su (su (fun _ => none) 0 (some p0)) 1 (some p1)) 2 (some p2)) 3 (some p3)))))))), (q11, .inl (cI, 64, .inl (fun _ => 0))), (p0, .inr (kc 0, pF (xIni (fun _ => 0)))), (p1, .inr (kc 1, pF (xIni (fun _ => 0)))), (p2, .inr (kc 2, pF (xIni (fun _ => 0)))), (p3, .inr (kc 3, pF (xIni (fun _ => 0)))), (p4, .inr (kc 4, pF (xIni (fun _ => 0))))]) := hD
  refine ap hx hb hN hK hP hD hS 10 1 16 (k := 4) (by decide) rfl rfl rfl (j := 4) rfl (by decide) (by decide) dX7_init_83 (fun H locs hP hD hS => ?_)
  have hP : va_P (dC, dI) vwCl ([(a, .inr (7, [.ref (q1), .ref (q3), .ref (q4), .ref (q5), .ref (q10), .ref (q11), .int ((-1)), .int 0, .int 0, .int 0, .int 0, .int 0, .int ((-1)), .int 0, .int 0, .int 0])), (q1, .inr (3, [.ref (q2), .int 0])), (q2, .inl (cI, 10, .inl (fun _ => 0))), (q3, .inl (cP, 4, (.inr (.inr (.inr (.inr (fun _ => none))))))), (q4, .inl (cI, 5, .inl (fun _ => 0))), (q5, .inr (1, [.ref (q6), .ref (q7), .ref (q8), .ref (q9), .int 0, .int 0])), (q6, .inl (cI, 8, .inl (fun _ => 0))), (q7, .inl (cI, 8, .inl (fun _ => 0))), (q8, .inl (cI, 8, .inl (fun _ => 0))), (q9, .inl (cI, 8, .inl (fun _ => 0))), (q10, .inl (cP, 5, (.inr (.inr (.inr (.inr (su (su (su (su (su (fun _ => none) 0 (some p0)) 1 (some p1)) 2 (some p2)) 3 (some p3)) 4 (some p4)))))))), (q11, .inl (cI, 64, .inl (fun _ => 0))), (p0, .inr (kc 0, pF (xIni (fun _ => 0)))), (p1, .inr (kc 1, pF (xIni (fun _ => 0)))), (p2, .inr (kc 2, pF (xIni (fun _ => 0)))), (p3, .inr (kc 3, pF (xIni (fun _ => 0)))), (p4, .inr (kc 4, pF (xIni (fun _ => 0))))]) H := hP
  have hD : va_D A ([(a, .inr (7, [.ref (q1), .ref (q3), .ref (q4), .ref (q5), .ref (q10), .ref (q11), .int ((-1)), .int 0, .int 0, .int 0, .int 0, .int 0, .int ((-1)), .int 0, .int 0, .int 0])), (q1, .inr (3, [.ref (q2), .int 0])), (q2, .inl (cI, 10, .inl (fun _ => 0))), (q3, .inl (cP, 4, (.inr (.inr (.inr (.inr (fun _ => none))))))), (q4, .inl (cI, 5, .inl (fun _ => 0))), (q5, .inr (1, [.ref (q6), .ref (q7), .ref (q8), .ref (q9), .int 0, .int 0])), (q6, .inl (cI, 8, .inl (fun _ => 0))), (q7, .inl (cI, 8, .inl (fun _ => 0))), (q8, .inl (cI, 8, .inl (fun _ => 0))), (q9, .inl (cI, 8, .inl (fun _ => 0))), (q10, .inl (cP, 5, (.inr (.inr (.inr (.inr (su (su (su (su (su (fun _ => none) 0 (some p0)) 1 (some p1)) 2 (some p2)) 3 (some p3)) 4 (some p4)))))))), (q11, .inl (cI, 64, .inl (fun _ => 0))), (p0, .inr (kc 0, pF (xIni (fun _ => 0)))), (p1, .inr (kc 1, pF (xIni (fun _ => 0)))), (p2, .inr (kc 2, pF (xIni (fun _ => 0)))), (p3, .inr (kc 3, pF (xIni (fun _ => 0)))), (p4, .inr (kc 4, pF (xIni (fun _ => 0))))]) := hD
  refine lv_iinc (v := nI (5)) (lv' := [(1, .int (nI (5))), (0, .ref (a))]) hx hb dX7_init_84 hl (k := 0) rfl (nI_1 _) (by decide) rfl (fun ls hl => ?_)
  refine lv_goto (tgt := 69) hx hb dX7_init_87 (by decide) ?_
  refine lv_iload_n hx hb dX7_init_69 rfl (lv_at hl 0 rfl) ?_
  refine lv_iconst (v := nI (5)) hx hb dX7_init_70 (by decide +kernel) ?_
  refine lv_icmp_ge (tgt := 90) hx hb dX7_init_71 (by decide) (fun c_9 => ?_) (fun c_9 => absurd c_9 (by decide +kernel))
  obtain ⟨o, ho⟩ : ∃ o : Nat → Nat, o = (fun k : Nat => match k with | 0 => q1 | 1 => q3 | 2 => q4 | 3 => q5 | 4 => q10 | 5 => q11 | 6 => q2 | 7 => q6 | 8 => q7 | 9 => q8 | 10 => q9 | 11 => p0 | 12 => p1 | 13 => p2 | 14 => p3 | _ => p4) := ⟨_, rfl⟩
  have hP := va_P_rowq hP 10 (f' := fun i => some (o (11 + i))) rfl (fun j hj => by rcases (show j = 0 ∨ j = 1 ∨ j = 2 ∨ j = 3 ∨ j = 4 by omega) with rfl | rfl | rfl | rfl | rfl <;> rw [ho] <;> rfl)
  have hD := hD.set (p := 10) (a := q10) (e0 := .inl (cP, 5, (.inr (.inr (.inr (.inr (su (su (su (su (su (fun _ => none) 0 (some p0)) 1 (some p1)) 2 (some p2)) 3 (some p3)) 4 (some p4)))))))) (e := .inl (cP, 5, (.inr (.inr (.inr (.inr (fun i => some (o (11 + i))))))))) rfl
  have hP : va_P (dC, dI) vwCl ([(a, .inr (7, [.ref (q1), .ref (q3), .ref (q4), .ref (q5), .ref (q10), .ref (q11), .int ((-1)), .int 0, .int 0, .int 0, .int 0, .int 0, .int ((-1)), .int 0, .int 0, .int 0])), (q1, .inr (3, [.ref (q2), .int 0])), (q2, .inl (cI, 10, .inl (fun _ => 0))), (q3, .inl (cP, 4, (.inr (.inr (.inr (.inr (fun _ => none))))))), (q4, .inl (cI, 5, .inl (fun _ => 0))), (q5, .inr (1, [.ref (q6), .ref (q7), .ref (q8), .ref (q9), .int 0, .int 0])), (q6, .inl (cI, 8, .inl (fun _ => 0))), (q7, .inl (cI, 8, .inl (fun _ => 0))), (q8, .inl (cI, 8, .inl (fun _ => 0))), (q9, .inl (cI, 8, .inl (fun _ => 0))), (q10, .inl (cP, 5, (.inr (.inr (.inr (.inr (fun i => some (o (11 + i))))))))), (q11, .inl (cI, 64, .inl (fun _ => 0))), (p0, .inr (kc 0, pF (xIni (fun _ => 0)))), (p1, .inr (kc 1, pF (xIni (fun _ => 0)))), (p2, .inr (kc 2, pF (xIni (fun _ => 0)))), (p3, .inr (kc 3, pF (xIni (fun _ => 0)))), (p4, .inr (kc 4, pF (xIni (fun _ => 0))))]) H := hP
  have hD : va_D A ([(a, .inr (7, [.ref (q1), .ref (q3), .ref (q4), .ref (q5), .ref (q10), .ref (q11), .int ((-1)), .int 0, .int 0, .int 0, .int 0, .int 0, .int ((-1)), .int 0, .int 0, .int 0])), (q1, .inr (3, [.ref (q2), .int 0])), (q2, .inl (cI, 10, .inl (fun _ => 0))), (q3, .inl (cP, 4, (.inr (.inr (.inr (.inr (fun _ => none))))))), (q4, .inl (cI, 5, .inl (fun _ => 0))), (q5, .inr (1, [.ref (q6), .ref (q7), .ref (q8), .ref (q9), .int 0, .int 0])), (q6, .inl (cI, 8, .inl (fun _ => 0))), (q7, .inl (cI, 8, .inl (fun _ => 0))), (q8, .inl (cI, 8, .inl (fun _ => 0))), (q9, .inl (cI, 8, .inl (fun _ => 0))), (q10, .inl (cP, 5, (.inr (.inr (.inr (.inr (fun i => some (o (11 + i))))))))), (q11, .inl (cI, 64, .inl (fun _ => 0))), (p0, .inr (kc 0, pF (xIni (fun _ => 0)))), (p1, .inr (kc 1, pF (xIni (fun _ => 0)))), (p2, .inr (kc 2, pF (xIni (fun _ => 0)))), (p3, .inr (kc 3, pF (xIni (fun _ => 0)))), (p4, .inr (kc 4, pF (xIni (fun _ => 0))))]) := hD
  have hP := hP.sub (ws' := xW cI cP a o xf0 xg0 (fun _ => none) xt0 0 (fun _ => 0) (fun _ => 0) (fun _ _ => 0)) [0, 1, 2, 3, 4, 5, 6, 7, 8, 9, 10, 11, 12, 13, 14, 15, 16] (by subst ho; rfl)
  have hD := hD.sub (ws' := xW cI cP a o xf0 xg0 (fun _ => none) xt0 0 (fun _ => 0) (fun _ => 0) (fun _ _ => 0)) [0, 1, 2, 3, 4, 5, 6, 7, 8, 9, 10, 11, 12, 13, 14, 15, 16] (by decide) (by subst ho; rfl)
  exact W.vret hx hb hr (fun t ht hW => ⟨⟨(cI, cP, o), rfl, trivial, by rw [ht]; exact hP, va_K.moved hW.alike hK, hD⟩, hS.F ht⟩) hS.2.2 dX7_init_90
