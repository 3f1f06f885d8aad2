section TQ
variable {p : Program} {l : Launch} {e : Env} {R : Room} {s : State} {m : MethodId} {args : Array Value} {below : List Frame} {meth : Method} {c : Code} {H : Heap} {locs : List Loc} {cells slots : Nat} {Q : State → Prop} {pc : Nat} {ls : Array Slot} {rest : List Value}
theorem tq {x y : Int32} (h : x = y) (k : W p l e R s m args below meth c H locs cells slots Q (F0 m pc ls (.int y :: rest))) : W p l e R s m args below meth c H locs cells slots Q (F0 m pc ls (.int x :: rest)) := tv h k
end TQ
set_option maxHeartbeats 1200000 in
set_option maxRecDepth 100000 in
theorem c3_put (l : Launch) (dC : Nat → ClassId) (dI : Nat → Nat → Nat) (cI cP : ClassId) (a : Nat) (o : Nat → Nat) (f : Nat → Int32) (g : Nat → Nat → Int32) (pa : Nat → Option Nat) (tv : Nat → Nat → Int32) (n : Nat) (pd pk : Nat → Nat) (pv : Nat → Nat → Int32) (sz : Nat) {k16 : Nat} (e16 : f 16 = nI k16) (b16 : k16 ≤ 10) (x : Int32) : Met l yX3_put wsX3_put ({ frames := 0, cells := 0, slots := 0, locals := 0 } : Room) (va_Pc [.ref (o 0), .int (x)] (fun U => U.heap.size = sz ∧ va_P (dC, dI) vwCl (xW cI cP a o f g pa tv n pd pk pv) U.heap ∧ va_K (dC, dI) vwCl [(cI, .int), (cP, .object RX4)] U ∧ xN U ∧ va_D (fun _ => True) (xW cI cP a o f g pa tv n pd pk pv))) (va_Qv (fun (u : XSt) => u = if k16 < 10 then (su f 16 (nI (k16 + 1)), su g 0 (su (g 0) k16 x), pa, tv, n, pd, pk, pv) else (f, g, pa, tv, n, pd, pk, pv)) (xB dC dI cI cP a o (va_A (xW cI cP a o f g pa tv n pd pk pv) sz)) (va_A (xW cI cP a o f g pa tv n pd pk pv) sz)) 0 0 (va_A (xW cI cP a o f g pa tv n pd pk pv) sz) := by
  refine Met.ofW (cc := cX3_put) (maxL := 2) (ret := none) (by decide) rfl ?_
  intro p_ e_ s m args below meth c_0 s₁ B hml hv
  obtain ⟨rfl, hsz, hP, hK, hN, hD0⟩ := hv
  have hx := B.exec
  have hb := B.bytes
  have hr := B.returns
  have hts := atoms_spec (ws := wsX3_put) B.pre
  have hown : s.vm.findClass RX3 = some m.cls := findClass_of_methodNamed B.named
  have hlocks := B.notSynchronized
  subst hsz
  have hD := hD0.self (sz := s.heap.size)
  generalize hAe : va_A (xW cI cP a o f g pa tv n pd pk pv) s.heap.size = A at hD ⊢
  have hA : ∀ q : Nat, s.heap.size ≤ q → A q := fun q h => by rw [← hAe]; exact Or.inr h
  obtain ⟨H, hHe⟩ : ∃ H : Heap, H = s.heap := ⟨_, rfl⟩
  have hS : va_S A s.heap H [] := by rw [hHe]; exact va_S.rf
  rw [← hHe] at hP ⊢
  have hP : va_P (dC, dI) vwCl (xW cI cP a o f g pa tv n pd pk pv) H := hP
  have hl := lv_entry ([.ref (o 0), .int (x)]) (n := 2) (Nat.le_of_ble_eq_true rfl)
  rw [lg_entry_eq]
  generalize (lg_sl ([.ref (o 0), .int (x)]) ++ List.replicate (2 - (lg_sl ([.ref (o 0), .int (x)])).length) Slot.unset).toArray = ls at hl ⊢
  have hl : lv_has ls 2 [(0, .ref (o 0)), (1, .int (x))] := hl
  have hin3 : ∀ w ∈ wsX30, w ∈ wsX3_put := fun _ h => List.mem_cons_of_mem _ (List.mem_append_right _ h)
  have hW0 := hts (.fieldLink RX3 15 "EachEye$Page" "size" "I") (by decide +kernel)
  have hW1 := hts (.fieldLink RX3 9 "EachEye$Page" "codes" "[I") (by decide +kernel)
  refine lv_aload_n hx hb dX3_put_0 rfl (lv_at hl 0 rfl) ?_
  refine va_get (D := (dC, dI)) (ci := 3) (v := .int (nI (k16))) (C := RX3) (T := TX3) (N := 2) hx hb hts hin3 hown hK hP 1 rfl rfl 1 (by decide) hW0 (fun _ h9 => h9) (congrArg (fun z => some (Value.int z)) e16) dX3_put_1 ?_
  refine lv_bipush (v := nI (10)) hx hb dX3_put_4 (by decide +kernel) ?_
  refine lv_icmp_ge (tgt := 29) hx hb dX3_put_6 (by decide) (fun c_1 => ?_) (fun c_1 => ?_)
  · skip
    rw [nI_leI (a := 10) (b := k16) (by omega) (by omega)] at c_1
    have hP9 : va_P (dC, dI) vwCl (xW cI cP a o f g pa tv n pd pk pv) H := hP
    exact W.vret hx hb hr (fun t ht hW => ⟨⟨(f, g, pa, tv, n, pd, pk, pv), rfl, (by show ((f, g, pa, tv, n, pd, pk, pv) : XSt) = if k16 < 10 then (su f 16 (nI (k16 + 1)), su g 0 (su (g 0) k16 x), pa, tv, n, pd, pk, pv) else (f, g, pa, tv, n, pd, pk, pv); rw [if_neg (by omega)]), by rw [ht]; exact hP9, va_K.moved hW.alike hK, hD⟩, hS.F ht⟩) hS.2.2 dX3_put_29
  · skip
    rw [nI_leI (a := 10) (b := k16) (by omega) (by omega)] at c_1
    refine lv_aload_n hx hb dX3_put_9 rfl (lv_at hl 0 rfl) ?_
    refine va_get (D := (dC, dI)) (ci := 3) (v := .ref (o 6)) (C := RX3) (T := TX3) (N := 2) hx hb hts hin3 hown hK hP 1 rfl rfl 0 (by decide) hW1 (fun _ h9 => h9) rfl dX3_put_10 ?_
    refine lv_aload_n hx hb dX3_put_13 rfl (lv_at hl 0 rfl) ?_
    refine va_get (D := (dC, dI)) (ci := 3) (v := .int (nI (k16))) (C := RX3) (T := TX3) (N := 2) hx hb hts hin3 hown hK hP 1 rfl rfl 1 (by decide) hW0 (fun _ h9 => h9) (congrArg (fun z => some (Value.int z)) e16) dX3_put_14 ?_
    refine lv_iload_n hx hb dX3_put_17 rfl (lv_at hl 1 rfl) ?_
    refine ast hx hb hK hP hD hS (f := g 0) (k := k16) 2 0 rfl rfl rfl (by omega) (by decide) dX3_put_18 (fun H locs hP hD hS => ?_)
    have hP : va_P (dC, dI) vwCl (xW cI cP a o f (su g 0 (su (g 0) (k16) (x))) pa tv n pd pk pv) H := hP
    have hD : va_D A (xW cI cP a o f (su g 0 (su (g 0) (k16) (x))) pa tv n pd pk pv) := hD
    refine lv_aload_n hx hb dX3_put_19 rfl (lv_at hl 0 rfl) ?_
    refine lv_dup hx hb dX3_put_20 rfl ?_
    refine va_get (D := (dC, dI)) (ci := 3) (v := .int (nI (k16))) (C := RX3) (T := TX3) (N := 2) hx hb hts hin3 hown hK hP 1 rfl rfl 1 (by decide) hW0 (fun _ h9 => h9) (congrArg (fun z => some (Value.int z)) e16) dX3_put_21 ?_
    refine lv_iconst (v := nI (1)) hx hb dX3_put_24 (by decide +kernel) ?_
    refine lv_iadd hx hb dX3_put_25 ?_
    refine tq (nI_add (k16) (1)) ?_
    refine va_put (D := (dC, dI)) (ci := 3) (v := .int (nI (k16 + 1))) (ty := .int) (C := RX3) (T := TX3) (N := 2) hx hb hts hin3 tyX3 tyX3_ok nmX3 hown hK hP hD hS 1 rfl rfl 1 (by decide) hW0 (fun _ h9 => h9) rfl (by decide +kernel) rfl rfl (Nat.le_of_ble_eq_true rfl) dX3_put_26 (fun H locs hP hD hS => ?_)
    have hP : va_P (dC, dI) vwCl (xW cI cP a o (su f 16 (nI (k16 + 1))) (su g 0 (su (g 0) (k16) (x))) pa tv n pd pk pv) H := hP
    have hD : va_D A (xW cI cP a o (su f 16 (nI (k16 + 1))) (su g 0 (su (g 0) (k16) (x))) pa tv n pd pk pv) := hD
    have hP9 : va_P (dC, dI) vwCl (xW cI cP a o (su f 16 (nI (k16 + 1))) (su g 0 (su (g 0) (k16) (x))) pa tv n pd pk pv) H := hP
    exact W.vret hx hb hr (fun t ht hW => ⟨⟨(su f 16 (nI (k16 + 1)), su g 0 (su (g 0) (k16) (x)), pa, tv, n, pd, pk, pv), rfl, (by show ((su f 16 (nI (k16 + 1)), su g 0 (su (g 0) (k16) (x)), pa, tv, n, pd, pk, pv) : XSt) = if k16 < 10 then (su f 16 (nI (k16 + 1)), su g 0 (su (g 0) k16 x), pa, tv, n, pd, pk, pv) else (f, g, pa, tv, n, pd, pk, pv); rw [if_pos (by omega)]), by rw [ht]; exact hP9, va_K.moved hW.alike hK, hD⟩, hS.F ht⟩) hS.2.2 dX3_put_29

set_option maxHeartbeats 1200000 in
set_option maxRecDepth 100000 in
theorem c3_empty (l : Launch) (dC : Nat → ClassId) (dI : Nat → Nat → Nat) (cI cP : ClassId) (a : Nat) (o : Nat → Nat) (f : Nat → Int32) (g : Nat → Nat → Int32) (pa : Nat → Option Nat) (tv : Nat → Nat → Int32) (n : Nat) (pd pk : Nat → Nat) (pv : Nat → Nat → Int32) (sz : Nat) : Met l yX3_empty wsX3_empty ({ frames := 0, cells := 0, slots := 0, locals := 0 } : Room) (va_Pc [.ref (o 0)] (fun U => U.heap.size = sz ∧ va_P (dC, dI) vwCl (xW cI cP a o f g pa tv n pd pk pv) U.heap ∧ va_K (dC, dI) vwCl [(cI, .int), (cP, .object RX4)] U ∧ xN U ∧ va_D (fun _ => True) (xW cI cP a o f g pa tv n pd pk pv))) (va_Qv (fun (u : XSt) => u = (su f 16 (nI 0), g, pa, tv, n, pd, pk, pv)) (xB dC dI cI cP a o (va_A (xW cI cP a o f g pa tv n pd pk pv) sz)) (va_A (xW cI cP a o f g pa tv n pd pk pv) sz)) 0 0 (va_A (xW cI cP a o f g pa tv n pd pk pv) sz) := by
  refine Met.ofW (cc := cX3_empty) (maxL := 1) (ret := none) (by decide) rfl ?_
  intro p_ e_ s m args below meth c_0 s₁ B hml hv
  obtain ⟨rfl, hsz, hP, hK, hN, hD0⟩ := hv
  have hx := B.exec
  have hb := B.bytes
  have hr := B.returns
  have hts := atoms_spec (ws := wsX3_empty) B.pre
  have hown : s.vm.findClass RX3 = some m.cls := findClass_of_methodNamed B.named
  have hlocks := B.notSynchronized
  subst hsz
  have hD := hD0.self (sz := s.heap.size)
  generalize hAe : va_A (xW cI cP a o f g pa tv n pd pk pv) s.heap.size = A at hD ⊢
  have hA : ∀ q : Nat, s.heap.size ≤ q → A q := fun q h => by rw [← hAe]; exact Or.inr h
  obtain ⟨H, hHe⟩ : ∃ H : Heap, H = s.heap := ⟨_, rfl⟩
  have hS : va_S A s.heap H [] := by rw [hHe]; exact va_S.rf
  rw [← hHe] at hP ⊢
  have hP : va_P (dC, dI) vwCl (xW cI cP a o f g pa tv n pd pk pv) H := hP
  have hl := lv_entry ([.ref (o 0)]) (n := 1) (Nat.le_of_ble_eq_true rfl)
  rw [lg_entry_eq]
  generalize (lg_sl ([.ref (o 0)]) ++ List.replicate (1 - (lg_sl ([.ref (o 0)])).length) Slot.unset).toArray = ls at hl ⊢
  have hl : lv_has ls 1 [(0, .ref (o 0))] := hl
  have hin3 : ∀ w ∈ wsX30, w ∈ wsX3_empty := fun _ h => List.mem_cons_of_mem _ (List.mem_append_right _ h)
  have hW0 := hts (.fieldLink RX3 15 "EachEye$Page" "size" "I") (by decide +kernel)
  refine lv_aload_n hx hb dX3_empty_0 rfl (lv_at hl 0 rfl) ?_
  refine lv_iconst (v := nI (0)) hx hb dX3_empty_1 (by decide +kernel) ?_
  refine va_put (D := (dC, dI)) (ci := 3) (v := .int (nI (0))) (ty := .int) (C := RX3) (T := TX3) (N := 2) hx hb hts hin3 tyX3 tyX3_ok nmX3 hown hK hP hD hS 1 rfl rfl 1 (by decide) hW0 (fun _ h9 => h9) rfl (by decide +kernel) rfl rfl (Nat.le_of_ble_eq_true rfl) dX3_empty_2 (fun H locs hP hD hS => ?_)
  have hP : va_P (dC, dI) vwCl (xW cI cP a o (su f 16 (nI (0))) g pa tv n pd pk pv) H := hP
  have hD : va_D A (xW cI cP a o (su f 16 (nI (0))) g pa tv n pd pk pv) := hD
  have hP9 : va_P (dC, dI) vwCl (xW cI cP a o (su f 16 (nI (0))) g pa tv n pd pk pv) H := hP
  exact W.vret hx hb hr (fun t ht hW => ⟨⟨(su f 16 (nI (0)), g, pa, tv, n, pd, pk, pv), rfl, (by show ((su f 16 (nI (0)), g, pa, tv, n, pd, pk, pv) : XSt) = (su f 16 (nI 0), g, pa, tv, n, pd, pk, pv); rfl), by rw [ht]; exact hP9, va_K.moved hW.alike hK, hD⟩, hS.F ht⟩) hS.2.2 dX3_empty_5

set_option maxHeartbeats 1200000 in
set_option maxRecDepth 100000 in
theorem c3_soundLetters (l : Launch) (dC : Nat → ClassId) (dI : Nat → Nat → Nat) (cI cP : ClassId) (a : Nat) (o : Nat → Nat) (f : Nat → Int32) (g : Nat → Nat → Int32) (pa : Nat → Option Nat) (tv : Nat → Nat → Int32) (n : Nat) (pd pk : Nat → Nat) (pv : Nat → Nat → Int32) {k16 : Nat} (e16 : f 16 = nI k16) (b16 : k16 ≤ 10) : Met l yX3_soundLetters wsX3_soundLetters ({ frames := 1, cells := 0, slots := 0, locals := 20 } : Room) (va_Pc [.ref (o 0)] (fun U => va_P (dC, dI) vwCl (xW cI cP a o f g pa tv n pd pk pv) U.heap ∧ va_K (dC, dI) vwCl [(cI, .int), (cP, .object RX4)] U ∧ xN U)) (vp_Si (fun r => r = nI (xfl g k16))) 0 0 (fun _ => False) := by
  refine Met.ofW (cc := cX3_soundLetters) (maxL := 2) (ret := (some .int)) (by decide) rfl ?_
  intro p_ e_ s m args below meth c_0 s₁ B hml hv
  obtain ⟨rfl, hP, hK, hN⟩ := hv
  have hx := B.exec
  have hb := B.bytes
  have hr := B.returns
  have hts := atoms_spec (ws := wsX3_soundLetters) B.pre
  have hown : s.vm.findClass RX3 = some m.cls := findClass_of_methodNamed B.named
  have hlocks := B.notSynchronized
  have hP : va_P (dC, dI) vwCl (xW cI cP a o f g pa tv n pd pk pv) s.heap := hP
  have hl := lv_entry ([.ref (o 0)]) (n := 2) (Nat.le_of_ble_eq_true rfl)
  rw [lg_entry_eq]
  generalize (lg_sl ([.ref (o 0)]) ++ List.replicate (2 - (lg_sl ([.ref (o 0)])).length) Slot.unset).toArray = ls at hl ⊢
  have hl : lv_has ls 2 [(0, .ref (o 0))] := hl
  have hin3 : ∀ w ∈ wsX30, w ∈ wsX3_soundLetters := fun _ h => List.mem_cons_of_mem _ (List.mem_append_right _ h)
  have hW0 := hts (.fieldLink RX3 15 "EachEye$Page" "size" "I") (by decide +kernel)
  have hW1 := hts (.fieldLink RX3 9 "EachEye$Page" "codes" "[I") (by decide +kernel)
  have hW2 := hts (.initialized RX7) (by decide +kernel)
  have hW3 := hts (.static yX7_isHue) (by decide +kernel)
  refine lv_iconst (v := nI (0)) hx hb dX3_soundLetters_0 (by decide +kernel) ?_
  refine lv_istore_n (lv' := [(1, .int (nI (0))), (0, .ref (o 0))]) hx hb dX3_soundLetters_1 rfl hl (by decide) rfl (fun ls hl => ?_)
  refine lp_ro (fun k : Nat => 6 - k) (fun k : Nat => k ≤ min k16 6 ∧ ∀ j, j < k → xdg g j = true) (fun k : Nat => [(0, .ref (o 0)), (1, .int (nI (k)))]) (0) ⟨by omega, fun j h => absurd h (Nat.not_lt_zero _)⟩ (by show lv_has ls 2 [(0, .ref (o 0)), (1, .int (nI (0)))]; exact lv_sub hl [1, 0] rfl) (fun k hI ih_2 ls hl => ?_)
  have hI : k ≤ min k16 6 ∧ ∀ j, j < k → xdg g j = true := hI
  have hl : lv_has ls 2 [(0, .ref (o 0)), (1, .int (nI (k)))] := hl
  have hI1 := hI.1
  refine lv_iload_n hx hb dX3_soundLetters_2 rfl (lv_at hl 1 rfl) ?_
  refine lv_aload_n hx hb dX3_soundLetters_3 rfl (lv_at hl 0 rfl) ?_
  refine va_get (D := (dC, dI)) (ci := 3) (v := .int (nI (k16))) (C := RX3) (T := TX3) (N := 2) hx hb hts hin3 hown hK hP 1 rfl rfl 1 (by decide) hW0 (fun _ h9 => h9) (congrArg (fun z => some (Value.int z)) e16) dX3_soundLetters_4 ?_
  refine lv_icmp_ge (tgt := 37) hx hb dX3_soundLetters_7 (by decide) (fun c_1 => ?_) (fun c_1 => ?_)
  · skip
    rw [nI_leI (a := k16) (b := k) (by omega) (by omega)] at c_1
    refine lv_iload_n hx hb dX3_soundLetters_37 rfl (lv_at hl 1 rfl) ?_
    exact W.iret (v := nI (k)) hx hb hr (fun t ht hW => ⟨nI (k), rfl, (by show nI (k) = nI (xfl g k16); rw [xfl, show min k16 6 = k by omega, fst1_no (fun j hj => by rw [hI.2 j hj]; rfl)]), ht⟩) (fun _ h => by cases h) dX3_soundLetters_38
  · skip
    rw [nI_leI (a := k16) (b := k) (by omega) (by omega)] at c_1
    refine lv_iload_n hx hb dX3_soundLetters_10 rfl (lv_at hl 1 rfl) ?_
    refine lv_bipush (v := nI (6)) hx hb dX3_soundLetters_11 (by decide +kernel) ?_
    refine lv_icmp_ge (tgt := 37) hx hb dX3_soundLetters_13 (by decide) (fun c_2 => ?_) (fun c_2 => ?_)
    · skip
      rw [nI_leI (a := 6) (b := k) (by omega) (by omega)] at c_2
      refine lv_iload_n hx hb dX3_soundLetters_37 rfl (lv_at hl 1 rfl) ?_
      exact W.iret (v := nI (k)) hx hb hr (fun t ht hW => ⟨nI (k), rfl, (by show nI (k) = nI (xfl g k16); rw [xfl, show min k16 6 = k by omega, fst1_no (fun j hj => by rw [hI.2 j hj]; rfl)]), ht⟩) (fun _ h => by cases h) dX3_soundLetters_38
    · skip
      rw [nI_leI (a := 6) (b := k) (by omega) (by omega)] at c_2
      refine lv_aload_n hx hb dX3_soundLetters_16 rfl (lv_at hl 0 rfl) ?_
      refine va_get (D := (dC, dI)) (ci := 3) (v := .ref (o 6)) (C := RX3) (T := TX3) (N := 2) hx hb hts hin3 hown hK hP 1 rfl rfl 0 (by decide) hW1 (fun _ h9 => h9) rfl dX3_soundLetters_17 ?_
      refine lv_iload_n hx hb dX3_soundLetters_20 rfl (lv_at hl 1 rfl) ?_
      refine ald hx hb hK hP (f := g 0) (k := k) 2 0 rfl rfl rfl (by omega) (by decide) dX3_soundLetters_21 ?_
      refine lv_bipush (v := nI (48)) hx hb dX3_soundLetters_22 (by decide +kernel) ?_
      refine lv_isub hx hb dX3_soundLetters_24 ?_
      refine vp_callSi (va_Run.run (va_runSN (As := [.int ((g 0 (k)) - (nI (48)))]) (rest := []) ⟨hx, hb, hml, hown, hts⟩ (c7_isHue l ((g 0 (k)) - (nI (48)))) ⟨va_cnB 1 hts gX3_soundLetters_X7_isHue_n19 rfl rfl rfl (hN.1 _ (List.mem_of_getElem? (i := 14) rfl)) hW2 (by decide +kernel) ⟨Nat.le_of_ble_eq_true rfl, Nat.le_of_ble_eq_true rfl⟩, hW3, trivial⟩ ⟨fun _ _ _ _ q => q, fun U hU hW => ⟨rfl, trivial⟩⟩ rfl rfl hl.1 rfl (lv_room (Nat.le_of_ble_eq_true rfl)) dX3_soundLetters_25 ⟨Nat.le_of_ble_eq_true rfl, Nat.le_of_ble_eq_true rfl⟩)) (fun r hrc => ?_)
      have hrc : r = b2i (0 ≤ ((g 0 (k)) - (nI (48))).toInt ∧ ((g 0 (k)) - (nI (48))).toInt ≤ 7) := hrc
      subst hrc
      refine lv_if_eq (tgt := 37) hx hb dX3_soundLetters_28 (by decide) (fun c_3 => ?_) (fun c_3 => ?_)
      · skip
        have c_3 := b2i_0 c_3
        refine lv_iload_n hx hb dX3_soundLetters_37 rfl (lv_at hl 1 rfl) ?_
        exact W.iret (v := nI (k)) hx hb hr (fun t ht hW => ⟨nI (k), rfl, (by show nI (k) = nI (xfl g k16); rw [xfl, fst1_at (k := k) (by omega) (fun j hj => by rw [hI.2 j hj]; rfl) (by rw [xdg, decide_eq_false c_3]; rfl)]), ht⟩) (fun _ h => by cases h) dX3_soundLetters_38
      · skip
        have c_3 := b2i_1 c_3
        refine lv_iinc (v := nI (k + 1)) (lv' := [(1, .int (nI (k + 1))), (0, .ref (o 0))]) hx hb dX3_soundLetters_31 hl (k := 1) rfl (nI_1 _) (by decide) rfl (fun ls hl => ?_)
        refine lv_goto (tgt := 2) hx hb dX3_soundLetters_34 (by decide) ?_
        exact ih_2 (k + 1) ls (by show _ < _; omega) ⟨by omega, lt_s hI.2 (by rw [xdg]; exact decide_eq_true c_3)⟩ (by show lv_has ls 2 [(0, .ref (o 0)), (1, .int (nI ((k + 1))))]; exact lv_sub hl [1, 0] rfl)

set_option maxHeartbeats 1200000 in
set_option maxRecDepth 100000 in
theorem c3_asText (l : Launch) (dC : Nat → ClassId) (dI : Nat → Nat → Nat) (cI cP : ClassId) (a : Nat) (o : Nat → Nat) (f : Nat → Int32) (g : Nat → Nat → Int32) (pa : Nat → Option Nat) (tv : Nat → Nat → Int32) (n : Nat) (pd pk : Nat → Nat) (pv : Nat → Nat → Int32) {k16 : Nat} (e16 : f 16 = nI k16) (b16 : k16 ≤ 10) : Met l yX3_asText wsX3_asText ({ frames := 2, cells := 0, slots := 0, locals := 41 } : Room) (va_Pc [.ref (o 0)] (fun U => va_P (dC, dI) vwCl (xW cI cP a o f g pa tv n pd pk pv) U.heap ∧ va_K (dC, dI) vwCl [(cI, .int), (cP, .object RX4)] U ∧ xN U)) (vp_Si (fun r => r = xText g k16)) 0 0 (fun _ => False) := by
  refine Met.ofW (cc := cX3_asText) (maxL := 3) (ret := (some .int)) (by decide) rfl ?_
  intro p_ e_ s m args below meth c_0 s₁ B hml hv
  obtain ⟨rfl, hP, hK, hN⟩ := hv
  have hx := B.exec
  have hb := B.bytes
  have hr := B.returns
  have hts := atoms_spec (ws := wsX3_asText) B.pre
  have hown : s.vm.findClass RX3 = some m.cls := findClass_of_methodNamed B.named
  have hlocks := B.notSynchronized
  have hP : va_P (dC, dI) vwCl (xW cI cP a o f g pa tv n pd pk pv) s.heap := hP
  have hl := lv_entry ([.ref (o 0)]) (n := 3) (Nat.le_of_ble_eq_true rfl)
  rw [lg_entry_eq]
  generalize (lg_sl ([.ref (o 0)]) ++ List.replicate (3 - (lg_sl ([.ref (o 0)])).length) Slot.unset).toArray = ls at hl ⊢
  have hl : lv_has ls 3 [(0, .ref (o 0))] := hl
  have hin3 : ∀ w ∈ wsX30, w ∈ wsX3_asText := fun _ h => List.mem_cons_of_mem _ (List.mem_append_right _ h)
  have hW0 := hts (.fieldLink RX3 15 "EachEye$Page" "size" "I") (by decide +kernel)
  have hW1 := hts (.fieldLink RX3 9 "EachEye$Page" "codes" "[I") (by decide +kernel)
  have hW2 := hts (.initialized RX7) (by decide +kernel)
  have hW3 := hts (.static yX7_withHue) (by decide +kernel)
  refine lv_aload_n hx hb dX3_asText_0 rfl (lv_at hl 0 rfl) ?_
  refine va_get (D := (dC, dI)) (ci := 3) (v := .int (nI (k16))) (C := RX3) (T := TX3) (N := 2) hx hb hts hin3 hown hK hP 1 rfl rfl 1 (by decide) hW0 (fun _ h9 => h9) (congrArg (fun z => some (Value.int z)) e16) dX3_asText_1 ?_
  refine lv_bipush (v := nI (6)) hx hb dX3_asText_4 (by decide +kernel) ?_
  refine lv_icmp_ne (tgt := 18) hx hb dX3_asText_6 (by decide) (fun c_1 => ?_) (fun c_1 => ?_)
  · skip
    rw [nI_eq (a := k16) (b := 6) (by omega) (by omega)] at c_1
    refine lv_iconst (v := (-1)) hx hb dX3_asText_18 (by decide +kernel) ?_
    exact W.iret (v := (-1)) hx hb hr (fun t ht hW => ⟨(-1), rfl, (by show (-1) = xText g k16; first | (simp only [xText, if_neg c_1]; done) | (simp only [xText, if_neg c_1]; rfl) | rfl | (simp [xText, if_neg c_1]; done)), ht⟩) (fun _ h => by cases h) dX3_asText_19
  · skip
    rw [nI_eq (a := k16) (b := 6) (by omega) (by omega)] at c_1
    refine lv_aload_n hx hb dX3_asText_9 rfl (lv_at hl 0 rfl) ?_
    refine vp_callSi (va_Run.run (va_runV (As := []) (rest := []) ⟨hx, hb, hml, hown, hts⟩ (c3_soundLetters l dC dI cI cP a o f g pa tv n pd pk pv e16 (by omega)  ) (cwV 0 hts gX3_asText_X3_soundLetters rfl rfl rfl (by decide +kernel) ⟨Nat.le_of_ble_eq_true rfl, Nat.le_of_ble_eq_true rfl⟩) ⟨fun a U g mk q => ⟨q.1, q.2.1, va_K.moved (u := U) (U := U.calling g mk a) (Vm.Alike.refl U.vm) q.2.2.1, xN.same (u := U) (U := U.calling g mk a) rfl q.2.2.2⟩, va_recv hK hP (ci := 3) (q0 := 1) rfl rfl, fun U hU hW => ⟨rfl, by rw [hU]; exact hP, va_K.moved hW.alike hK, xN.warm hW hN⟩⟩ rfl rfl hl.1 rfl (lv_room (Nat.le_of_ble_eq_true rfl)) dX3_asText_10 ⟨Nat.le_of_ble_eq_true rfl, Nat.le_of_ble_eq_true rfl⟩)) (fun r hrc => ?_)
    have hrc : r = nI (xfl (g) (k16)) := hrc
    subst hrc
    have hfl := fst1_le (fun j => !xdg g j) (min k16 6)
    rw [← xfl] at hfl
    refine lv_bipush (v := nI (6)) hx hb dX3_asText_13 (by decide +kernel) ?_
    refine lv_icmp_eq (tgt := 20) hx hb dX3_asText_15 (by decide) (fun c_2 => ?_) (fun c_2 => ?_)
    · skip
      rw [nI_eq (a := xfl (g) (k16)) (b := 6) (by omega) (by omega)] at c_2
      refine lv_iconst (v := nI (0)) hx hb dX3_asText_20 (by decide +kernel) ?_
      refine lv_istore_n (lv' := [(1, .int (nI (0))), (0, .ref (o 0))]) hx hb dX3_asText_21 rfl hl (by decide) rfl (fun ls hl => ?_)
      refine lv_iconst (v := nI (0)) hx hb dX3_asText_22 (by decide +kernel) ?_
      refine lv_istore_n (lv' := [(2, .int (nI (0))), (1, .int (nI (0))), (0, .ref (o 0))]) hx hb dX3_asText_23 rfl hl (by decide) rfl (fun ls hl => ?_)
      have e0_1 : (nI (0)) = xTxt g 0 := rfl
      refine lp_ro (fun k : Nat => 6 - k) (fun k : Nat => k ≤ 6) (fun k : Nat => [(0, .ref (o 0)), (1, .int (xTxt g k)), (2, .int (nI (k)))]) (0) (by omega) (by show lv_has ls 3 [(0, .ref (o 0)), (1, .int (xTxt g 0)), (2, .int (nI (0)))]; rw [← e0_1]; exact lv_sub hl [2, 1, 0] rfl) (fun k hI ih_24 ls hl => ?_)
      have hI : k ≤ 6 := hI
      have hl : lv_has ls 3 [(0, .ref (o 0)), (1, .int (xTxt g k)), (2, .int (nI (k)))] := hl
      refine lv_iload_n hx hb dX3_asText_24 rfl (lv_at hl 2 rfl) ?_
      refine lv_bipush (v := nI (6)) hx hb dX3_asText_25 (by decide +kernel) ?_
      refine lv_icmp_ge (tgt := 51) hx hb dX3_asText_27 (by decide) (fun c_3 => ?_) (fun c_3 => ?_)
      · skip
        rw [nI_leI (a := 6) (b := k) (by omega) (by omega)] at c_3
        have hE : 6 = k := by omega
        subst hE
        refine lv_iload_n hx hb dX3_asText_51 rfl (lv_at hl 1 rfl) ?_
        exact W.iret (v := xTxt g 6) hx hb hr (fun t ht hW => ⟨xTxt g 6, rfl, (by show xTxt g 6 = xText g k16; rw [xText, if_pos c_1, if_pos c_2]), ht⟩) (fun _ h => by cases h) dX3_asText_52
      · skip
        rw [nI_leI (a := 6) (b := k) (by omega) (by omega)] at c_3
        refine lv_iload_n hx hb dX3_asText_30 rfl (lv_at hl 1 rfl) ?_
        refine lv_iload_n hx hb dX3_asText_31 rfl (lv_at hl 2 rfl) ?_
        refine lv_aload_n hx hb dX3_asText_32 rfl (lv_at hl 0 rfl) ?_
        refine va_get (D := (dC, dI)) (ci := 3) (v := .ref (o 6)) (C := RX3) (T := TX3) (N := 2) hx hb hts hin3 hown hK hP 1 rfl rfl 0 (by decide) hW1 (fun _ h9 => h9) rfl dX3_asText_33 ?_
        refine lv_iload_n hx hb dX3_asText_36 rfl (lv_at hl 2 rfl) ?_
        refine ald hx hb hK hP (f := g 0) (k := k) 2 0 rfl rfl rfl (by omega) (by decide) dX3_asText_37 ?_
        refine lv_bipush (v := nI (48)) hx hb dX3_asText_38 (by decide +kernel) ?_
        refine lv_isub hx hb dX3_asText_40 ?_
        refine vp_callSi (va_Run.run (va_runSN (As := [.int (xTxt g k), .int (nI (k)), .int ((g 0 (k)) - (nI (48)))]) (rest := []) ⟨hx, hb, hml, hown, hts⟩ (c7_withHue l (xTxt g k) (k) ((g 0 (k)) - (nI (48)))) ⟨va_cnB 3 hts gX3_asText_X7_withHue_n27 rfl rfl rfl (hN.1 _ (List.mem_of_getElem? (i := 15) rfl)) hW2 (by decide +kernel) ⟨Nat.le_of_ble_eq_true rfl, Nat.le_of_ble_eq_true rfl⟩, hW3, trivial⟩ ⟨fun _ _ _ _ q => q, fun U hU hW => ⟨rfl, trivial⟩⟩ rfl rfl hl.1 rfl (lv_room (Nat.le_of_ble_eq_true rfl)) dX3_asText_41 ⟨Nat.le_of_ble_eq_true rfl, Nat.le_of_ble_eq_true rfl⟩)) (fun r hrc => ?_)
        have hrc : r = xWh (xTxt g k) (k) ((g 0 (k)) - (nI (48))) := hrc
        subst hrc
        refine lv_istore_n (lv' := [(1, .int (xWh (xTxt g k) (k) ((g 0 (k)) - (nI (48))))), (0, .ref (o 0)), (2, .int (nI (k)))]) hx hb dX3_asText_44 rfl hl (by decide) rfl (fun ls hl => ?_)
        refine lv_iinc (v := nI (k + 1)) (lv' := [(2, .int (nI (k + 1))), (1, .int (xWh (xTxt g k) (k) ((g 0 (k)) - (nI (48))))), (0, .ref (o 0))]) hx hb dX3_asText_45 hl (k := 2) rfl (nI_1 _) (by decide) rfl (fun ls hl => ?_)
        refine lv_goto (tgt := 24) hx hb dX3_asText_48 (by decide) ?_
        have e1_1 : (xWh (xTxt g k) (k) ((g 0 (k)) - (nI (48)))) = xTxt g (k + 1) := by rfl
        exact ih_24 (k + 1) ls (by show _ < _; omega) (by show _; omega) (by show lv_has ls 3 [(0, .ref (o 0)), (1, .int (xTxt g (k + 1))), (2, .int (nI ((k + 1))))]; rw [← e1_1]; exact lv_sub hl [2, 1, 0] rfl)
    · skip
      rw [nI_eq (a := xfl (g) (k16)) (b := 6) (by omega) (by omega)] at c_2
      refine lv_iconst (v := (-1)) hx hb dX3_asText_18 (by decide +kernel) ?_
      exact W.iret (v := (-1)) hx hb hr (fun t ht hW => ⟨(-1), rfl, (by show (-1) = xText g k16; first | (simp only [xText, if_pos c_1, if_neg c_2]; done) | (simp only [xText, if_pos c_1, if_neg c_2]; rfl) | rfl | (simp [xText, if_pos c_1, if_neg c_2]; done)), ht⟩) (fun _ h => by cases h) dX3_asText_19

set_option maxHeartbeats 1200000 in
set_option maxRecDepth 100000 in
theorem c1_clear (l : Launch) (dC : Nat → ClassId) (dI : Nat → Nat → Nat) (cI cP : ClassId) (a : Nat) (o : Nat → Nat) (f : Nat → Int32) (g : Nat → Nat → Int32) (pa : Nat → Option Nat) (tv : Nat → Nat → Int32) (n : Nat) (pd pk : Nat → Nat) (pv : Nat → Nat → Int32) (sz : Nat) : Met l yX1_clear wsX1_clear ({ frames := 0, cells := 0, slots := 0, locals := 0 } : Room) (va_Pc [.ref (o 3)] (fun U => U.heap.size = sz ∧ va_P (dC, dI) vwCl (xW cI cP a o f g pa tv n pd pk pv) U.heap ∧ va_K (dC, dI) vwCl [(cI, .int), (cP, .object RX4)] U ∧ xN U ∧ va_D (fun _ => True) (xW cI cP a o f g pa tv n pd pk pv))) (va_Qv (fun (u : XSt) => u = (su f 17 (nI 0), g, pa, tv, n, pd, pk, pv)) (xB dC dI cI cP a o (va_A (xW cI cP a o f g pa tv n pd pk pv) sz)) (va_A (xW cI cP a o f g pa tv n pd pk pv) sz)) 0 0 (va_A (xW cI cP a o f g pa tv n pd pk pv) sz) := by
  refine Met.ofW (cc := cX1_clear) (maxL := 1) (ret := none) (by decide) rfl ?_
  intro p_ e_ s m args below meth c_0 s₁ B hml hv
  obtain ⟨rfl, hsz, hP, hK, hN, hD0⟩ := hv
  have hx := B.exec
  have hb := B.bytes
  have hr := B.returns
  have hts := atoms_spec (ws := wsX1_clear) B.pre
  have hown : s.vm.findClass RX1 = some m.cls := findClass_of_methodNamed B.named
  have hlocks := B.notSynchronized
  subst hsz
  have hD := hD0.self (sz := s.heap.size)
  generalize hAe : va_A (xW cI cP a o f g pa tv n pd pk pv) s.heap.size = A at hD ⊢
  have hA : ∀ q : Nat, s.heap.size ≤ q → A q := fun q h => by rw [← hAe]; exact Or.inr h
  obtain ⟨H, hHe⟩ : ∃ H : Heap, H = s.heap := ⟨_, rfl⟩
  have hS : va_S A s.heap H [] := by rw [hHe]; exact va_S.rf
  rw [← hHe] at hP ⊢
  have hP : va_P (dC, dI) vwCl (xW cI cP a o f g pa tv n pd pk pv) H := hP
  have hl := lv_entry ([.ref (o 3)]) (n := 1) (Nat.le_of_ble_eq_true rfl)
  rw [lg_entry_eq]
  generalize (lg_sl ([.ref (o 3)]) ++ List.replicate (1 - (lg_sl ([.ref (o 3)])).length) Slot.unset).toArray = ls at hl ⊢
  have hl : lv_has ls 1 [(0, .ref (o 3))] := hl
  have hin1 : ∀ w ∈ wsX10, w ∈ wsX1_clear := fun _ h => List.mem_cons_of_mem _ (List.mem_append_right _ h)
  have hW0 := hts (.fieldLink RX1 24 "EachEye$Cards" "size" "I") (by decide +kernel)
  refine lv_aload_n hx hb dX1_clear_0 rfl (lv_at hl 0 rfl) ?_
  refine lv_iconst (v := nI (0)) hx hb dX1_clear_1 (by decide +kernel) ?_
  refine va_put (D := (dC, dI)) (ci := 1) (v := .int (nI (0))) (ty := .int) (C := RX1) (T := TX1) (N := 6) hx hb hts hin1 tyX1 tyX1_ok nmX1 hown hK hP hD hS 5 rfl rfl 4 (by decide) hW0 (fun _ h9 => h9) rfl (by decide +kernel) rfl rfl (Nat.le_of_ble_eq_true rfl) dX1_clear_2 (fun H locs hP hD hS => ?_)
  have hP : va_P (dC, dI) vwCl (xW cI cP a o (su f 17 (nI (0))) g pa tv n pd pk pv) H := hP
  have hD : va_D A (xW cI cP a o (su f 17 (nI (0))) g pa tv n pd pk pv) := hD
  have hP9 : va_P (dC, dI) vwCl (xW cI cP a o (su f 17 (nI (0))) g pa tv n pd pk pv) H := hP
  exact W.vret hx hb hr (fun t ht hW => ⟨⟨(su f 17 (nI (0)), g, pa, tv, n, pd, pk, pv), rfl, (by show ((su f 17 (nI (0)), g, pa, tv, n, pd, pk, pv) : XSt) = (su f 17 (nI 0), g, pa, tv, n, pd, pk, pv); rfl), by rw [ht]; exact hP9, va_K.moved hW.alike hK, hD⟩, hS.F ht⟩) hS.2.2 dX1_clear_5

set_option maxHeartbeats 1200000 in
set_option maxRecDepth 100000 in
theorem c1_put (l : Launch) (dC : Nat → ClassId) (dI : Nat → Nat → Nat) (cI cP : ClassId) (a : Nat) (o : Nat → Nat) (f : Nat → Int32) (g : Nat → Nat → Int32) (pa : Nat → Option Nat) (tv : Nat → Nat → Int32) (n : Nat) (pd pk : Nat → Nat) (pv : Nat → Nat → Int32) (sz : Nat) {k17 : Nat} (e17 : f 17 = nI k17) (b17 : k17 ≤ 8) (x : Int32) (y : Int32) : Met l yX1_put wsX1_put ({ frames := 0, cells := 0, slots := 0, locals := 0 } : Room) (va_Pc [.ref (o 3), .int (x), .int (y)] (fun U => U.heap.size = sz ∧ va_P (dC, dI) vwCl (xW cI cP a o f g pa tv n pd pk pv) U.heap ∧ va_K (dC, dI) vwCl [(cI, .int), (cP, .object RX4)] U ∧ xN U ∧ va_D (fun _ => True) (xW cI cP a o f g pa tv n pd pk pv))) (va_Qv (fun (u : XSt) => u = if k17 < 8 then (su f 17 (nI (k17 + 1)), su (su g 2 (su (g 2) k17 x)) 3 (su (g 3) k17 y), pa, tv, n, pd, pk, pv) else (f, g, pa, tv, n, pd, pk, pv)) (xB dC dI cI cP a o (va_A (xW cI cP a o f g pa tv n pd pk pv) sz)) (va_A (xW cI cP a o f g pa tv n pd pk pv) sz)) 0 0 (va_A (xW cI cP a o f g pa tv n pd pk pv) sz) := by
  refine Met.ofW (cc := cX1_put) (maxL := 3) (ret := none) (by decide) rfl ?_
  intro p_ e_ s m args below meth c_0 s₁ B hml hv
  obtain ⟨rfl, hsz, hP, hK, hN, hD0⟩ := hv
  have hx := B.exec
  have hb := B.bytes
  have hr := B.returns
  have hts := atoms_spec (ws := wsX1_put) B.pre
  have hown : s.vm.findClass RX1 = some m.cls := findClass_of_methodNamed B.named
  have hlocks := B.notSynchronized
  subst hsz
  have hD := hD0.self (sz := s.heap.size)
  generalize hAe : va_A (xW cI cP a o f g pa tv n pd pk pv) s.heap.size = A at hD ⊢
  have hA : ∀ q : Nat, s.heap.size ≤ q → A q := fun q h => by rw [← hAe]; exact Or.inr h
  obtain ⟨H, hHe⟩ : ∃ H : Heap, H = s.heap := ⟨_, rfl⟩
  have hS : va_S A s.heap H [] := by rw [hHe]; exact va_S.rf
  rw [← hHe] at hP ⊢
  have hP : va_P (dC, dI) vwCl (xW cI cP a o f g pa tv n pd pk pv) H := hP
  have hl := lv_entry ([.ref (o 3), .int (x), .int (y)]) (n := 3) (Nat.le_of_ble_eq_true rfl)
  rw [lg_entry_eq]
  generalize (lg_sl ([.ref (o 3), .int (x), .int (y)]) ++ List.replicate (3 - (lg_sl ([.ref (o 3), .int (x), .int (y)])).length) Slot.unset).toArray = ls at hl ⊢
  have hl : lv_has ls 3 [(0, .ref (o 3)), (1, .int (x)), (2, .int (y))] := hl
  have hin1 : ∀ w ∈ wsX10, w ∈ wsX1_put := fun _ h => List.mem_cons_of_mem _ (List.mem_append_right _ h)
  have hW0 := hts (.fieldLink RX1 24 "EachEye$Cards" "size" "I") (by decide +kernel)
  have hW1 := hts (.fieldLink RX1 9 "EachEye$Cards" "shown" "[I") (by decide +kernel)
  have hW2 := hts (.fieldLink RX1 15 "EachEye$Cards" "said" "[I") (by decide +kernel)
  refine lv_aload_n hx hb dX1_put_0 rfl (lv_at hl 0 rfl) ?_
  refine va_get (D := (dC, dI)) (ci := 1) (v := .int (nI (k17))) (C := RX1) (T := TX1) (N := 6) hx hb hts hin1 hown hK hP 5 rfl rfl 4 (by decide) hW0 (fun _ h9 => h9) (congrArg (fun z => some (Value.int z)) e17) dX1_put_1 ?_
  refine lv_bipush (v := nI (8)) hx hb dX1_put_4 (by decide +kernel) ?_
  refine lv_icmp_ge (tgt := 39) hx hb dX1_put_6 (by decide) (fun c_1 => ?_) (fun c_1 => ?_)
  · skip
    rw [nI_leI (a := 8) (b := k17) (by omega) (by omega)] at c_1
    have hP9 : va_P (dC, dI) vwCl (xW cI cP a o f g pa tv n pd pk pv) H := hP
    exact W.vret hx hb hr (fun t ht hW => ⟨⟨(f, g, pa, tv, n, pd, pk, pv), rfl, (by show ((f, g, pa, tv, n, pd, pk, pv) : XSt) = if k17 < 8 then (su f 17 (nI (k17 + 1)), su (su g 2 (su (g 2) k17 x)) 3 (su (g 3) k17 y), pa, tv, n, pd, pk, pv) else (f, g, pa, tv, n, pd, pk, pv); rw [if_neg (by omega)]), by rw [ht]; exact hP9, va_K.moved hW.alike hK, hD⟩, hS.F ht⟩) hS.2.2 dX1_put_39
  · skip
    rw [nI_leI (a := 8) (b := k17) (by omega) (by omega)] at c_1
    refine lv_aload_n hx hb dX1_put_9 rfl (lv_at hl 0 rfl) ?_
    refine va_get (D := (dC, dI)) (ci := 1) (v := .ref (o 7)) (C := RX1) (T := TX1) (N := 6) hx hb hts hin1 hown hK hP 5 rfl rfl 0 (by decide) hW1 (fun _ h9 => h9) rfl dX1_put_10 ?_
    refine lv_aload_n hx hb dX1_put_13 rfl (lv_at hl 0 rfl) ?_
    refine va_get (D := (dC, dI)) (ci := 1) (v := .int (nI (k17))) (C := RX1) (T := TX1) (N := 6) hx hb hts hin1 hown hK hP 5 rfl rfl 4 (by decide) hW0 (fun _ h9 => h9) (congrArg (fun z => some (Value.int z)) e17) dX1_put_14 ?_
    refine lv_iload_n hx hb dX1_put_17 rfl (lv_at hl 1 rfl) ?_
    refine ast hx hb hK hP hD hS (f := g 2) (k := k17) 6 0 rfl rfl rfl (by omega) (by decide) dX1_put_18 (fun H locs hP hD hS => ?_)
    have hP : va_P (dC, dI) vwCl (xW cI cP a o f (su g 2 (su (g 2) (k17) (x))) pa tv n pd pk pv) H := hP
    have hD : va_D A (xW cI cP a o f (su g 2 (su (g 2) (k17) (x))) pa tv n pd pk pv) := hD
    refine lv_aload_n hx hb dX1_put_19 rfl (lv_at hl 0 rfl) ?_
    refine va_get (D := (dC, dI)) (ci := 1) (v := .ref (o 8)) (C := RX1) (T := TX1) (N := 6) hx hb hts hin1 hown hK hP 5 rfl rfl 1 (by decide) hW2 (fun _ h9 => h9) rfl dX1_put_20 ?_
    refine lv_aload_n hx hb dX1_put_23 rfl (lv_at hl 0 rfl) ?_
    refine va_get (D := (dC, dI)) (ci := 1) (v := .int (nI (k17))) (C := RX1) (T := TX1) (N := 6) hx hb hts hin1 hown hK hP 5 rfl rfl 4 (by decide) hW0 (fun _ h9 => h9) (congrArg (fun z => some (Value.int z)) e17) dX1_put_24 ?_
    refine lv_iload_n hx hb dX1_put_27 rfl (lv_at hl 2 rfl) ?_
    refine ast hx hb hK hP hD hS (f := g 3) (k := k17) 7 0 rfl rfl rfl (by omega) (by decide) dX1_put_28 (fun H locs hP hD hS => ?_)
    have hP : va_P (dC, dI) vwCl (xW cI cP a o f (su (su g 2 (su (g 2) (k17) (x))) 3 (su (g 3) (k17) (y))) pa tv n pd pk pv) H := hP
    have hD : va_D A (xW cI cP a o f (su (su g 2 (su (g 2) (k17) (x))) 3 (su (g 3) (k17) (y))) pa tv n pd pk pv) := hD
    refine lv_aload_n hx hb dX1_put_29 rfl (lv_at hl 0 rfl) ?_
    refine lv_dup hx hb dX1_put_30 rfl ?_
    refine va_get (D := (dC, dI)) (ci := 1) (v := .int (nI (k17))) (C := RX1) (T := TX1) (N := 6) hx hb hts hin1 hown hK hP 5 rfl rfl 4 (by decide) hW0 (fun _ h9 => h9) (congrArg (fun z => some (Value.int z)) e17) dX1_put_31 ?_
    refine lv_iconst (v := nI (1)) hx hb dX1_put_34 (by decide +kernel) ?_
    refine lv_iadd hx hb dX1_put_35 ?_
    refine tq (nI_add (k17) (1)) ?_
    refine va_put (D := (dC, dI)) (ci := 1) (v := .int (nI (k17 + 1))) (ty := .int) (C := RX1) (T := TX1) (N := 6) hx hb hts hin1 tyX1 tyX1_ok nmX1 hown hK hP hD hS 5 rfl rfl 4 (by decide) hW0 (fun _ h9 => h9) rfl (by decide +kernel) rfl rfl (Nat.le_of_ble_eq_true rfl) dX1_put_36 (fun H locs hP hD hS => ?_)
    have hP : va_P (dC, dI) vwCl (xW cI cP a o (su f 17 (nI (k17 + 1))) (su (su g 2 (su (g 2) (k17) (x))) 3 (su (g 3) (k17) (y))) pa tv n pd pk pv) H := hP
    have hD : va_D A (xW cI cP a o (su f 17 (nI (k17 + 1))) (su (su g 2 (su (g 2) (k17) (x))) 3 (su (g 3) (k17) (y))) pa tv n pd pk pv) := hD
    have hP9 : va_P (dC, dI) vwCl (xW cI cP a o (su f 17 (nI (k17 + 1))) (su (su g 2 (su (g 2) (k17) (x))) 3 (su (g 3) (k17) (y))) pa tv n pd pk pv) H := hP
    exact W.vret hx hb hr (fun t ht hW => ⟨⟨(su f 17 (nI (k17 + 1)), su (su g 2 (su (g 2) (k17) (x))) 3 (su (g 3) (k17) (y)), pa, tv, n, pd, pk, pv), rfl, (by show ((su f 17 (nI (k17 + 1)), su (su g 2 (su (g 2) (k17) (x))) 3 (su (g 3) (k17) (y)), pa, tv, n, pd, pk, pv) : XSt) = if k17 < 8 then (su f 17 (nI (k17 + 1)), su (su g 2 (su (g 2) k17 x)) 3 (su (g 3) k17 y), pa, tv, n, pd, pk, pv) else (f, g, pa, tv, n, pd, pk, pv); rw [if_pos (by omega)]), by rw [ht]; exact hP9, va_K.moved hW.alike hK, hD⟩, hS.F ht⟩) hS.2.2 dX1_put_39

set_option maxHeartbeats 1200000 in
set_option maxRecDepth 100000 in
theorem c1_keep (l : Launch) (dC : Nat → ClassId) (dI : Nat → Nat → Nat) (cI cP : ClassId) (a : Nat) (o : Nat → Nat) (f : Nat → Int32) (g : Nat → Nat → Int32) (pa : Nat → Option Nat) (tv : Nat → Nat → Int32) (n : Nat) (pd pk : Nat → Nat) (pv : Nat → Nat → Int32) (sz : Nat) : Met l yX1_keep wsX1_keep ({ frames := 1, cells := 0, slots := 0, locals := 48 } : Room) (va_Pc [.ref (o 3)] (fun U => U.heap.size = sz ∧ va_P (dC, dI) vwCl (xW cI cP a o f g pa tv n pd pk pv) U.heap ∧ va_K (dC, dI) vwCl [(cI, .int), (cP, .object RX4)] U ∧ xN U ∧ va_D (fun _ => True) (xW cI cP a o f g pa tv n pd pk pv))) (va_Qv (fun (u : XSt) => u = (su f 18 (f 17), su (su g 4 (fil (g 4) (g 2) 8)) 5 (fil (g 5) (g 3) 8), pa, tv, n, pd, pk, pv)) (xB dC dI cI cP a o (va_A (xW cI cP a o f g pa tv n pd pk pv) sz)) (va_A (xW cI cP a o f g pa tv n pd pk pv) sz)) 0 0 (va_A (xW cI cP a o f g pa tv n pd pk pv) sz) := by
  refine Met.ofW (cc := cX1_keep) (maxL := 1) (ret := none) (by decide) rfl ?_
  intro p_ e_ s m args below meth c_0 s₁ B hml hv
  obtain ⟨rfl, hsz, hP, hK, hN, hD0⟩ := hv
  have hx := B.exec
  have hb := B.bytes
  have hr := B.returns
  have hts := atoms_spec (ws := wsX1_keep) B.pre
  have hown : s.vm.findClass RX1 = some m.cls := findClass_of_methodNamed B.named
  have hlocks := B.notSynchronized
  subst hsz
  have hD := hD0.self (sz := s.heap.size)
  generalize hAe : va_A (xW cI cP a o f g pa tv n pd pk pv) s.heap.size = A at hD ⊢
  have hA : ∀ q : Nat, s.heap.size ≤ q → A q := fun q h => by rw [← hAe]; exact Or.inr h
  obtain ⟨H, hHe⟩ : ∃ H : Heap, H = s.heap := ⟨_, rfl⟩
  have hS : va_S A s.heap H [] := by rw [hHe]; exact va_S.rf
  rw [← hHe] at hP ⊢
  have hP : va_P (dC, dI) vwCl (xW cI cP a o f g pa tv n pd pk pv) H := hP
  have hl := lv_entry ([.ref (o 3)]) (n := 1) (Nat.le_of_ble_eq_true rfl)
  rw [lg_entry_eq]
  generalize (lg_sl ([.ref (o 3)]) ++ List.replicate (1 - (lg_sl ([.ref (o 3)])).length) Slot.unset).toArray = ls at hl ⊢
  have hl : lv_has ls 1 [(0, .ref (o 3))] := hl
  have hin1 : ∀ w ∈ wsX10, w ∈ wsX1_keep := fun _ h => List.mem_cons_of_mem _ (List.mem_append_right _ h)
  have hW0 := hts (.fieldLink RX1 9 "EachEye$Cards" "shown" "[I") (by decide +kernel)
  have hW1 := hts (.fieldLink RX1 18 "EachEye$Cards" "keptShown" "[I") (by decide +kernel)
  have hW2 := hts (.methodLink RX1 34 arraycopyName) (by decide +kernel)
  have hW3 := hts (.native arraycopyName) (by decide +kernel)
  have hW4 := hts (.static arraycopyName) (by decide +kernel)
  have hW5 := hts (.initialized "java/lang/System") (by decide +kernel)
  have hW6 := hts (.fieldLink RX1 15 "EachEye$Cards" "said" "[I") (by decide +kernel)
  have hW7 := hts (.fieldLink RX1 21 "EachEye$Cards" "keptSaid" "[I") (by decide +kernel)
  have hW8 := hts (.fieldLink RX1 24 "EachEye$Cards" "size" "I") (by decide +kernel)
  have hW9 := hts (.fieldLink RX1 40 "EachEye$Cards" "keptSize" "I") (by decide +kernel)
  refine lv_aload_n hx hb dX1_keep_0 rfl (lv_at hl 0 rfl) ?_
  refine va_get (D := (dC, dI)) (ci := 1) (v := .ref (o 7)) (C := RX1) (T := TX1) (N := 6) hx hb hts hin1 hown hK hP 5 rfl rfl 0 (by decide) hW0 (fun _ h9 => h9) rfl dX1_keep_1 ?_
  refine lv_iconst (v := nI (0)) hx hb dX1_keep_4 (by decide +kernel) ?_
  refine lv_aload_n hx hb dX1_keep_5 rfl (lv_at hl 0 rfl) ?_
  refine va_get (D := (dC, dI)) (ci := 1) (v := .ref (o 9)) (C := RX1) (T := TX1) (N := 6) hx hb hts hin1 hown hK hP 5 rfl rfl 2 (by decide) hW1 (fun _ h9 => h9) rfl dX1_keep_6 ?_
  refine lv_iconst (v := nI (0)) hx hb dX1_keep_9 (by decide +kernel) ?_
  refine lv_bipush (v := nI (8)) hx hb dX1_keep_10 (by decide +kernel) ?_
  refine va_copyi hx hb (hml.trans hl.1.symm) hown hW2 hW3 hW4 hW5 hK hP hD hS 6 8 0 0 (f := g 2) (g := g 4) rfl rfl rfl rfl rfl (by decide +kernel) (by decide +kernel) (by decide +kernel) (by decide +kernel) (by decide +kernel) (fun _ _ => rfl) (Nat.le_of_ble_eq_true rfl) (Nat.le_of_ble_eq_true rfl) dX1_keep_12 (fun H locs hP hD hS => ?_)
  rw [cpy8] at hP hD
  have hP : va_P (dC, dI) vwCl (xW cI cP a o f (su g 4 (fil (g 4) (g 2) 8)) pa tv n pd pk pv) H := hP
  have hD : va_D A (xW cI cP a o f (su g 4 (fil (g 4) (g 2) 8)) pa tv n pd pk pv) := hD
  refine lv_aload_n hx hb dX1_keep_15 rfl (lv_at hl 0 rfl) ?_
  refine va_get (D := (dC, dI)) (ci := 1) (v := .ref (o 8)) (C := RX1) (T := TX1) (N := 6) hx hb hts hin1 hown hK hP 5 rfl rfl 1 (by decide) hW6 (fun _ h9 => h9) rfl dX1_keep_16 ?_
  refine lv_iconst (v := nI (0)) hx hb dX1_keep_19 (by decide +kernel) ?_
  refine lv_aload_n hx hb dX1_keep_20 rfl (lv_at hl 0 rfl) ?_
  refine va_get (D := (dC, dI)) (ci := 1) (v := .ref (o 10)) (C := RX1) (T := TX1) (N := 6) hx hb hts hin1 hown hK hP 5 rfl rfl 3 (by decide) hW7 (fun _ h9 => h9) rfl dX1_keep_21 ?_
  refine lv_iconst (v := nI (0)) hx hb dX1_keep_24 (by decide +kernel) ?_
  refine lv_bipush (v := nI (8)) hx hb dX1_keep_25 (by decide +kernel) ?_
  refine va_copyi hx hb (hml.trans hl.1.symm) hown hW2 hW3 hW4 hW5 hK hP hD hS 7 9 0 0 (f := g 3) (g := g 5) rfl rfl rfl rfl rfl (by decide +kernel) (by decide +kernel) (by decide +kernel) (by decide +kernel) (by decide +kernel) (fun _ _ => rfl) (Nat.le_of_ble_eq_true rfl) (Nat.le_of_ble_eq_true rfl) dX1_keep_27 (fun H locs hP hD hS => ?_)
  rw [cpy8] at hP hD
  have hP : va_P (dC, dI) vwCl (xW cI cP a o f (su (su g 4 (fil (g 4) (g 2) 8)) 5 (fil (g 5) (g 3) 8)) pa tv n pd pk pv) H := hP
  have hD : va_D A (xW cI cP a o f (su (su g 4 (fil (g 4) (g 2) 8)) 5 (fil (g 5) (g 3) 8)) pa tv n pd pk pv) := hD
  refine lv_aload_n hx hb dX1_keep_30 rfl (lv_at hl 0 rfl) ?_
  refine lv_aload_n hx hb dX1_keep_31 rfl (lv_at hl 0 rfl) ?_
  refine va_get (D := (dC, dI)) (ci := 1) (v := .int (f 17)) (C := RX1) (T := TX1) (N := 6) hx hb hts hin1 hown hK hP 5 rfl rfl 4 (by decide) hW8 (fun _ h9 => h9) rfl dX1_keep_32 ?_
  refine va_put (D := (dC, dI)) (ci := 1) (v := .int (f 17)) (ty := .int) (C := RX1) (T := TX1) (N := 6) hx hb hts hin1 tyX1 tyX1_ok nmX1 hown hK hP hD hS 5 rfl rfl 5 (by decide) hW9 (fun _ h9 => h9) rfl (by decide +kernel) rfl rfl (Nat.le_of_ble_eq_true rfl) dX1_keep_35 (fun H locs hP hD hS => ?_)
  have hP : va_P (dC, dI) vwCl (xW cI cP a o (su f 18 (f 17)) (su (su g 4 (fil (g 4) (g 2) 8)) 5 (fil (g 5) (g 3) 8)) pa tv n pd pk pv) H := hP
  have hD : va_D A (xW cI cP a o (su f 18 (f 17)) (su (su g 4 (fil (g 4) (g 2) 8)) 5 (fil (g 5) (g 3) 8)) pa tv n pd pk pv) := hD
  have hP9 : va_P (dC, dI) vwCl (xW cI cP a o (su f 18 (f 17)) (su (su g 4 (fil (g 4) (g 2) 8)) 5 (fil (g 5) (g 3) 8)) pa tv n pd pk pv) H := hP
  exact W.vret hx hb hr (fun t ht hW => ⟨⟨(su f 18 (f 17), su (su g 4 (fil (g 4) (g 2) 8)) 5 (fil (g 5) (g 3) 8), pa, tv, n, pd, pk, pv), rfl, (by show ((su f 18 (f 17), su (su g 4 (fil (g 4) (g 2) 8)) 5 (fil (g 5) (g 3) 8), pa, tv, n, pd, pk, pv) : XSt) = (su f 18 (f 17), su (su g 4 (fil (g 4) (g 2) 8)) 5 (fil (g 5) (g 3) 8), pa, tv, n, pd, pk, pv); rfl), by rw [ht]; exact hP9, va_K.moved hW.alike hK, hD⟩, hS.F ht⟩) hS.2.2 dX1_keep_38

set_option maxHeartbeats 1200000 in
set_option maxRecDepth 100000 in
theorem c1_goBack (l : Launch) (dC : Nat → ClassId) (dI : Nat → Nat → Nat) (cI cP : ClassId) (a : Nat) (o : Nat → Nat) (f : Nat → Int32) (g : Nat → Nat → Int32) (pa : Nat → Option Nat) (tv : Nat → Nat → Int32) (n : Nat) (pd pk : Nat → Nat) (pv : Nat → Nat → Int32) (sz : Nat) : Met l yX1_goBack wsX1_goBack ({ frames := 1, cells := 0, slots := 0, locals := 48 } : Room) (va_Pc [.ref (o 3)] (fun U => U.heap.size = sz ∧ va_P (dC, dI) vwCl (xW cI cP a o f g pa tv n pd pk pv) U.heap ∧ va_K (dC, dI) vwCl [(cI, .int), (cP, .object RX4)] U ∧ xN U ∧ va_D (fun _ => True) (xW cI cP a o f g pa tv n pd pk pv))) (va_Qv (fun (u : XSt) => u = (su f 17 (f 18), su (su g 2 (fil (g 2) (g 4) 8)) 3 (fil (g 3) (g 5) 8), pa, tv, n, pd, pk, pv)) (xB dC dI cI cP a o (va_A (xW cI cP a o f g pa tv n pd pk pv) sz)) (va_A (xW cI cP a o f g pa tv n pd pk pv) sz)) 0 0 (va_A (xW cI cP a o f g pa tv n pd pk pv) sz) := by
  refine Met.ofW (cc := cX1_goBack) (maxL := 1) (ret := none) (by decide) rfl ?_
  intro p_ e_ s m args below meth c_0 s₁ B hml hv
  obtain ⟨rfl, hsz, hP, hK, hN, hD0⟩ := hv
  have hx := B.exec
  have hb := B.bytes
  have hr := B.returns
  have hts := atoms_spec (ws := wsX1_goBack) B.pre
  have hown : s.vm.findClass RX1 = some m.cls := findClass_of_methodNamed B.named
  have hlocks := B.notSynchronized
  subst hsz
  have hD := hD0.self (sz := s.heap.size)
  generalize hAe : va_A (xW cI cP a o f g pa tv n pd pk pv) s.heap.size = A at hD ⊢
  have hA : ∀ q : Nat, s.heap.size ≤ q → A q := fun q h => by rw [← hAe]; exact Or.inr h
  obtain ⟨H, hHe⟩ : ∃ H : Heap, H = s.heap := ⟨_, rfl⟩
  have hS : va_S A s.heap H [] := by rw [hHe]; exact va_S.rf
  rw [← hHe] at hP ⊢
  have hP : va_P (dC, dI) vwCl (xW cI cP a o f g pa tv n pd pk pv) H := hP
  have hl := lv_entry ([.ref (o 3)]) (n := 1) (Nat.le_of_ble_eq_true rfl)
  rw [lg_entry_eq]
  generalize (lg_sl ([.ref (o 3)]) ++ List.replicate (1 - (lg_sl ([.ref (o 3)])).length) Slot.unset).toArray = ls at hl ⊢
  have hl : lv_has ls 1 [(0, .ref (o 3))] := hl
  have hin1 : ∀ w ∈ wsX10, w ∈ wsX1_goBack := fun _ h => List.mem_cons_of_mem _ (List.mem_append_right _ h)
  have hW0 := hts (.fieldLink RX1 18 "EachEye$Cards" "keptShown" "[I") (by decide +kernel)
  have hW1 := hts (.fieldLink RX1 9 "EachEye$Cards" "shown" "[I") (by decide +kernel)
  have hW2 := hts (.methodLink RX1 34 arraycopyName) (by decide +kernel)
  have hW3 := hts (.native arraycopyName) (by decide +kernel)
  have hW4 := hts (.static arraycopyName) (by decide +kernel)
  have hW5 := hts (.initialized "java/lang/System") (by decide +kernel)
  have hW6 := hts (.fieldLink RX1 21 "EachEye$Cards" "keptSaid" "[I") (by decide +kernel)
  have hW7 := hts (.fieldLink RX1 15 "EachEye$Cards" "said" "[I") (by decide +kernel)
  have hW8 := hts (.fieldLink RX1 40 "EachEye$Cards" "keptSize" "I") (by decide +kernel)
  have hW9 := hts (.fieldLink RX1 24 "EachEye$Cards" "size" "I") (by decide +kernel)
  refine lv_aload_n hx hb dX1_goBack_0 rfl (lv_at hl 0 rfl) ?_
  refine va_get (D := (dC, dI)) (ci := 1) (v := .ref (o 9)) (C := RX1) (T := TX1) (N := 6) hx hb hts hin1 hown hK hP 5 rfl rfl 2 (by decide) hW0 (fun _ h9 => h9) rfl dX1_goBack_1 ?_
  refine lv_iconst (v := nI (0)) hx hb dX1_goBack_4 (by decide +kernel) ?_
  refine lv_aload_n hx hb dX1_goBack_5 rfl (lv_at hl 0 rfl) ?_
  refine va_get (D := (dC, dI)) (ci := 1) (v := .ref (o 7)) (C := RX1) (T := TX1) (N := 6) hx hb hts hin1 hown hK hP 5 rfl rfl 0 (by decide) hW1 (fun _ h9 => h9) rfl dX1_goBack_6 ?_
  refine lv_iconst (v := nI (0)) hx hb dX1_goBack_9 (by decide +kernel) ?_
  refine lv_bipush (v := nI (8)) hx hb dX1_goBack_10 (by decide +kernel) ?_
  refine va_copyi hx hb (hml.trans hl.1.symm) hown hW2 hW3 hW4 hW5 hK hP hD hS 8 6 0 0 (f := g 4) (g := g 2) rfl rfl rfl rfl rfl (by decide +kernel) (by decide +kernel) (by decide +kernel) (by decide +kernel) (by decide +kernel) (fun _ _ => rfl) (Nat.le_of_ble_eq_true rfl) (Nat.le_of_ble_eq_true rfl) dX1_goBack_12 (fun H locs hP hD hS => ?_)
  rw [cpy8] at hP hD
  have hP : va_P (dC, dI) vwCl (xW cI cP a o f (su g 2 (fil (g 2) (g 4) 8)) pa tv n pd pk pv) H := hP
  have hD : va_D A (xW cI cP a o f (su g 2 (fil (g 2) (g 4) 8)) pa tv n pd pk pv) := hD
  refine lv_aload_n hx hb dX1_goBack_15 rfl (lv_at hl 0 rfl) ?_
  refine va_get (D := (dC, dI)) (ci := 1) (v := .ref (o 10)) (C := RX1) (T := TX1) (N := 6) hx hb hts hin1 hown hK hP 5 rfl rfl 3 (by decide) hW6 (fun _ h9 => h9) rfl dX1_goBack_16 ?_
  refine lv_iconst (v := nI (0)) hx hb dX1_goBack_19 (by decide +kernel) ?_
  refine lv_aload_n hx hb dX1_goBack_20 rfl (lv_at hl 0 rfl) ?_
  refine va_get (D := (dC, dI)) (ci := 1) (v := .ref (o 8)) (C := RX1) (T := TX1) (N := 6) hx hb hts hin1 hown hK hP 5 rfl rfl 1 (by decide) hW7 (fun _ h9 => h9) rfl dX1_goBack_21 ?_
  refine lv_iconst (v := nI (0)) hx hb dX1_goBack_24 (by decide +kernel) ?_
  refine lv_bipush (v := nI (8)) hx hb dX1_goBack_25 (by decide +kernel) ?_
  refine va_copyi hx hb (hml.trans hl.1.symm) hown hW2 hW3 hW4 hW5 hK hP hD hS 9 7 0 0 (f := g 5) (g := g 3) rfl rfl rfl rfl rfl (by decide +kernel) (by decide +kernel) (by decide +kernel) (by decide +kernel) (by decide +kernel) (fun _ _ => rfl) (Nat.le_of_ble_eq_true rfl) (Nat.le_of_ble_eq_true rfl) dX1_goBack_27 (fun H locs hP hD hS => ?_)
  rw [cpy8] at hP hD
  have hP : va_P (dC, dI) vwCl (xW cI cP a o f (su (su g 2 (fil (g 2) (g 4) 8)) 3 (fil (g 3) (g 5) 8)) pa tv n pd pk pv) H := hP
  have hD : va_D A (xW cI cP a o f (su (su g 2 (fil (g 2) (g 4) 8)) 3 (fil (g 3) (g 5) 8)) pa tv n pd pk pv) := hD
  refine lv_aload_n hx hb dX1_goBack_30 rfl (lv_at hl 0 rfl) ?_
  refine lv_aload_n hx hb dX1_goBack_31 rfl (lv_at hl 0 rfl) ?_
  refine va_get (D := (dC, dI)) (ci := 1) (v := .int (f 18)) (C := RX1) (T := TX1) (N := 6) hx hb hts hin1 hown hK hP 5 rfl rfl 5 (by decide) hW8 (fun _ h9 => h9) rfl dX1_goBack_32 ?_
  refine va_put (D := (dC, dI)) (ci := 1) (v := .int (f 18)) (ty := .int) (C := RX1) (T := TX1) (N := 6) hx hb hts hin1 tyX1 tyX1_ok nmX1 hown hK hP hD hS 5 rfl rfl 4 (by decide) hW9 (fun _ h9 => h9) rfl (by decide +kernel) rfl rfl (Nat.le_of_ble_eq_true rfl) dX1_goBack_35 (fun H locs hP hD hS => ?_)
  have hP : va_P (dC, dI) vwCl (xW cI cP a o (su f 17 (f 18)) (su (su g 2 (fil (g 2) (g 4) 8)) 3 (fil (g 3) (g 5) 8)) pa tv n pd pk pv) H := hP
  have hD : va_D A (xW cI cP a o (su f 17 (f 18)) (su (su g 2 (fil (g 2) (g 4) 8)) 3 (fil (g 3) (g 5) 8)) pa tv n pd pk pv) := hD
  have hP9 : va_P (dC, dI) vwCl (xW cI cP a o (su f 17 (f 18)) (su (su g 2 (fil (g 2) (g 4) 8)) 3 (fil (g 3) (g 5) 8)) pa tv n pd pk pv) H := hP
  exact W.vret hx hb hr (fun t ht hW => ⟨⟨(su f 17 (f 18), su (su g 2 (fil (g 2) (g 4) 8)) 3 (fil (g 3) (g 5) 8), pa, tv, n, pd, pk, pv), rfl, (by show ((su f 17 (f 18), su (su g 2 (fil (g 2) (g 4) 8)) 3 (fil (g 3) (g 5) 8), pa, tv, n, pd, pk, pv) : XSt) = (su f 17 (f 18), su (su g 2 (fil (g 2) (g 4) 8)) 3 (fil (g 3) (g 5) 8), pa, tv, n, pd, pk, pv); rfl), by rw [ht]; exact hP9, va_K.moved hW.alike hK, hD⟩, hS.F ht⟩) hS.2.2 dX1_goBack_38

set_option maxHeartbeats 1200000 in
set_option maxRecDepth 100000 in
theorem c7_known (l : Launch) (dC : Nat → ClassId) (dI : Nat → Nat → Nat) (cI cP : ClassId) (a : Nat) (o : Nat → Nat) (f : Nat → Int32) (g : Nat → Nat → Int32) (pa : Nat → Option Nat) (tv : Nat → Nat → Int32) (n : Nat) (pd pk : Nat → Nat) (pv : Nat → Nat → Int32) (e7 : f 7 = nI n) (b7 : n ≤ 4) (hpa : ∀ i, i < n → pa i = some (pd i)) (hpk : ∀ i, i < n → pk i < 5) (x : Int32) : Met l yX7_known wsX7_known ({ frames := 0, cells := 0, slots := 0, locals := 0 } : Room) (va_Pc [.ref (a), .int (x)] (fun U => va_P (dC, dI) vwCl (xW cI cP a o f g pa tv n pd pk pv) U.heap ∧ va_K (dC, dI) vwCl [(cI, .int), (cP, .object RX4)] U ∧ xN U)) (va_Sq (fun r => r = xKn n pd x)) 0 0 (fun _ => False) := by
  refine Met.ofW (cc := cX7_known) (maxL := 2) (ret := (some (.object "EachEye$Person"))) (by decide) rfl ?_
  intro p_ e_ s m args below meth c_0 s₁ B hml hv
  obtain ⟨rfl, hP, hK, hN⟩ := hv
  have hx := B.exec
  have hb := B.bytes
  have hr := B.returns
  have hts := atoms_spec (ws := wsX7_known) B.pre
  have hown : s.vm.findClass RX7 = some m.cls := findClass_of_methodNamed B.named
  have hlocks := B.notSynchronized
  have hP : va_P (dC, dI) vwCl (xW cI cP a o f g pa tv n pd pk pv) s.heap := hP
  have hl := lv_entry ([.ref (a), .int (x)]) (n := 2) (Nat.le_of_ble_eq_true rfl)
  rw [lg_entry_eq]
  generalize (lg_sl ([.ref (a), .int (x)]) ++ List.replicate (2 - (lg_sl ([.ref (a), .int (x)])).length) Slot.unset).toArray = ls at hl ⊢
  have hl : lv_has ls 2 [(0, .ref (a)), (1, .int (x))] := hl
  have hin7 : ∀ w ∈ wsX70, w ∈ wsX7_known := fun _ h => List.mem_cons_of_mem _ (List.mem_append_right _ h)
  have hW0 := hts (.fieldLink RX7 67 "EachEye" "peopleCount" "I") (by decide +kernel)
  have hW1 := hts (.fieldLink RX7 18 "EachEye" "people" "[LEachEye$Person;") (by decide +kernel)
  refine lv_iload_n hx hb dX7_known_0 rfl (lv_at hl 1 rfl) ?_
  refine lv_if_lt (tgt := 21) hx hb dX7_known_1 (by decide) (fun c_1 => ?_) (fun c_1 => ?_)
  · skip
    rw [lti, show (0 : Int32).toInt = 0 from rfl] at c_1
    refine lv_null hx hb dX7_known_21 ?_
    exact W.aret (v := .null) hx hb hr (Or.inl ⟨_, rfl⟩) (Or.inl rfl) (fun t ht hW => ⟨none, rfl, (by show none = xKn n pd x; rw [xKn, if_neg (by omega)]), ht⟩) (fun _ h => by cases h) dX7_known_22
  · skip
    rw [lti, show (0 : Int32).toInt = 0 from rfl] at c_1
    refine lv_iload_n hx hb dX7_known_4 rfl (lv_at hl 1 rfl) ?_
    refine lv_aload_n hx hb dX7_known_5 rfl (lv_at hl 0 rfl) ?_
    refine va_get (D := (dC, dI)) (ci := 7) (v := .int (nI (n))) (C := RX7) (T := TX7) (N := 16) hx hb hts hin7 hown hK hP 0 rfl rfl 7 (by decide) hW0 (fun _ h9 => h9) (congrArg (fun z => some (Value.int z)) e7) dX7_known_6 ?_
    refine lv_icmp_ge (tgt := 21) hx hb dX7_known_9 (by decide) (fun c_2 => ?_) (fun c_2 => ?_)
    · skip
      rw [lei, tn (n := n) (by omega)] at c_2
      refine lv_null hx hb dX7_known_21 ?_
      exact W.aret (v := .null) hx hb hr (Or.inl ⟨_, rfl⟩) (Or.inl rfl) (fun t ht hW => ⟨none, rfl, (by show none = xKn n pd x; rw [xKn, if_neg (by omega)]), ht⟩) (fun _ h => by cases h) dX7_known_22
    · skip
      rw [lei, tn (n := n) (by omega)] at c_2
      refine lv_aload_n hx hb dX7_known_12 rfl (lv_at hl 0 rfl) ?_
      refine va_get (D := (dC, dI)) (ci := 7) (v := .ref (o 1)) (C := RX7) (T := TX7) (N := 16) hx hb hts hin7 hown hK hP 0 rfl rfl 1 (by decide) hW1 (fun _ h9 => h9) rfl dX7_known_13 ?_
      refine lv_iload_n hx hb dX7_known_16 rfl (lv_at hl 1 rfl) ?_
      refine tq (ix_int (by omega)) ?_
      refine aldq hx hb hK hP 3 1 rfl rfl (k := x.toInt.toNat) rfl (by omega) (by decide) (hpa _ (by omega)) dX7_known_17 ?_
      refine lv_goto (tgt := 22) hx hb dX7_known_18 (by decide) ?_
      exact W.aret (v := .ref (pd (x.toInt.toNat))) hx hb hr (Or.inl ⟨_, rfl⟩) (Or.inr ⟨_, rfl⟩) (fun t ht hW => ⟨some (pd (x.toInt.toNat)), rfl, (by show some (pd (x.toInt.toNat)) = xKn n pd x; rw [xKn, if_pos ⟨by omega, by omega⟩]), ht⟩) (fun _ h => by cases h) dX7_known_22
