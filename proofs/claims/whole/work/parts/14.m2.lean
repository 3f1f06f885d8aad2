set_option maxHeartbeats 1200000 in
set_option maxRecDepth 100000 in
theorem c8_faultOf (l : Launch) (dC : Nat → ClassId) (dI : Nat → Nat → Nat) (cI : ClassId) (a : Nat) (o : Nat → Nat) (f : Nat → Int32) (g : Nat → Nat → Int32) (h : Int64) {k1 : Nat} (e1 : f 1 = nI k1) (b1 : k1 ≤ 10) : Met l yX8_faultOf wsX8_faultOf ({ frames := 1, cells := 0, slots := 0, locals := 25 } : Room) (va_Pc [.ref (a)] (fun U => va_P (dC, dI) vwCl (mW cI a o f g h) U.heap ∧ va_K (dC, dI) vwCl [(cI, .int)] U)) (vp_Si (fun r => r = nI (mfl g k1))) 0 0 (fun _ => False) := by
  refine Met.ofW (cc := cX8_faultOf) (maxL := 2) (ret := (some .int)) (by decide) rfl ?_
  intro p_ e_ s m args below meth c_0 s₁ B hml hv
  obtain ⟨rfl, hP, hK⟩ := hv
  have hx := B.exec
  have hb := B.bytes
  have hr := B.returns
  have hts := atoms_spec (ws := wsX8_faultOf) B.pre
  have hown : s.vm.findClass RX8 = some m.cls := findClass_of_methodNamed B.named
  have hlocks := B.notSynchronized
  have hP : va_P (dC, dI) vwCl (mW cI a o f g h) s.heap := hP
  have hl := lv_entry ([.ref (a)]) (n := 2) (Nat.le_of_ble_eq_true rfl)
  rw [lg_entry_eq]
  generalize (lg_sl ([.ref (a)]) ++ List.replicate (2 - (lg_sl ([.ref (a)])).length) Slot.unset).toArray = ls at hl ⊢
  have hl : lv_has ls 2 [(0, .ref (a))] := hl
  have hin8 : ∀ w ∈ wsX80, w ∈ wsX8_faultOf := fun _ h => List.mem_cons_of_mem _ (List.mem_append_right _ h)
  have hW0 := hts (.fieldLink RX8 52 "EachEyeModel" "pageMany" "I") (by decide +kernel)
  have hW1 := hts (.fieldLink RX8 7 "EachEyeModel" "page" "[I") (by decide +kernel)
  have hW2 := hts (.constantLong RX8 55 (48)) (by decide +kernel)
  have hW3 := hts (.constantLong RX8 57 (55)) (by decide +kernel)
  refine lv_iconst (v := nI (0)) hx hb dX8_faultOf_0 (by decide +kernel) ?_
  refine lv_istore_n (lv' := [(1, .int (nI (0))), (0, .ref (a))]) hx hb dX8_faultOf_1 rfl hl (by decide) rfl (fun ls hl => ?_)
  refine lp_ro (fun k : Nat => 6 - k) (fun k : Nat => k ≤ min k1 6 ∧ ∀ j, j < k → mdg g j = true) (fun k : Nat => [(0, .ref (a)), (1, .int (nI (k)))]) (0) ⟨by omega, fun j h => absurd h (Nat.not_lt_zero _)⟩ (by show lv_has ls 2 [(0, .ref (a)), (1, .int (nI (0)))]; exact lv_sub hl [1, 0] rfl) (fun k hI ih_2 ls hl => ?_)
  have hI : k ≤ min k1 6 ∧ ∀ j, j < k → mdg g j = true := hI
  have hl : lv_has ls 2 [(0, .ref (a)), (1, .int (nI (k)))] := hl
  have hI1 := hI.1
  refine lv_iload_n hx hb dX8_faultOf_2 rfl (lv_at hl 1 rfl) ?_
  refine lv_aload_n hx hb dX8_faultOf_3 rfl (lv_at hl 0 rfl) ?_
  refine va_get (D := (dC, dI)) (ci := 8) (v := .int (nI (k1))) (C := RX8) (T := TX8) (N := 25) hx hb hts hin8 hown hK hP 0 rfl rfl 1 (by decide) hW0 (fun _ h9 => h9) (congrArg (fun z => some (Value.int z)) e1) dX8_faultOf_4 ?_
  refine lv_icmp_ge (tgt := 41) hx hb dX8_faultOf_7 (by decide) (fun c_1 => ?_) (fun c_1 => ?_)
  · skip
    rw [nI_leI (a := k1) (b := k) (by omega) (by omega)] at c_1
    refine lv_iload_n hx hb dX8_faultOf_41 rfl (lv_at hl 1 rfl) ?_
    exact W.iret (v := nI (k)) hx hb hr (fun t ht hW => ⟨nI (k), rfl, (by show nI (k) = nI (mfl g k1); rw [mfl, show min k1 6 = k by omega, fst1_no (fun j hj => by rw [hI.2 j hj]; rfl)]), ht⟩) (fun _ h => by cases h) dX8_faultOf_42
  · skip
    rw [nI_leI (a := k1) (b := k) (by omega) (by omega)] at c_1
    refine lv_iload_n hx hb dX8_faultOf_10 rfl (lv_at hl 1 rfl) ?_
    refine lv_bipush (v := nI (6)) hx hb dX8_faultOf_11 (by decide +kernel) ?_
    refine lv_icmp_ge (tgt := 41) hx hb dX8_faultOf_13 (by decide) (fun c_2 => ?_) (fun c_2 => ?_)
    · skip
      rw [nI_leI (a := 6) (b := k) (by omega) (by omega)] at c_2
      refine lv_iload_n hx hb dX8_faultOf_41 rfl (lv_at hl 1 rfl) ?_
      exact W.iret (v := nI (k)) hx hb hr (fun t ht hW => ⟨nI (k), rfl, (by show nI (k) = nI (mfl g k1); rw [mfl, show min k1 6 = k by omega, fst1_no (fun j hj => by rw [hI.2 j hj]; rfl)]), ht⟩) (fun _ h => by cases h) dX8_faultOf_42
    · skip
      rw [nI_leI (a := 6) (b := k) (by omega) (by omega)] at c_2
      refine lv_aload_n hx hb dX8_faultOf_16 rfl (lv_at hl 0 rfl) ?_
      refine va_get (D := (dC, dI)) (ci := 8) (v := .ref (o 0)) (C := RX8) (T := TX8) (N := 25) hx hb hts hin8 hown hK hP 0 rfl rfl 0 (by decide) hW1 (fun _ h9 => h9) rfl dX8_faultOf_17 ?_
      refine lv_iload_n hx hb dX8_faultOf_20 rfl (lv_at hl 1 rfl) ?_
      refine ald hx hb hK hP (f := g 0) (k := k) 1 0 rfl rfl rfl (by omega) (by decide) dX8_faultOf_21 ?_
      refine lv_i2l hx hb dX8_faultOf_22 rfl ?_
      refine lv_ldc2 (v := 48) hx hb hown hW2 dX8_faultOf_23 ?_
      refine lv_ldc2 (v := 55) hx hb hown hW3 dX8_faultOf_26 ?_
      refine vp_callSi (va_Run.run (va_runS (As := [.long ((g 0 (k)).toInt64), .long (48), .long (55)]) (rest := []) ⟨hx, hb, hml, hown, hts⟩ (c8_in l (g 0 (k)) (48) (55) (48) (55) rfl rfl) (va_cwS 3 hts gX8_faultOf_X8_in rfl rfl rfl (by decide +kernel) ⟨Nat.le_of_ble_eq_true rfl, Nat.le_of_ble_eq_true rfl⟩) ⟨fun _ _ _ _ q => q, fun U hU hW => ⟨rfl, trivial⟩⟩ rfl rfl hl.1 rfl (lv_room (Nat.le_of_ble_eq_true rfl)) dX8_faultOf_29 ⟨Nat.le_of_ble_eq_true rfl, Nat.le_of_ble_eq_true rfl⟩)) (fun r hrc => ?_)
      have hrc : r = b2i ((48) ≤ (g 0 (k)).toInt ∧ (g 0 (k)).toInt ≤ (55)) := hrc
      subst hrc
      refine lv_if_eq (tgt := 41) hx hb dX8_faultOf_32 (by decide) (fun c_3 => ?_) (fun c_3 => ?_)
      · skip
        have c_3 := b2i_0 c_3
        refine lv_iload_n hx hb dX8_faultOf_41 rfl (lv_at hl 1 rfl) ?_
        exact W.iret (v := nI (k)) hx hb hr (fun t ht hW => ⟨nI (k), rfl, (by show nI (k) = nI (mfl g k1); rw [mfl, fst1_at (k := k) (by omega) (fun j hj => by rw [hI.2 j hj]; rfl) (by rw [mdg, decide_eq_false c_3]; rfl)]), ht⟩) (fun _ h => by cases h) dX8_faultOf_42
      · skip
        have c_3 := b2i_1 c_3
        refine lv_iinc (v := nI (k + 1)) (lv' := [(1, .int (nI (k + 1))), (0, .ref (a))]) hx hb dX8_faultOf_35 hl (k := 1) rfl (nI_1 _) (by decide) rfl (fun ls hl => ?_)
        refine lv_goto (tgt := 2) hx hb dX8_faultOf_38 (by decide) ?_
        exact ih_2 (k + 1) ls (by show _ < _; omega) ⟨by omega, lt_s hI.2 (by rw [mdg]; exact decide_eq_true (c_3))⟩ (by show lv_has ls 2 [(0, .ref (a)), (1, .int (nI ((k + 1))))]; exact lv_sub hl [1, 0] rfl)

set_option maxHeartbeats 1200000 in
set_option maxRecDepth 100000 in
theorem c8_fault (l : Launch) (dC : Nat → ClassId) (dI : Nat → Nat → Nat) (cI : ClassId) (a : Nat) (o : Nat → Nat) (f : Nat → Int32) (g : Nat → Nat → Int32) (h : Int64) {k1 : Nat} (e1 : f 1 = nI k1) (b1 : k1 ≤ 10) : Met l yX8_fault wsX8_fault ({ frames := 2, cells := 0, slots := 0, locals := 46 } : Room) (va_Pc [.ref (a)] (fun U => va_P (dC, dI) vwCl (mW cI a o f g h) U.heap ∧ va_K (dC, dI) vwCl [(cI, .int)] U)) (vp_Si (fun r => r = nI (mfl g k1))) 0 0 (fun _ => False) := by
  refine Met.ofW (cc := cX8_fault) (maxL := 1) (ret := (some .int)) (by decide) rfl ?_
  intro p_ e_ s m args below meth c_0 s₁ B hml hv
  obtain ⟨rfl, hP, hK⟩ := hv
  have hx := B.exec
  have hb := B.bytes
  have hr := B.returns
  have hts := atoms_spec (ws := wsX8_fault) B.pre
  have hown : s.vm.findClass RX8 = some m.cls := findClass_of_methodNamed B.named
  have hlocks := B.notSynchronized
  have hP : va_P (dC, dI) vwCl (mW cI a o f g h) s.heap := hP
  have hl := lv_entry ([.ref (a)]) (n := 1) (Nat.le_of_ble_eq_true rfl)
  rw [lg_entry_eq]
  generalize (lg_sl ([.ref (a)]) ++ List.replicate (1 - (lg_sl ([.ref (a)])).length) Slot.unset).toArray = ls at hl ⊢
  have hl : lv_has ls 1 [(0, .ref (a))] := hl
  refine lv_aload_n hx hb dX8_fault_0 rfl (lv_at hl 0 rfl) ?_
  refine vp_callSi (va_Run.run (va_runV (As := []) (rest := []) ⟨hx, hb, hml, hown, hts⟩ (c8_faultOf l dC dI cI a o (f) (g) (h) e1 (by omega)  ) (cwV 0 hts gX8_fault_X8_faultOf rfl rfl rfl (by decide +kernel) ⟨Nat.le_of_ble_eq_true rfl, Nat.le_of_ble_eq_true rfl⟩) ⟨fun a U g mk q => ⟨q.1, q.2.1, va_K.moved (u := U) (U := U.calling g mk a) (Vm.Alike.refl U.vm) q.2.2⟩, va_recv hK hP (ci := 8) (q0 := 0) rfl rfl, fun U hU hW => ⟨rfl, by rw [hU]; exact hP, va_K.moved hW.alike hK⟩⟩ rfl rfl hl.1 rfl (lv_room (Nat.le_of_ble_eq_true rfl)) dX8_fault_1 ⟨Nat.le_of_ble_eq_true rfl, Nat.le_of_ble_eq_true rfl⟩)) (fun r hrc => ?_)
  have hrc : r = nI (mfl (g) (k1)) := hrc
  subst hrc
  exact W.iret (v := nI (mfl (g) (k1))) hx hb hr (fun t ht hW => ⟨nI (mfl (g) (k1)), rfl, (by show nI (mfl (g) (k1)) = nI (mfl g k1); rfl), ht⟩) (fun _ h => by cases h) dX8_fault_4

set_option maxHeartbeats 1200000 in
set_option maxRecDepth 100000 in
theorem c8_isSix (l : Launch) (dC : Nat → ClassId) (dI : Nat → Nat → Nat) (cI : ClassId) (a : Nat) (o : Nat → Nat) (f : Nat → Int32) (g : Nat → Nat → Int32) (h : Int64) {k1 : Nat} (e1 : f 1 = nI k1) (b1 : k1 ≤ 10) : Met l yX8_isSix wsX8_isSix ({ frames := 2, cells := 0, slots := 0, locals := 46 } : Room) (va_Pc [.ref (a)] (fun U => va_P (dC, dI) vwCl (mW cI a o f g h) U.heap ∧ va_K (dC, dI) vwCl [(cI, .int)] U)) (vp_Si (fun r => r = b2i (k1 = 6 ∧ mfl g k1 = 6))) 0 0 (fun _ => False) := by
  refine Met.ofW (cc := cX8_isSix) (maxL := 1) (ret := (some .boolean)) (by decide) rfl ?_
  intro p_ e_ s m args below meth c_0 s₁ B hml hv
  obtain ⟨rfl, hP, hK⟩ := hv
  have hx := B.exec
  have hb := B.bytes
  have hr := B.returns
  have hts := atoms_spec (ws := wsX8_isSix) B.pre
  have hown : s.vm.findClass RX8 = some m.cls := findClass_of_methodNamed B.named
  have hlocks := B.notSynchronized
  have hP : va_P (dC, dI) vwCl (mW cI a o f g h) s.heap := hP
  have hl := lv_entry ([.ref (a)]) (n := 1) (Nat.le_of_ble_eq_true rfl)
  rw [lg_entry_eq]
  generalize (lg_sl ([.ref (a)]) ++ List.replicate (1 - (lg_sl ([.ref (a)])).length) Slot.unset).toArray = ls at hl ⊢
  have hl : lv_has ls 1 [(0, .ref (a))] := hl
  have hin8 : ∀ w ∈ wsX80, w ∈ wsX8_isSix := fun _ h => List.mem_cons_of_mem _ (List.mem_append_right _ h)
  have hW0 := hts (.fieldLink RX8 52 "EachEyeModel" "pageMany" "I") (by decide +kernel)
  refine lv_aload_n hx hb dX8_isSix_0 rfl (lv_at hl 0 rfl) ?_
  refine va_get (D := (dC, dI)) (ci := 8) (v := .int (nI (k1))) (C := RX8) (T := TX8) (N := 25) hx hb hts hin8 hown hK hP 0 rfl rfl 1 (by decide) hW0 (fun _ h9 => h9) (congrArg (fun z => some (Value.int z)) e1) dX8_isSix_1 ?_
  refine lv_bipush (v := nI (6)) hx hb dX8_isSix_4 (by decide +kernel) ?_
  refine lv_icmp_ne (tgt := 22) hx hb dX8_isSix_6 (by decide) (fun c_1 => ?_) (fun c_1 => ?_)
  · skip
    rw [nI_eq (a := k1) (b := 6) (by omega) (by omega)] at c_1
    refine lv_iconst (v := nI (0)) hx hb dX8_isSix_22 (by decide +kernel) ?_
    exact W.zret (ty := .boolean) (v := nI (0)) hx hb hr rfl (fun t ht hW => ⟨nI (0), rfl, (by show nI (0) = b2i (k1 = 6 ∧ mfl g k1 = 6); exact b2i_f (by omega)), ht⟩) (fun _ h => by cases h) dX8_isSix_23
  · skip
    rw [nI_eq (a := k1) (b := 6) (by omega) (by omega)] at c_1
    refine lv_aload_n hx hb dX8_isSix_9 rfl (lv_at hl 0 rfl) ?_
    refine vp_callSi (va_Run.run (va_runV (As := []) (rest := []) ⟨hx, hb, hml, hown, hts⟩ (c8_faultOf l dC dI cI a o (f) (g) (h) e1 (by omega)  ) (cwV 0 hts gX8_isSix_X8_faultOf rfl rfl rfl (by decide +kernel) ⟨Nat.le_of_ble_eq_true rfl, Nat.le_of_ble_eq_true rfl⟩) ⟨fun a U g mk q => ⟨q.1, q.2.1, va_K.moved (u := U) (U := U.calling g mk a) (Vm.Alike.refl U.vm) q.2.2⟩, va_recv hK hP (ci := 8) (q0 := 0) rfl rfl, fun U hU hW => ⟨rfl, by rw [hU]; exact hP, va_K.moved hW.alike hK⟩⟩ rfl rfl hl.1 rfl (lv_room (Nat.le_of_ble_eq_true rfl)) dX8_isSix_10 ⟨Nat.le_of_ble_eq_true rfl, Nat.le_of_ble_eq_true rfl⟩)) (fun r hrc => ?_)
    have hrc : r = nI (mfl (g) (k1)) := hrc
    subst hrc
    have hfl := fst1_le (fun j => !mdg g j) (min k1 6)
    rw [← mfl] at hfl
    refine lv_bipush (v := nI (6)) hx hb dX8_isSix_13 (by decide +kernel) ?_
    refine lv_icmp_ne (tgt := 22) hx hb dX8_isSix_15 (by decide) (fun c_2 => ?_) (fun c_2 => ?_)
    · skip
      rw [nI_eq (a := mfl (g) (k1)) (b := 6) (by omega) (by omega)] at c_2
      refine lv_iconst (v := nI (0)) hx hb dX8_isSix_22 (by decide +kernel) ?_
      exact W.zret (ty := .boolean) (v := nI (0)) hx hb hr rfl (fun t ht hW => ⟨nI (0), rfl, (by show nI (0) = b2i (k1 = 6 ∧ mfl g k1 = 6); exact b2i_f (by omega)), ht⟩) (fun _ h => by cases h) dX8_isSix_23
    · skip
      rw [nI_eq (a := mfl (g) (k1)) (b := 6) (by omega) (by omega)] at c_2
      refine lv_iconst (v := nI (1)) hx hb dX8_isSix_18 (by decide +kernel) ?_
      refine lv_goto (tgt := 23) hx hb dX8_isSix_19 (by decide) ?_
      exact W.zret (ty := .boolean) (v := nI (1)) hx hb hr rfl (fun t ht hW => ⟨nI (1), rfl, (by show nI (1) = b2i (k1 = 6 ∧ mfl g k1 = 6); exact b2i_t ⟨by omega, by omega⟩), ht⟩) (fun _ h => by cases h) dX8_isSix_23

set_option maxHeartbeats 1200000 in
set_option maxRecDepth 100000 in
theorem c8_inkedCells (l : Launch) (dC : Nat → ClassId) (dI : Nat → Nat → Nat) (cI : ClassId) (a : Nat) (o : Nat → Nat) (f : Nat → Int32) (g : Nat → Nat → Int32) (h : Int64) : Met l yX8_inkedCells wsX8_inkedCells ({ frames := 0, cells := 0, slots := 0, locals := 0 } : Room) (va_Pc [.ref (a)] (fun U => va_P (dC, dI) vwCl (mW cI a o f g h) U.heap ∧ va_K (dC, dI) vwCl [(cI, .int)] U)) (vp_Si (fun r => r = mInk f g)) 0 0 (fun _ => False) := by
  refine Met.ofW (cc := cX8_inkedCells) (maxL := 3) (ret := (some .int)) (by decide) rfl ?_
  intro p_ e_ s m args below meth c_0 s₁ B hml hv
  obtain ⟨rfl, hP, hK⟩ := hv
  have hx := B.exec
  have hb := B.bytes
  have hr := B.returns
  have hts := atoms_spec (ws := wsX8_inkedCells) B.pre
  have hown : s.vm.findClass RX8 = some m.cls := findClass_of_methodNamed B.named
  have hlocks := B.notSynchronized
  have hP : va_P (dC, dI) vwCl (mW cI a o f g h) s.heap := hP
  have hl := lv_entry ([.ref (a)]) (n := 3) (Nat.le_of_ble_eq_true rfl)
  rw [lg_entry_eq]
  generalize (lg_sl ([.ref (a)]) ++ List.replicate (3 - (lg_sl ([.ref (a)])).length) Slot.unset).toArray = ls at hl ⊢
  have hl : lv_has ls 3 [(0, .ref (a))] := hl
  have hin8 : ∀ w ∈ wsX80, w ∈ wsX8_inkedCells := fun _ h => List.mem_cons_of_mem _ (List.mem_append_right _ h)
  have hW0 := hts (.fieldLink RX8 63 "EachEyeModel" "isThere" "Z") (by decide +kernel)
  have hW1 := hts (.fieldLink RX8 13 "EachEyeModel" "hues" "[I") (by decide +kernel)
  refine lv_iconst (v := nI (0)) hx hb dX8_inkedCells_0 (by decide +kernel) ?_
  refine lv_istore_n (lv' := [(1, .int (nI (0))), (0, .ref (a))]) hx hb dX8_inkedCells_1 rfl hl (by decide) rfl (fun ls hl => ?_)
  refine lv_iconst (v := nI (0)) hx hb dX8_inkedCells_2 (by decide +kernel) ?_
  refine lv_istore_n (lv' := [(2, .int (nI (0))), (1, .int (nI (0))), (0, .ref (a))]) hx hb dX8_inkedCells_3 rfl hl (by decide) rfl (fun ls hl => ?_)
  have e0_1 : (nI (0)) = sm (fun c => if g 5 c = nI 0 then 0 else 1) 0 := rfl
  refine lp_ro (fun k : Nat => 6 - k) (fun k : Nat => k ≤ 6 ∧ (k = 0 ∨ ¬ f 2 = nI 0)) (fun k : Nat => [(0, .ref (a)), (1, .int (sm (fun c => if g 5 c = nI 0 then 0 else 1) k)), (2, .int (nI (k)))]) (0) ⟨by omega, Or.inl rfl⟩ (by show lv_has ls 3 [(0, .ref (a)), (1, .int (sm (fun c => if g 5 c = nI 0 then 0 else 1) 0)), (2, .int (nI (0)))]; rw [← e0_1]; exact lv_sub hl [2, 1, 0] rfl) (fun k hI ih_4 ls hl => ?_)
  have hI : k ≤ 6 ∧ (k = 0 ∨ ¬ f 2 = nI 0) := hI
  have hl : lv_has ls 3 [(0, .ref (a)), (1, .int (sm (fun c => if g 5 c = nI 0 then 0 else 1) k)), (2, .int (nI (k)))] := hl
  have hI1 := hI.1
  refine lv_iload_n hx hb dX8_inkedCells_4 rfl (lv_at hl 2 rfl) ?_
  refine lv_bipush (v := nI (6)) hx hb dX8_inkedCells_5 (by decide +kernel) ?_
  refine lv_icmp_ge (tgt := 40) hx hb dX8_inkedCells_7 (by decide) (fun c_1 => ?_) (fun c_1 => ?_)
  · skip
    rw [nI_leI (a := 6) (b := k) (by omega) (by omega)] at c_1
    refine lv_iload_n hx hb dX8_inkedCells_40 rfl (lv_at hl 1 rfl) ?_
    exact W.iret (v := sm (fun c => if g 5 c = nI 0 then 0 else 1) k) hx hb hr (fun t ht hW => ⟨sm (fun c => if g 5 c = nI 0 then 0 else 1) k, rfl, (by show sm (fun c => if g 5 c = nI 0 then 0 else 1) k = mInk f g; have h6 : k = 6 := (by omega); subst h6; rw [mInk, if_neg (hI.2.resolve_left (by decide))]; try rfl), ht⟩) (fun _ h => by cases h) dX8_inkedCells_41
  · skip
    rw [nI_leI (a := 6) (b := k) (by omega) (by omega)] at c_1
    refine lv_aload_n hx hb dX8_inkedCells_10 rfl (lv_at hl 0 rfl) ?_
    refine va_get (D := (dC, dI)) (ci := 8) (v := .int (f 2)) (C := RX8) (T := TX8) (N := 25) hx hb hts hin8 hown hK hP 0 rfl rfl 2 (by decide) hW0 (fun _ h9 => h9) rfl dX8_inkedCells_11 ?_
    refine lv_if_eq (tgt := 40) hx hb dX8_inkedCells_14 (by decide) (fun c_2 => ?_) (fun c_2 => ?_)
    · skip
      have c_2 : (f 2) = nI 0 := c_2
      refine lv_iload_n hx hb dX8_inkedCells_40 rfl (lv_at hl 1 rfl) ?_
      exact W.iret (v := sm (fun c => if g 5 c = nI 0 then 0 else 1) k) hx hb hr (fun t ht hW => ⟨sm (fun c => if g 5 c = nI 0 then 0 else 1) k, rfl, (by show sm (fun c => if g 5 c = nI 0 then 0 else 1) k = mInk f g; have h0 : k = 0 := hI.2.resolve_right (fun z => z c_2); subst h0; rw [mInk, if_pos c_2]; try rfl), ht⟩) (fun _ h => by cases h) dX8_inkedCells_41
    · skip
      have c_2 : ¬ (f 2) = nI 0 := c_2
      refine lv_iload_n hx hb dX8_inkedCells_17 rfl (lv_at hl 1 rfl) ?_
      refine lv_aload_n hx hb dX8_inkedCells_18 rfl (lv_at hl 0 rfl) ?_
      refine va_get (D := (dC, dI)) (ci := 8) (v := .ref (o 5)) (C := RX8) (T := TX8) (N := 25) hx hb hts hin8 hown hK hP 0 rfl rfl 5 (by decide) hW1 (fun _ h9 => h9) rfl dX8_inkedCells_19 ?_
      refine lv_iload_n hx hb dX8_inkedCells_22 rfl (lv_at hl 2 rfl) ?_
      refine ald hx hb hK hP (f := g 5) (k := k) 2 0 rfl rfl rfl (by omega) (by decide) dX8_inkedCells_23 ?_
      refine lv_if_ne (tgt := 31) hx hb dX8_inkedCells_24 (by decide) (fun c_3 => ?_) (fun c_3 => ?_)
      · skip
        have c_3 : ¬ (g 5 (k)) = nI 0 := c_3
        refine lv_iconst (v := nI (1)) hx hb dX8_inkedCells_31 (by decide +kernel) ?_
        refine lv_iadd hx hb dX8_inkedCells_32 ?_
        refine lv_istore_n (lv' := [(1, .int ((sm (fun c => if g 5 c = nI 0 then 0 else 1) k) + (nI (1)))), (0, .ref (a)), (2, .int (nI (k)))]) hx hb dX8_inkedCells_33 rfl hl (by decide) rfl (fun ls hl => ?_)
        refine lv_iinc (v := nI (k + 1)) (lv' := [(2, .int (nI (k + 1))), (1, .int ((sm (fun c => if g 5 c = nI 0 then 0 else 1) k) + (nI (1)))), (0, .ref (a))]) hx hb dX8_inkedCells_34 hl (k := 2) rfl (nI_1 _) (by decide) rfl (fun ls hl => ?_)
        refine lv_goto (tgt := 4) hx hb dX8_inkedCells_37 (by decide) ?_
        have e1_1 : ((sm (fun c => if g 5 c = nI 0 then 0 else 1) k) + (nI (1))) = sm (fun c => if g 5 c = nI 0 then 0 else 1) (k + 1) := by first | rfl | (simp only [sm, alB, if_neg c_1, if_neg c_2, if_neg c_3]; done) | (simp only [sm, alB, if_neg c_1, if_neg c_2, if_neg c_3]; rfl) | (simp [sm, alB, if_neg c_1, if_neg c_2, if_neg c_3]; done)
        exact ih_4 (k + 1) ls (by show _ < _; omega) ⟨by omega, Or.inr c_2⟩ (by show lv_has ls 3 [(0, .ref (a)), (1, .int (sm (fun c => if g 5 c = nI 0 then 0 else 1) (k + 1))), (2, .int (nI ((k + 1))))]; rw [← e1_1]; exact lv_sub hl [2, 1, 0] rfl)
      · skip
        have c_3 : (g 5 (k)) = nI 0 := c_3
        refine lv_iconst (v := nI (0)) hx hb dX8_inkedCells_27 (by decide +kernel) ?_
        refine lv_goto (tgt := 32) hx hb dX8_inkedCells_28 (by decide) ?_
        refine lv_iadd hx hb dX8_inkedCells_32 ?_
        refine lv_istore_n (lv' := [(1, .int ((sm (fun c => if g 5 c = nI 0 then 0 else 1) k) + (nI (0)))), (0, .ref (a)), (2, .int (nI (k)))]) hx hb dX8_inkedCells_33 rfl hl (by decide) rfl (fun ls hl => ?_)
        refine lv_iinc (v := nI (k + 1)) (lv' := [(2, .int (nI (k + 1))), (1, .int ((sm (fun c => if g 5 c = nI 0 then 0 else 1) k) + (nI (0)))), (0, .ref (a))]) hx hb dX8_inkedCells_34 hl (k := 2) rfl (nI_1 _) (by decide) rfl (fun ls hl => ?_)
        refine lv_goto (tgt := 4) hx hb dX8_inkedCells_37 (by decide) ?_
        have e1_1 : ((sm (fun c => if g 5 c = nI 0 then 0 else 1) k) + (nI (0))) = sm (fun c => if g 5 c = nI 0 then 0 else 1) (k + 1) := by first | rfl | (simp only [sm, alB, if_neg c_1, if_neg c_2, if_pos c_3]; done) | (simp only [sm, alB, if_neg c_1, if_neg c_2, if_pos c_3]; rfl) | (simp [sm, alB, if_neg c_1, if_neg c_2, if_pos c_3]; done)
        exact ih_4 (k + 1) ls (by show _ < _; omega) ⟨by omega, Or.inr c_2⟩ (by show lv_has ls 3 [(0, .ref (a)), (1, .int (sm (fun c => if g 5 c = nI 0 then 0 else 1) (k + 1))), (2, .int (nI ((k + 1))))]; rw [← e1_1]; exact lv_sub hl [2, 1, 0] rfl)

set_option maxHeartbeats 1200000 in
set_option maxRecDepth 100000 in
theorem c8_hue (l : Launch) (dC : Nat → ClassId) (dI : Nat → Nat → Nat) (cI : ClassId) (a : Nat) (o : Nat → Nat) (f : Nat → Int32) (g : Nat → Nat → Int32) (h : Int64) (x : Int32) : Met l yX8_hue wsX8_hue ({ frames := 1, cells := 0, slots := 0, locals := 25 } : Room) (va_Pc [.ref (a), .int (x)] (fun U => va_P (dC, dI) vwCl (mW cI a o f g h) U.heap ∧ va_K (dC, dI) vwCl [(cI, .int)] U)) (vp_Si (fun r => r = mHue f g x)) 0 0 (fun _ => False) := by
  refine Met.ofW (cc := cX8_hue) (maxL := 2) (ret := (some .int)) (by decide) rfl ?_
  intro p_ e_ s m args below meth c_0 s₁ B hml hv
  obtain ⟨rfl, hP, hK⟩ := hv
  have hx := B.exec
  have hb := B.bytes
  have hr := B.returns
  have hts := atoms_spec (ws := wsX8_hue) B.pre
  have hown : s.vm.findClass RX8 = some m.cls := findClass_of_methodNamed B.named
  have hlocks := B.notSynchronized
  have hP : va_P (dC, dI) vwCl (mW cI a o f g h) s.heap := hP
  have hl := lv_entry ([.ref (a), .int (x)]) (n := 2) (Nat.le_of_ble_eq_true rfl)
  rw [lg_entry_eq]
  generalize (lg_sl ([.ref (a), .int (x)]) ++ List.replicate (2 - (lg_sl ([.ref (a), .int (x)])).length) Slot.unset).toArray = ls at hl ⊢
  have hl : lv_has ls 2 [(0, .ref (a)), (1, .int (x))] := hl
  have hin8 : ∀ w ∈ wsX80, w ∈ wsX8_hue := fun _ h => List.mem_cons_of_mem _ (List.mem_append_right _ h)
  have hW0 := hts (.fieldLink RX8 63 "EachEyeModel" "isThere" "Z") (by decide +kernel)
  have hW1 := hts (.constantLong RX8 89 (5)) (by decide +kernel)
  have hW2 := hts (.fieldLink RX8 13 "EachEyeModel" "hues" "[I") (by decide +kernel)
  refine lv_aload_n hx hb dX8_hue_0 rfl (lv_at hl 0 rfl) ?_
  refine va_get (D := (dC, dI)) (ci := 8) (v := .int (f 2)) (C := RX8) (T := TX8) (N := 25) hx hb hts hin8 hown hK hP 0 rfl rfl 2 (by decide) hW0 (fun _ h9 => h9) rfl dX8_hue_1 ?_
  refine lv_if_eq (tgt := 28) hx hb dX8_hue_4 (by decide) (fun c_1 => ?_) (fun c_1 => ?_)
  · skip
    have c_1 : (f 2) = nI 0 := c_1
    refine lv_bipush (v := (-101)) hx hb dX8_hue_28 (by decide +kernel) ?_
    exact W.iret (v := (-101)) hx hb hr (fun t ht hW => ⟨(-101), rfl, (by show (-101) = mHue f g x; first | (simp only [mHue, if_pos c_1]; done) | (simp only [mHue, if_pos c_1]; rfl) | rfl | (simp [mHue, if_pos c_1]; done)), ht⟩) (fun _ h => by cases h) dX8_hue_30
  · skip
    have c_1 : ¬ (f 2) = nI 0 := c_1
    refine lv_iload_n hx hb dX8_hue_7 rfl (lv_at hl 1 rfl) ?_
    refine lv_i2l hx hb dX8_hue_8 rfl ?_
    refine lv_lconst (v := 0) hx hb dX8_hue_9 (by decide +kernel) ?_
    refine lv_ldc2 (v := 5) hx hb hown hW1 dX8_hue_10 ?_
    refine vp_callSi (va_Run.run (va_runS (As := [.long ((x).toInt64), .long (0), .long (5)]) (rest := []) ⟨hx, hb, hml, hown, hts⟩ (c8_in l (x) (0) (5) (0) (5) rfl rfl) (va_cwS 3 hts gX8_hue_X8_in rfl rfl rfl (by decide +kernel) ⟨Nat.le_of_ble_eq_true rfl, Nat.le_of_ble_eq_true rfl⟩) ⟨fun _ _ _ _ q => q, fun U hU hW => ⟨rfl, trivial⟩⟩ rfl rfl hl.1 rfl (lv_room (Nat.le_of_ble_eq_true rfl)) dX8_hue_13 ⟨Nat.le_of_ble_eq_true rfl, Nat.le_of_ble_eq_true rfl⟩)) (fun r hrc => ?_)
    have hrc : r = b2i ((0) ≤ (x).toInt ∧ (x).toInt ≤ (5)) := hrc
    subst hrc
    refine lv_if_eq (tgt := 28) hx hb dX8_hue_16 (by decide) (fun c_2 => ?_) (fun c_2 => ?_)
    · skip
      have c_2 := b2i_0 c_2
      refine lv_bipush (v := (-101)) hx hb dX8_hue_28 (by decide +kernel) ?_
      exact W.iret (v := (-101)) hx hb hr (fun t ht hW => ⟨(-101), rfl, (by show (-101) = mHue f g x; first | (simp only [mHue, if_neg c_1, if_neg c_2]; done) | (simp only [mHue, if_neg c_1, if_neg c_2]; rfl) | rfl | (simp [mHue, if_neg c_1, if_neg c_2]; done)), ht⟩) (fun _ h => by cases h) dX8_hue_30
    · skip
      have c_2 := b2i_1 c_2
      refine lv_aload_n hx hb dX8_hue_19 rfl (lv_at hl 0 rfl) ?_
      refine va_get (D := (dC, dI)) (ci := 8) (v := .ref (o 5)) (C := RX8) (T := TX8) (N := 25) hx hb hts hin8 hown hK hP 0 rfl rfl 5 (by decide) hW2 (fun _ h9 => h9) rfl dX8_hue_20 ?_
      refine lv_iload_n hx hb dX8_hue_23 rfl (lv_at hl 1 rfl) ?_
      refine tv (ix_int (by omega)) ?_
      refine ald hx hb hK hP (f := g 5) (k := x.toInt.toNat) 2 0 rfl rfl rfl (by omega) (by decide) dX8_hue_24 ?_
      refine lv_goto (tgt := 30) hx hb dX8_hue_25 (by decide) ?_
      exact W.iret (v := g 5 (x.toInt.toNat)) hx hb hr (fun t ht hW => ⟨g 5 (x.toInt.toNat), rfl, (by show g 5 (x.toInt.toNat) = mHue f g x; first | (simp only [mHue, if_neg c_1, if_pos c_2]; done) | (simp only [mHue, if_neg c_1, if_pos c_2]; rfl) | rfl | (simp [mHue, if_neg c_1, if_pos c_2]; done)), ht⟩) (fun _ h => by cases h) dX8_hue_30

set_option maxHeartbeats 1200000 in
set_option maxRecDepth 100000 in
theorem c8_isPerson (l : Launch) (dC : Nat → ClassId) (dI : Nat → Nat → Nat) (cI : ClassId) (a : Nat) (o : Nat → Nat) (f : Nat → Int32) (g : Nat → Nat → Int32) (h : Int64) {k6 : Nat} (e6 : f 6 = nI k6) (b6 : k6 ≤ 4) (x : Int32) : Met l yX8_isPerson wsX8_isPerson ({ frames := 1, cells := 0, slots := 0, locals := 25 } : Room) (va_Pc [.ref (a), .int (x)] (fun U => va_P (dC, dI) vwCl (mW cI a o f g h) U.heap ∧ va_K (dC, dI) vwCl [(cI, .int)] U)) (vp_Si (fun r => r = b2i (0 ≤ x.toInt ∧ x.toInt ≤ (k6 : Int) - 1))) 0 0 (fun _ => False) := by
  refine Met.ofW (cc := cX8_isPerson) (maxL := 2) (ret := (some .boolean)) (by decide) rfl ?_
  intro p_ e_ s m args below meth c_0 s₁ B hml hv
  obtain ⟨rfl, hP, hK⟩ := hv
  have hx := B.exec
  have hb := B.bytes
  have hr := B.returns
  have hts := atoms_spec (ws := wsX8_isPerson) B.pre
  have hown : s.vm.findClass RX8 = some m.cls := findClass_of_methodNamed B.named
  have hlocks := B.notSynchronized
  have hP : va_P (dC, dI) vwCl (mW cI a o f g h) s.heap := hP
  have hl := lv_entry ([.ref (a), .int (x)]) (n := 2) (Nat.le_of_ble_eq_true rfl)
  rw [lg_entry_eq]
  generalize (lg_sl ([.ref (a), .int (x)]) ++ List.replicate (2 - (lg_sl ([.ref (a), .int (x)])).length) Slot.unset).toArray = ls at hl ⊢
  have hl : lv_has ls 2 [(0, .ref (a)), (1, .int (x))] := hl
  have hin8 : ∀ w ∈ wsX80, w ∈ wsX8_isPerson := fun _ h => List.mem_cons_of_mem _ (List.mem_append_right _ h)
  have hW0 := hts (.fieldLink RX8 71 "EachEyeModel" "people" "I") (by decide +kernel)
  refine lv_iload_n hx hb dX8_isPerson_0 rfl (lv_at hl 1 rfl) ?_
  refine lv_i2l hx hb dX8_isPerson_1 rfl ?_
  refine lv_lconst (v := 0) hx hb dX8_isPerson_2 (by decide +kernel) ?_
  refine lv_aload_n hx hb dX8_isPerson_3 rfl (lv_at hl 0 rfl) ?_
  refine va_get (D := (dC, dI)) (ci := 8) (v := .int (nI (k6))) (C := RX8) (T := TX8) (N := 25) hx hb hts hin8 hown hK hP 0 rfl rfl 6 (by decide) hW0 (fun _ h9 => h9) (congrArg (fun z => some (Value.int z)) e6) dX8_isPerson_4 ?_
  refine lv_iconst (v := nI (1)) hx hb dX8_isPerson_7 (by decide +kernel) ?_
  refine lv_isub hx hb dX8_isPerson_8 ?_
  refine tv (y := nI (k6) - nI (1)) rfl ?_
  refine lv_i2l hx hb dX8_isPerson_9 rfl ?_
  refine vp_callSi (va_Run.run (va_runS (As := [.long ((x).toInt64), .long (0), .long ((nI (k6) - nI (1)).toInt64)]) (rest := []) ⟨hx, hb, hml, hown, hts⟩ (c8_in l (x) (0) ((nI (k6) - nI (1)).toInt64) (0) ((k6 : Int) - 1) rfl (dec_toInt (by omega))) (va_cwS 3 hts gX8_isPerson_X8_in rfl rfl rfl (by decide +kernel) ⟨Nat.le_of_ble_eq_true rfl, Nat.le_of_ble_eq_true rfl⟩) ⟨fun _ _ _ _ q => q, fun U hU hW => ⟨rfl, trivial⟩⟩ rfl rfl hl.1 rfl (lv_room (Nat.le_of_ble_eq_true rfl)) dX8_isPerson_10 ⟨Nat.le_of_ble_eq_true rfl, Nat.le_of_ble_eq_true rfl⟩)) (fun r hrc => ?_)
  have hrc : r = b2i ((0) ≤ (x).toInt ∧ (x).toInt ≤ ((k6 : Int) - 1)) := hrc
  subst hrc
  exact W.zret (ty := .boolean) (v := b2i ((0) ≤ (x).toInt ∧ (x).toInt ≤ ((k6 : Int) - 1))) hx hb hr nar_b2i (fun t ht hW => ⟨b2i ((0) ≤ (x).toInt ∧ (x).toInt ≤ ((k6 : Int) - 1)), rfl, (by show b2i ((0) ≤ (x).toInt ∧ (x).toInt ≤ ((k6 : Int) - 1)) = b2i (0 ≤ x.toInt ∧ x.toInt ≤ (k6 : Int) - 1); rfl), ht⟩) (fun _ h => by cases h) dX8_isPerson_13

set_option maxHeartbeats 1200000 in
set_option maxRecDepth 100000 in
theorem c8_isInk (l : Launch) (dC : Nat → ClassId) (dI : Nat → Nat → Nat) (cI : ClassId) (a : Nat) (o : Nat → Nat) (f : Nat → Int32) (g : Nat → Nat → Int32) (h : Int64) {k7 : Nat} (e7 : f 7 = nI k7) (b7 : k7 ≤ 5) (x : Int32) : Met l yX8_isInk wsX8_isInk ({ frames := 1, cells := 0, slots := 0, locals := 25 } : Room) (va_Pc [.ref (a), .int (x)] (fun U => va_P (dC, dI) vwCl (mW cI a o f g h) U.heap ∧ va_K (dC, dI) vwCl [(cI, .int)] U)) (vp_Si (fun r => r = b2i (0 ≤ x.toInt ∧ x.toInt ≤ (k7 : Int) - 1))) 0 0 (fun _ => False) := by
  refine Met.ofW (cc := cX8_isInk) (maxL := 2) (ret := (some .boolean)) (by decide) rfl ?_
  intro p_ e_ s m args below meth c_0 s₁ B hml hv
  obtain ⟨rfl, hP, hK⟩ := hv
  have hx := B.exec
  have hb := B.bytes
  have hr := B.returns
  have hts := atoms_spec (ws := wsX8_isInk) B.pre
  have hown : s.vm.findClass RX8 = some m.cls := findClass_of_methodNamed B.named
  have hlocks := B.notSynchronized
  have hP : va_P (dC, dI) vwCl (mW cI a o f g h) s.heap := hP
  have hl := lv_entry ([.ref (a), .int (x)]) (n := 2) (Nat.le_of_ble_eq_true rfl)
  rw [lg_entry_eq]
  generalize (lg_sl ([.ref (a), .int (x)]) ++ List.replicate (2 - (lg_sl ([.ref (a), .int (x)])).length) Slot.unset).toArray = ls at hl ⊢
  have hl : lv_has ls 2 [(0, .ref (a)), (1, .int (x))] := hl
  have hin8 : ∀ w ∈ wsX80, w ∈ wsX8_isInk := fun _ h => List.mem_cons_of_mem _ (List.mem_append_right _ h)
  have hW0 := hts (.fieldLink RX8 74 "EachEyeModel" "inks" "I") (by decide +kernel)
  refine lv_iload_n hx hb dX8_isInk_0 rfl (lv_at hl 1 rfl) ?_
  refine lv_i2l hx hb dX8_isInk_1 rfl ?_
  refine lv_lconst (v := 0) hx hb dX8_isInk_2 (by decide +kernel) ?_
  refine lv_aload_n hx hb dX8_isInk_3 rfl (lv_at hl 0 rfl) ?_
  refine va_get (D := (dC, dI)) (ci := 8) (v := .int (nI (k7))) (C := RX8) (T := TX8) (N := 25) hx hb hts hin8 hown hK hP 0 rfl rfl 7 (by decide) hW0 (fun _ h9 => h9) (congrArg (fun z => some (Value.int z)) e7) dX8_isInk_4 ?_
  refine lv_iconst (v := nI (1)) hx hb dX8_isInk_7 (by decide +kernel) ?_
  refine lv_isub hx hb dX8_isInk_8 ?_
  refine tv (y := nI (k7) - nI (1)) rfl ?_
  refine lv_i2l hx hb dX8_isInk_9 rfl ?_
  refine vp_callSi (va_Run.run (va_runS (As := [.long ((x).toInt64), .long (0), .long ((nI (k7) - nI (1)).toInt64)]) (rest := []) ⟨hx, hb, hml, hown, hts⟩ (c8_in l (x) (0) ((nI (k7) - nI (1)).toInt64) (0) ((k7 : Int) - 1) rfl (dec_toInt (by omega))) (va_cwS 3 hts gX8_isInk_X8_in rfl rfl rfl (by decide +kernel) ⟨Nat.le_of_ble_eq_true rfl, Nat.le_of_ble_eq_true rfl⟩) ⟨fun _ _ _ _ q => q, fun U hU hW => ⟨rfl, trivial⟩⟩ rfl rfl hl.1 rfl (lv_room (Nat.le_of_ble_eq_true rfl)) dX8_isInk_10 ⟨Nat.le_of_ble_eq_true rfl, Nat.le_of_ble_eq_true rfl⟩)) (fun r hrc => ?_)
  have hrc : r = b2i ((0) ≤ (x).toInt ∧ (x).toInt ≤ ((k7 : Int) - 1)) := hrc
  subst hrc
  exact W.zret (ty := .boolean) (v := b2i ((0) ≤ (x).toInt ∧ (x).toInt ≤ ((k7 : Int) - 1))) hx hb hr nar_b2i (fun t ht hW => ⟨b2i ((0) ≤ (x).toInt ∧ (x).toInt ≤ ((k7 : Int) - 1)), rfl, (by show b2i ((0) ≤ (x).toInt ∧ (x).toInt ≤ ((k7 : Int) - 1)) = b2i (0 ≤ x.toInt ∧ x.toInt ≤ (k7 : Int) - 1); rfl), ht⟩) (fun _ h => by cases h) dX8_isInk_13

set_option maxHeartbeats 1200000 in
set_option maxRecDepth 100000 in
theorem c8_seesOf (l : Launch) (dC : Nat → ClassId) (dI : Nat → Nat → Nat) (cI : ClassId) (a : Nat) (o : Nat → Nat) (f : Nat → Int32) (g : Nat → Nat → Int32) (h : Int64) (x : Int32) (p : Nat) (hp : p < 4) : Met l yX8_seesOf wsX8_seesOf ({ frames := 1, cells := 0, slots := 0, locals := 25 } : Room) (va_Pc [.ref (a), .int (nI (p)), .int (x)] (fun U => va_P (dC, dI) vwCl (mW cI a o f g h) U.heap ∧ va_K (dC, dI) vwCl [(cI, .int)] U)) (vp_Si (fun r => r = mS g p x)) 0 0 (fun _ => False) := by
  refine Met.ofW (cc := cX8_seesOf) (maxL := 3) (ret := (some .int)) (by decide) rfl ?_
  intro p_ e_ s m args below meth c_0 s₁ B hml hv
  obtain ⟨rfl, hP, hK⟩ := hv
  have hx := B.exec
  have hb := B.bytes
  have hr := B.returns
  have hts := atoms_spec (ws := wsX8_seesOf) B.pre
  have hown : s.vm.findClass RX8 = some m.cls := findClass_of_methodNamed B.named
  have hlocks := B.notSynchronized
  have hP : va_P (dC, dI) vwCl (mW cI a o f g h) s.heap := hP
  have hl := lv_entry ([.ref (a), .int (nI (p)), .int (x)]) (n := 3) (Nat.le_of_ble_eq_true rfl)
  rw [lg_entry_eq]
  generalize (lg_sl ([.ref (a), .int (nI (p)), .int (x)]) ++ List.replicate (3 - (lg_sl ([.ref (a), .int (nI (p)), .int (x)])).length) Slot.unset).toArray = ls at hl ⊢
  have hl : lv_has ls 3 [(0, .ref (a)), (1, .int (nI (p))), (2, .int (x))] := hl
  have hin8 : ∀ w ∈ wsX80, w ∈ wsX8_seesOf := fun _ h => List.mem_cons_of_mem _ (List.mem_append_right _ h)
  have hW0 := hts (.fieldLink RX8 16 "EachEyeModel" "rows" "[I") (by decide +kernel)
  refine lv_aload_n hx hb dX8_seesOf_0 rfl (lv_at hl 0 rfl) ?_
  refine va_get (D := (dC, dI)) (ci := 8) (v := .ref (o 8)) (C := RX8) (T := TX8) (N := 25) hx hb hts hin8 hown hK hP 0 rfl rfl 8 (by decide) hW0 (fun _ h9 => h9) rfl dX8_seesOf_1 ?_
  refine lv_bipush (v := nI (10)) hx hb dX8_seesOf_4 (by decide +kernel) ?_
  refine lv_iload_n hx hb dX8_seesOf_6 rfl (lv_at hl 1 rfl) ?_
  refine lv_imul hx hb dX8_seesOf_7 ?_
  refine tv (pk_mul (10) (p)) ?_
  refine ald hx hb hK hP (f := g 8) (k := 10 * (p)) 3 0 rfl rfl rfl (by omega) (by decide) dX8_seesOf_8 ?_
  refine lv_aload_n hx hb dX8_seesOf_9 rfl (lv_at hl 0 rfl) ?_
  refine va_get (D := (dC, dI)) (ci := 8) (v := .ref (o 8)) (C := RX8) (T := TX8) (N := 25) hx hb hts hin8 hown hK hP 0 rfl rfl 8 (by decide) hW0 (fun _ h9 => h9) rfl dX8_seesOf_10 ?_
  refine lv_bipush (v := nI (10)) hx hb dX8_seesOf_13 (by decide +kernel) ?_
  refine lv_iload_n hx hb dX8_seesOf_15 rfl (lv_at hl 1 rfl) ?_
  refine lv_imul hx hb dX8_seesOf_16 ?_
  refine tv (pk_mul (10) (p)) ?_
  refine lv_iconst (v := nI (1)) hx hb dX8_seesOf_17 (by decide +kernel) ?_
  refine lv_iadd hx hb dX8_seesOf_18 ?_
  refine tv (nI_add (10 * (p)) (1)) ?_
  refine ald hx hb hK hP (f := g 8) (k := 10 * (p) + 1) 3 0 rfl rfl rfl (by omega) (by decide) dX8_seesOf_19 ?_
  refine lv_aload_n hx hb dX8_seesOf_20 rfl (lv_at hl 0 rfl) ?_
  refine va_get (D := (dC, dI)) (ci := 8) (v := .ref (o 8)) (C := RX8) (T := TX8) (N := 25) hx hb hts hin8 hown hK hP 0 rfl rfl 8 (by decide) hW0 (fun _ h9 => h9) rfl dX8_seesOf_21 ?_
  refine lv_bipush (v := nI (10)) hx hb dX8_seesOf_24 (by decide +kernel) ?_
  refine lv_iload_n hx hb dX8_seesOf_26 rfl (lv_at hl 1 rfl) ?_
  refine lv_imul hx hb dX8_seesOf_27 ?_
  refine tv (pk_mul (10) (p)) ?_
  refine lv_iconst (v := nI (2)) hx hb dX8_seesOf_28 (by decide +kernel) ?_
  refine lv_iadd hx hb dX8_seesOf_29 ?_
  refine tv (nI_add (10 * (p)) (2)) ?_
  refine ald hx hb hK hP (f := g 8) (k := 10 * (p) + 2) 3 0 rfl rfl rfl (by omega) (by decide) dX8_seesOf_30 ?_
  refine lv_iload_n hx hb dX8_seesOf_31 rfl (lv_at hl 2 rfl) ?_
  refine vp_callSi (va_Run.run (va_runS (As := [.int (g 8 (10 * (p))), .int (g 8 (10 * (p) + 1)), .int (g 8 (10 * (p) + 2)), .int (x)]) (rest := []) ⟨hx, hb, hml, hown, hts⟩ (c8_seenBy l (g 8 (10 * (p))) (g 8 (10 * (p) + 1)) (g 8 (10 * (p) + 2)) (x)) (va_cwS 4 hts gX8_seesOf_X8_seenBy rfl rfl rfl (by decide +kernel) ⟨Nat.le_of_ble_eq_true rfl, Nat.le_of_ble_eq_true rfl⟩) ⟨fun _ _ _ _ q => q, fun U hU hW => ⟨rfl, trivial⟩⟩ rfl rfl hl.1 rfl (lv_room (Nat.le_of_ble_eq_true rfl)) dX8_seesOf_32 ⟨Nat.le_of_ble_eq_true rfl, Nat.le_of_ble_eq_true rfl⟩)) (fun r hrc => ?_)
  have hrc : r = see (g 8 (10 * (p))) (g 8 (10 * (p) + 1)) (g 8 (10 * (p) + 2)) (x) := hrc
  subst hrc
  exact W.iret (v := see (g 8 (10 * (p))) (g 8 (10 * (p) + 1)) (g 8 (10 * (p) + 2)) (x)) hx hb hr (fun t ht hW => ⟨see (g 8 (10 * (p))) (g 8 (10 * (p) + 1)) (g 8 (10 * (p) + 2)) (x), rfl, (by show see (g 8 (10 * (p))) (g 8 (10 * (p) + 1)) (g 8 (10 * (p) + 2)) (x) = mS g p x; rfl), ht⟩) (fun _ h => by cases h) dX8_seesOf_35

set_option maxHeartbeats 1200000 in
set_option maxRecDepth 100000 in
theorem c8_asTheyAre (l : Launch) (dC : Nat → ClassId) (dI : Nat → Nat → Nat) (cI : ClassId) (a : Nat) (o : Nat → Nat) (f : Nat → Int32) (g : Nat → Nat → Int32) (h : Int64) (p : Nat) (hp : p < 4) : Met l yX8_asTheyAre wsX8_asTheyAre ({ frames := 2, cells := 0, slots := 0, locals := 47 } : Room) (va_Pc [.ref (a), .int (nI (p))] (fun U => va_P (dC, dI) vwCl (mW cI a o f g h) U.heap ∧ va_K (dC, dI) vwCl [(cI, .int)] U)) (vp_Si (fun r => r = mTrue g p)) 0 0 (fun _ => False) := by
  refine Met.ofW (cc := cX8_asTheyAre) (maxL := 4) (ret := (some .int)) (by decide) rfl ?_
  intro p_ e_ s m args below meth c_0 s₁ B hml hv
  obtain ⟨rfl, hP, hK⟩ := hv
  have hx := B.exec
  have hb := B.bytes
  have hr := B.returns
  have hts := atoms_spec (ws := wsX8_asTheyAre) B.pre
  have hown : s.vm.findClass RX8 = some m.cls := findClass_of_methodNamed B.named
  have hlocks := B.notSynchronized
  have hP : va_P (dC, dI) vwCl (mW cI a o f g h) s.heap := hP
  have hl := lv_entry ([.ref (a), .int (nI (p))]) (n := 4) (Nat.le_of_ble_eq_true rfl)
  rw [lg_entry_eq]
  generalize (lg_sl ([.ref (a), .int (nI (p))]) ++ List.replicate (4 - (lg_sl ([.ref (a), .int (nI (p))])).length) Slot.unset).toArray = ls at hl ⊢
  have hl : lv_has ls 4 [(0, .ref (a)), (1, .int (nI (p)))] := hl
  refine lv_iconst (v := nI (0)) hx hb dX8_asTheyAre_0 (by decide +kernel) ?_
  refine lv_istore_n (lv' := [(2, .int (nI (0))), (0, .ref (a)), (1, .int (nI (p)))]) hx hb dX8_asTheyAre_1 rfl hl (by decide) rfl (fun ls hl => ?_)
  refine lv_iconst (v := nI (0)) hx hb dX8_asTheyAre_2 (by decide +kernel) ?_
  refine lv_istore_n (lv' := [(3, .int (nI (0))), (2, .int (nI (0))), (0, .ref (a)), (1, .int (nI (p)))]) hx hb dX8_asTheyAre_3 rfl hl (by decide) rfl (fun ls hl => ?_)
  have e0_2 : (nI (0)) = sm (fun j => if mS g p (nI j) = nI j then 1 else 0) 0 := rfl
  refine lp_ro (fun k : Nat => 8 - k) (fun k : Nat => k ≤ 8) (fun k : Nat => [(0, .ref (a)), (1, .int (nI (p))), (2, .int (sm (fun j => if mS g p (nI j) = nI j then 1 else 0) k)), (3, .int (nI (k)))]) (0) (by omega) (by show lv_has ls 4 [(0, .ref (a)), (1, .int (nI (p))), (2, .int (sm (fun j => if mS g p (nI j) = nI j then 1 else 0) 0)), (3, .int (nI (0)))]; rw [← e0_2]; exact lv_sub hl [2, 3, 1, 0] rfl) (fun k hI ih_4 ls hl => ?_)
  have hI : k ≤ 8 := hI
  have hl : lv_has ls 4 [(0, .ref (a)), (1, .int (nI (p))), (2, .int (sm (fun j => if mS g p (nI j) = nI j then 1 else 0) k)), (3, .int (nI (k)))] := hl
  refine lv_iload_n hx hb dX8_asTheyAre_4 rfl (lv_at hl 3 rfl) ?_
  refine lv_bipush (v := nI (8)) hx hb dX8_asTheyAre_5 (by decide +kernel) ?_
  refine lv_icmp_ge (tgt := 34) hx hb dX8_asTheyAre_7 (by decide) (fun c_1 => ?_) (fun c_1 => ?_)
  · skip
    rw [nI_leI (a := 8) (b := k) (by omega) (by omega)] at c_1
    have hE : 8 = k := by omega
    subst hE
    refine lv_iload_n hx hb dX8_asTheyAre_34 rfl (lv_at hl 2 rfl) ?_
    exact W.iret (v := sm (fun j => if mS g p (nI j) = nI j then 1 else 0) 8) hx hb hr (fun t ht hW => ⟨sm (fun j => if mS g p (nI j) = nI j then 1 else 0) 8, rfl, (by show sm (fun j => if mS g p (nI j) = nI j then 1 else 0) 8 = mTrue g p; rfl), ht⟩) (fun _ h => by cases h) dX8_asTheyAre_35
  · skip
    rw [nI_leI (a := 8) (b := k) (by omega) (by omega)] at c_1
    refine lv_iload_n hx hb dX8_asTheyAre_10 rfl (lv_at hl 2 rfl) ?_
    refine lv_aload_n hx hb dX8_asTheyAre_11 rfl (lv_at hl 0 rfl) ?_
    refine lv_iload_n hx hb dX8_asTheyAre_12 rfl (lv_at hl 1 rfl) ?_
    refine lv_iload_n hx hb dX8_asTheyAre_13 rfl (lv_at hl 3 rfl) ?_
    refine vp_callSi (va_Run.run (va_runV (As := [.int (nI (p)), .int (nI (k))]) (rest := [.int (sm (fun j => if mS g p (nI j) = nI j then 1 else 0) k)]) ⟨hx, hb, hml, hown, hts⟩ (c8_seesOf l dC dI cI a o (f) (g) (h)  (nI (k)) (p) (by omega)) (cwV 2 hts gX8_asTheyAre_X8_seesOf rfl rfl rfl (by decide +kernel) ⟨Nat.le_of_ble_eq_true rfl, Nat.le_of_ble_eq_true rfl⟩) ⟨fun a U g mk q => ⟨q.1, q.2.1, va_K.moved (u := U) (U := U.calling g mk a) (Vm.Alike.refl U.vm) q.2.2⟩, va_recv hK hP (ci := 8) (q0 := 0) rfl rfl, fun U hU hW => ⟨rfl, by rw [hU]; exact hP, va_K.moved hW.alike hK⟩⟩ rfl rfl hl.1 rfl (lv_room (Nat.le_of_ble_eq_true rfl)) dX8_asTheyAre_14 ⟨Nat.le_of_ble_eq_true rfl, Nat.le_of_ble_eq_true rfl⟩)) (fun r hrc => ?_)
    have hrc : r = mS (g) (p) (nI (k)) := hrc
    subst hrc
    refine lv_iload_n hx hb dX8_asTheyAre_17 rfl (lv_at hl 3 rfl) ?_
    refine lv_icmp_ne (tgt := 25) hx hb dX8_asTheyAre_18 (by decide) (fun c_2 => ?_) (fun c_2 => ?_)
    · skip
      refine lv_iconst (v := nI (0)) hx hb dX8_asTheyAre_25 (by decide +kernel) ?_
      refine lv_iadd hx hb dX8_asTheyAre_26 ?_
      refine lv_istore_n (lv' := [(2, .int ((sm (fun j => if mS g p (nI j) = nI j then 1 else 0) k) + (nI (0)))), (0, .ref (a)), (1, .int (nI (p))), (3, .int (nI (k)))]) hx hb dX8_asTheyAre_27 rfl hl (by decide) rfl (fun ls hl => ?_)
      refine lv_iinc (v := nI (k + 1)) (lv' := [(3, .int (nI (k + 1))), (2, .int ((sm (fun j => if mS g p (nI j) = nI j then 1 else 0) k) + (nI (0)))), (0, .ref (a)), (1, .int (nI (p)))]) hx hb dX8_asTheyAre_28 hl (k := 3) rfl (nI_1 _) (by decide) rfl (fun ls hl => ?_)
      refine lv_goto (tgt := 4) hx hb dX8_asTheyAre_31 (by decide) ?_
      have e1_2 : ((sm (fun j => if mS g p (nI j) = nI j then 1 else 0) k) + (nI (0))) = sm (fun j => if mS g p (nI j) = nI j then 1 else 0) (k + 1) := by first | rfl | (simp only [sm, alB, if_neg c_1, if_neg c_2]; done) | (simp only [sm, alB, if_neg c_1, if_neg c_2]; rfl) | (simp [sm, alB, if_neg c_1, if_neg c_2]; done)
      exact ih_4 (k + 1) ls (by show _ < _; omega) (by show _; omega) (by show lv_has ls 4 [(0, .ref (a)), (1, .int (nI (p))), (2, .int (sm (fun j => if mS g p (nI j) = nI j then 1 else 0) (k + 1))), (3, .int (nI ((k + 1))))]; rw [← e1_2]; exact lv_sub hl [2, 3, 1, 0] rfl)
    · skip
      refine lv_iconst (v := nI (1)) hx hb dX8_asTheyAre_21 (by decide +kernel) ?_
      refine lv_goto (tgt := 26) hx hb dX8_asTheyAre_22 (by decide) ?_
      refine lv_iadd hx hb dX8_asTheyAre_26 ?_
      refine lv_istore_n (lv' := [(2, .int ((sm (fun j => if mS g p (nI j) = nI j then 1 else 0) k) + (nI (1)))), (0, .ref (a)), (1, .int (nI (p))), (3, .int (nI (k)))]) hx hb dX8_asTheyAre_27 rfl hl (by decide) rfl (fun ls hl => ?_)
      refine lv_iinc (v := nI (k + 1)) (lv' := [(3, .int (nI (k + 1))), (2, .int ((sm (fun j => if mS g p (nI j) = nI j then 1 else 0) k) + (nI (1)))), (0, .ref (a)), (1, .int (nI (p)))]) hx hb dX8_asTheyAre_28 hl (k := 3) rfl (nI_1 _) (by decide) rfl (fun ls hl => ?_)
      refine lv_goto (tgt := 4) hx hb dX8_asTheyAre_31 (by decide) ?_
      have e1_2 : ((sm (fun j => if mS g p (nI j) = nI j then 1 else 0) k) + (nI (1))) = sm (fun j => if mS g p (nI j) = nI j then 1 else 0) (k + 1) := by first | rfl | (simp only [sm, alB, if_neg c_1, if_pos c_2]; done) | (simp only [sm, alB, if_neg c_1, if_pos c_2]; rfl) | (simp [sm, alB, if_neg c_1, if_pos c_2]; done)
      exact ih_4 (k + 1) ls (by show _ < _; omega) (by show _; omega) (by show lv_has ls 4 [(0, .ref (a)), (1, .int (nI (p))), (2, .int (sm (fun j => if mS g p (nI j) = nI j then 1 else 0) (k + 1))), (3, .int (nI ((k + 1))))]; rw [← e1_2]; exact lv_sub hl [2, 3, 1, 0] rfl)

set_option maxHeartbeats 1200000 in
set_option maxRecDepth 100000 in
theorem c8_tell (l : Launch) (dC : Nat → ClassId) (dI : Nat → Nat → Nat) (cI : ClassId) (a : Nat) (o : Nat → Nat) (f : Nat → Int32) (g : Nat → Nat → Int32) (h : Int64) (x : Int32) (p : Nat) (hp : p < 4) : Met l yX8_tell wsX8_tell ({ frames := 3, cells := 0, slots := 0, locals := 70 } : Room) (va_Pc [.ref (a), .int (nI (p)), .int (x)] (fun U => va_P (dC, dI) vwCl (mW cI a o f g h) U.heap ∧ va_K (dC, dI) vwCl [(cI, .int)] U)) (vp_Si (fun r => r = mTell g p x)) 0 0 (fun _ => False) := by
  refine Met.ofW (cc := cX8_tell) (maxL := 3) (ret := (some .int)) (by decide) rfl ?_
  intro p_ e_ s m args below meth c_0 s₁ B hml hv
  obtain ⟨rfl, hP, hK⟩ := hv
  have hx := B.exec
  have hb := B.bytes
  have hr := B.returns
  have hts := atoms_spec (ws := wsX8_tell) B.pre
  have hown : s.vm.findClass RX8 = some m.cls := findClass_of_methodNamed B.named
  have hlocks := B.notSynchronized
  have hP : va_P (dC, dI) vwCl (mW cI a o f g h) s.heap := hP
  have hl := lv_entry ([.ref (a), .int (nI (p)), .int (x)]) (n := 3) (Nat.le_of_ble_eq_true rfl)
  rw [lg_entry_eq]
  generalize (lg_sl ([.ref (a), .int (nI (p)), .int (x)]) ++ List.replicate (3 - (lg_sl ([.ref (a), .int (nI (p)), .int (x)])).length) Slot.unset).toArray = ls at hl ⊢
  have hl : lv_has ls 3 [(0, .ref (a)), (1, .int (nI (p))), (2, .int (x))] := hl
  have hin8 : ∀ w ∈ wsX80, w ∈ wsX8_tell := fun _ h => List.mem_cons_of_mem _ (List.mem_append_right _ h)
  have hW0 := hts (.constantLong RX8 110 (2)) (by decide +kernel)
  have hW1 := hts (.constantLong RX8 112 (10)) (by decide +kernel)
  have hW2 := hts (.constantLong RX8 114 (15)) (by decide +kernel)
  have hW3 := hts (.constantLong RX8 116 (20)) (by decide +kernel)
  have hW4 := hts (.constantLong RX8 118 (25)) (by decide +kernel)
  have hW5 := hts (.fieldLink RX8 16 "EachEyeModel" "rows" "[I") (by decide +kernel)
  have hW6 := hts (.fieldLink RX8 13 "EachEyeModel" "hues" "[I") (by decide +kernel)
  refine lv_iload_n hx hb dX8_tell_0 rfl (lv_at hl 2 rfl) ?_
  refine lv_i2l hx hb dX8_tell_1 rfl ?_
  refine lv_lconst (v := 0) hx hb dX8_tell_2 (by decide +kernel) ?_
  refine lv_ldc2 (v := 2) hx hb hown hW0 dX8_tell_3 ?_
  refine vp_callSi (va_Run.run (va_runS (As := [.long ((x).toInt64), .long (0), .long (2)]) (rest := []) ⟨hx, hb, hml, hown, hts⟩ (c8_in l (x) (0) (2) (0) (2) rfl rfl) (va_cwS 3 hts gX8_tell_X8_in rfl rfl rfl (by decide +kernel) ⟨Nat.le_of_ble_eq_true rfl, Nat.le_of_ble_eq_true rfl⟩) ⟨fun _ _ _ _ q => q, fun U hU hW => ⟨rfl, trivial⟩⟩ rfl rfl hl.1 rfl (lv_room (Nat.le_of_ble_eq_true rfl)) dX8_tell_6 ⟨Nat.le_of_ble_eq_true rfl, Nat.le_of_ble_eq_true rfl⟩)) (fun r hrc => ?_)
  have hrc : r = b2i ((0) ≤ (x).toInt ∧ (x).toInt ≤ (2)) := hrc
  subst hrc
  refine lv_if_eq (tgt := 24) hx hb dX8_tell_9 (by decide) (fun c_1 => ?_) (fun c_1 => ?_)
  · skip
    have c_1 := b2i_0 c_1
    refine lv_iload_n hx hb dX8_tell_24 rfl (lv_at hl 2 rfl) ?_
    refine lv_i2l hx hb dX8_tell_25 rfl ?_
    refine lv_ldc2 (v := 10) hx hb hown hW1 dX8_tell_26 ?_
    refine lv_ldc2 (v := 15) hx hb hown hW2 dX8_tell_29 ?_
    refine vp_callSi (va_Run.run (va_runS (As := [.long ((x).toInt64), .long (10), .long (15)]) (rest := []) ⟨hx, hb, hml, hown, hts⟩ (c8_in l (x) (10) (15) (10) (15) rfl rfl) (va_cwS 3 hts gX8_tell_X8_in rfl rfl rfl (by decide +kernel) ⟨Nat.le_of_ble_eq_true rfl, Nat.le_of_ble_eq_true rfl⟩) ⟨fun _ _ _ _ q => q, fun U hU hW => ⟨rfl, trivial⟩⟩ rfl rfl hl.1 rfl (lv_room (Nat.le_of_ble_eq_true rfl)) dX8_tell_32 ⟨Nat.le_of_ble_eq_true rfl, Nat.le_of_ble_eq_true rfl⟩)) (fun r hrc => ?_)
    have hrc : r = b2i ((10) ≤ (x).toInt ∧ (x).toInt ≤ (15)) := hrc
    subst hrc
    refine lv_if_eq (tgt := 53) hx hb dX8_tell_35 (by decide) (fun c_2 => ?_) (fun c_2 => ?_)
    · skip
      have c_2 := b2i_0 c_2
      refine lv_iload_n hx hb dX8_tell_53 rfl (lv_at hl 2 rfl) ?_
      refine lv_i2l hx hb dX8_tell_54 rfl ?_
      refine lv_ldc2 (v := 20) hx hb hown hW3 dX8_tell_55 ?_
      refine lv_ldc2 (v := 25) hx hb hown hW4 dX8_tell_58 ?_
      refine vp_callSi (va_Run.run (va_runS (As := [.long ((x).toInt64), .long (20), .long (25)]) (rest := []) ⟨hx, hb, hml, hown, hts⟩ (c8_in l (x) (20) (25) (20) (25) rfl rfl) (va_cwS 3 hts gX8_tell_X8_in rfl rfl rfl (by decide +kernel) ⟨Nat.le_of_ble_eq_true rfl, Nat.le_of_ble_eq_true rfl⟩) ⟨fun _ _ _ _ q => q, fun U hU hW => ⟨rfl, trivial⟩⟩ rfl rfl hl.1 rfl (lv_room (Nat.le_of_ble_eq_true rfl)) dX8_tell_61 ⟨Nat.le_of_ble_eq_true rfl, Nat.le_of_ble_eq_true rfl⟩)) (fun r hrc => ?_)
      have hrc : r = b2i ((20) ≤ (x).toInt ∧ (x).toInt ≤ (25)) := hrc
      subst hrc
      refine lv_if_eq (tgt := 101) hx hb dX8_tell_64 (by decide) (fun c_3 => ?_) (fun c_3 => ?_)
      · skip
        have c_3 := b2i_0 c_3
        refine lv_iload_n hx hb dX8_tell_101 rfl (lv_at hl 2 rfl) ?_
        refine lv_iconst (v := nI (3)) hx hb dX8_tell_102 (by decide +kernel) ?_
        refine lv_icmp_ne (tgt := 114) hx hb dX8_tell_103 (by decide) (fun c_4 => ?_) (fun c_4 => ?_)
        · skip
          refine lv_bipush (v := (-102)) hx hb dX8_tell_114 (by decide +kernel) ?_
          exact W.iret (v := (-102)) hx hb hr (fun t ht hW => ⟨(-102), rfl, (by show (-102) = mTell g p x; first | (simp only [mTell, if_neg c_1, if_neg c_2, if_neg c_3, if_neg c_4]; done) | (simp only [mTell, if_neg c_1, if_neg c_2, if_neg c_3, if_neg c_4]; rfl) | rfl | (simp [mTell, if_neg c_1, if_neg c_2, if_neg c_3, if_neg c_4]; done)), ht⟩) (fun _ h => by cases h) dX8_tell_116
        · skip
          refine lv_aload_n hx hb dX8_tell_106 rfl (lv_at hl 0 rfl) ?_
          refine lv_iload_n hx hb dX8_tell_107 rfl (lv_at hl 1 rfl) ?_
          refine vp_callSi (va_Run.run (va_runV (As := [.int (nI (p))]) (rest := []) ⟨hx, hb, hml, hown, hts⟩ (c8_asTheyAre l dC dI cI a o (f) (g) (h)   (p) (by omega)) (cwV 1 hts gX8_tell_X8_asTheyAre rfl rfl rfl (by decide +kernel) ⟨Nat.le_of_ble_eq_true rfl, Nat.le_of_ble_eq_true rfl⟩) ⟨fun a U g mk q => ⟨q.1, q.2.1, va_K.moved (u := U) (U := U.calling g mk a) (Vm.Alike.refl U.vm) q.2.2⟩, va_recv hK hP (ci := 8) (q0 := 0) rfl rfl, fun U hU hW => ⟨rfl, by rw [hU]; exact hP, va_K.moved hW.alike hK⟩⟩ rfl rfl hl.1 rfl (lv_room (Nat.le_of_ble_eq_true rfl)) dX8_tell_108 ⟨Nat.le_of_ble_eq_true rfl, Nat.le_of_ble_eq_true rfl⟩)) (fun r hrc => ?_)
          have hrc : r = mTrue (g) (p) := hrc
          subst hrc
          refine lv_goto (tgt := 116) hx hb dX8_tell_111 (by decide) ?_
          exact W.iret (v := mTrue (g) (p)) hx hb hr (fun t ht hW => ⟨mTrue (g) (p), rfl, (by show mTrue (g) (p) = mTell g p x; first | (simp only [mTell, if_neg c_1, if_neg c_2, if_neg c_3, if_pos c_4]; done) | (simp only [mTell, if_neg c_1, if_neg c_2, if_neg c_3, if_pos c_4]; rfl) | rfl | (simp [mTell, if_neg c_1, if_neg c_2, if_neg c_3, if_pos c_4]; done)), ht⟩) (fun _ h => by cases h) dX8_tell_116
      · skip
        have c_3 := b2i_1 c_3
        refine lv_aload_n hx hb dX8_tell_67 rfl (lv_at hl 0 rfl) ?_
        refine va_get (D := (dC, dI)) (ci := 8) (v := .ref (o 8)) (C := RX8) (T := TX8) (N := 25) hx hb hts hin8 hown hK hP 0 rfl rfl 8 (by decide) hW5 (fun _ h9 => h9) rfl dX8_tell_68 ?_
        refine lv_bipush (v := nI (10)) hx hb dX8_tell_71 (by decide +kernel) ?_
        refine lv_iload_n hx hb dX8_tell_73 rfl (lv_at hl 1 rfl) ?_
        refine lv_imul hx hb dX8_tell_74 ?_
        refine tv (pk_mul (10) (p)) ?_
        refine lv_iconst (v := nI (3)) hx hb dX8_tell_75 (by decide +kernel) ?_
        refine lv_iadd hx hb dX8_tell_76 ?_
        refine tv (nI_add (10 * (p)) (3)) ?_
        refine ald hx hb hK hP (f := g 8) (k := 10 * (p) + 3) 3 0 rfl rfl rfl (by omega) (by decide) dX8_tell_77 ?_
        refine lv_iconst (v := nI (1)) hx hb dX8_tell_78 (by decide +kernel) ?_
        refine lv_icmp_ne (tgt := 99) hx hb dX8_tell_79 (by decide) (fun c_5 => ?_) (fun c_5 => ?_)
        · skip
          refine lv_iconst (v := (-1)) hx hb dX8_tell_99 (by decide +kernel) ?_
          exact W.iret (v := (-1)) hx hb hr (fun t ht hW => ⟨(-1), rfl, (by show (-1) = mTell g p x; first | (simp only [mTell, if_neg c_1, if_neg c_2, if_pos c_3, if_neg c_5]; done) | (simp only [mTell, if_neg c_1, if_neg c_2, if_pos c_3, if_neg c_5]; rfl) | rfl | (simp [mTell, if_neg c_1, if_neg c_2, if_pos c_3, if_neg c_5]; done)), ht⟩) (fun _ h => by cases h) dX8_tell_100
        · skip
          refine lv_aload_n hx hb dX8_tell_82 rfl (lv_at hl 0 rfl) ?_
          refine va_get (D := (dC, dI)) (ci := 8) (v := .ref (o 8)) (C := RX8) (T := TX8) (N := 25) hx hb hts hin8 hown hK hP 0 rfl rfl 8 (by decide) hW5 (fun _ h9 => h9) rfl dX8_tell_83 ?_
          refine lv_bipush (v := nI (10)) hx hb dX8_tell_86 (by decide +kernel) ?_
          refine lv_iload_n hx hb dX8_tell_88 rfl (lv_at hl 1 rfl) ?_
          refine lv_imul hx hb dX8_tell_89 ?_
          refine tv (pk_mul (10) (p)) ?_
          refine lv_iload_n hx hb dX8_tell_90 rfl (lv_at hl 2 rfl) ?_
          refine tv (ix_int (by omega)) ?_
          refine lv_iadd hx hb dX8_tell_91 ?_
          refine tv (nI_add (10 * (p)) (x.toInt.toNat)) ?_
          refine lv_bipush (v := nI (16)) hx hb dX8_tell_92 (by decide +kernel) ?_
          refine lv_isub hx hb dX8_tell_94 ?_
          refine tv (pk_sub (a := 10 * (p) + x.toInt.toNat) (b := 16) (by omega)) ?_
          refine ald hx hb hK hP (f := g 8) (k := (10 * (p) + x.toInt.toNat) - 16) 3 0 rfl rfl rfl (by omega) (by decide) dX8_tell_95 ?_
          refine lv_goto (tgt := 100) hx hb dX8_tell_96 (by decide) ?_
          exact W.iret (v := g 8 ((10 * (p) + x.toInt.toNat) - 16)) hx hb hr (fun t ht hW => ⟨g 8 ((10 * (p) + x.toInt.toNat) - 16), rfl, (by show g 8 ((10 * (p) + x.toInt.toNat) - 16) = mTell g p x; first | (simp only [mTell, if_neg c_1, if_neg c_2, if_pos c_3, if_pos c_5]; done) | (simp only [mTell, if_neg c_1, if_neg c_2, if_pos c_3, if_pos c_5]; rfl) | rfl | (simp [mTell, if_neg c_1, if_neg c_2, if_pos c_3, if_pos c_5]; done)), ht⟩) (fun _ h => by cases h) dX8_tell_100
    · skip
      have c_2 := b2i_1 c_2
      refine lv_aload_n hx hb dX8_tell_38 rfl (lv_at hl 0 rfl) ?_
      refine lv_iload_n hx hb dX8_tell_39 rfl (lv_at hl 1 rfl) ?_
      refine lv_aload_n hx hb dX8_tell_40 rfl (lv_at hl 0 rfl) ?_
      refine va_get (D := (dC, dI)) (ci := 8) (v := .ref (o 5)) (C := RX8) (T := TX8) (N := 25) hx hb hts hin8 hown hK hP 0 rfl rfl 5 (by decide) hW6 (fun _ h9 => h9) rfl dX8_tell_41 ?_
      refine lv_iload_n hx hb dX8_tell_44 rfl (lv_at hl 2 rfl) ?_
      refine tv (ix_int (by omega)) ?_
      refine lv_bipush (v := nI (10)) hx hb dX8_tell_45 (by decide +kernel) ?_
      refine lv_isub hx hb dX8_tell_47 ?_
      refine tv (pk_sub (a := x.toInt.toNat) (b := 10) (by omega)) ?_
      refine ald hx hb hK hP (f := g 5) (k := (x.toInt.toNat) - 10) 2 0 rfl rfl rfl (by omega) (by decide) dX8_tell_48 ?_
      refine vp_callSi (va_Run.run (va_runV (As := [.int (nI (p)), .int (g 5 ((x.toInt.toNat) - 10))]) (rest := []) ⟨hx, hb, hml, hown, hts⟩ (c8_seesOf l dC dI cI a o (f) (g) (h)  (g 5 ((x.toInt.toNat) - 10)) (p) (by omega)) (cwV 2 hts gX8_tell_X8_seesOf rfl rfl rfl (by decide +kernel) ⟨Nat.le_of_ble_eq_true rfl, Nat.le_of_ble_eq_true rfl⟩) ⟨fun a U g mk q => ⟨q.1, q.2.1, va_K.moved (u := U) (U := U.calling g mk a) (Vm.Alike.refl U.vm) q.2.2⟩, va_recv hK hP (ci := 8) (q0 := 0) rfl rfl, fun U hU hW => ⟨rfl, by rw [hU]; exact hP, va_K.moved hW.alike hK⟩⟩ rfl rfl hl.1 rfl (lv_room (Nat.le_of_ble_eq_true rfl)) dX8_tell_49 ⟨Nat.le_of_ble_eq_true rfl, Nat.le_of_ble_eq_true rfl⟩)) (fun r hrc => ?_)
      have hrc : r = mS (g) (p) (g 5 ((x.toInt.toNat) - 10)) := hrc
      subst hrc
      exact W.iret (v := mS (g) (p) (g 5 ((x.toInt.toNat) - 10))) hx hb hr (fun t ht hW => ⟨mS (g) (p) (g 5 ((x.toInt.toNat) - 10)), rfl, (by show mS (g) (p) (g 5 ((x.toInt.toNat) - 10)) = mTell g p x; first | (simp only [mTell, if_neg c_1, if_pos c_2]; done) | (simp only [mTell, if_neg c_1, if_pos c_2]; rfl) | rfl | (simp [mTell, if_neg c_1, if_pos c_2]; done)), ht⟩) (fun _ h => by cases h) dX8_tell_52
  · skip
    have c_1 := b2i_1 c_1
    refine lv_aload_n hx hb dX8_tell_12 rfl (lv_at hl 0 rfl) ?_
    refine va_get (D := (dC, dI)) (ci := 8) (v := .ref (o 8)) (C := RX8) (T := TX8) (N := 25) hx hb hts hin8 hown hK hP 0 rfl rfl 8 (by decide) hW5 (fun _ h9 => h9) rfl dX8_tell_13 ?_
    refine lv_bipush (v := nI (10)) hx hb dX8_tell_16 (by decide +kernel) ?_
    refine lv_iload_n hx hb dX8_tell_18 rfl (lv_at hl 1 rfl) ?_
    refine lv_imul hx hb dX8_tell_19 ?_
    refine tv (pk_mul (10) (p)) ?_
    refine lv_iload_n hx hb dX8_tell_20 rfl (lv_at hl 2 rfl) ?_
    refine tv (ix_int (by omega)) ?_
    refine lv_iadd hx hb dX8_tell_21 ?_
    refine tv (nI_add (10 * (p)) (x.toInt.toNat)) ?_
    refine ald hx hb hK hP (f := g 8) (k := 10 * (p) + x.toInt.toNat) 3 0 rfl rfl rfl (by omega) (by decide) dX8_tell_22 ?_
    exact W.iret (v := g 8 (10 * (p) + x.toInt.toNat)) hx hb hr (fun t ht hW => ⟨g 8 (10 * (p) + x.toInt.toNat), rfl, (by show g 8 (10 * (p) + x.toInt.toNat) = mTell g p x; first | (simp only [mTell, if_pos c_1]; done) | (simp only [mTell, if_pos c_1]; rfl) | rfl | (simp [mTell, if_pos c_1]; done)), ht⟩) (fun _ h => by cases h) dX8_tell_23

set_option maxHeartbeats 1200000 in
set_option maxRecDepth 100000 in
theorem c8_about (l : Launch) (dC : Nat → ClassId) (dI : Nat → Nat → Nat) (cI : ClassId) (a : Nat) (o : Nat → Nat) (f : Nat → Int32) (g : Nat → Nat → Int32) (h : Int64) {k6 : Nat} (e6 : f 6 = nI k6) (b6 : k6 ≤ 4) (q : Int32) (x : Int32) : Met l yX8_about wsX8_about ({ frames := 4, cells := 0, slots := 0, locals := 92 } : Room) (va_Pc [.ref (a), .int (q), .int (x)] (fun U => va_P (dC, dI) vwCl (mW cI a o f g h) U.heap ∧ va_K (dC, dI) vwCl [(cI, .int)] U)) (vp_Si (fun r => r = mAbout g k6 q x)) 0 0 (fun _ => False) := by
  refine Met.ofW (cc := cX8_about) (maxL := 3) (ret := (some .int)) (by decide) rfl ?_
  intro p_ e_ s m args below meth c_0 s₁ B hml hv
  obtain ⟨rfl, hP, hK⟩ := hv
  have hx := B.exec
  have hb := B.bytes
  have hr := B.returns
  have hts := atoms_spec (ws := wsX8_about) B.pre
  have hown : s.vm.findClass RX8 = some m.cls := findClass_of_methodNamed B.named
  have hlocks := B.notSynchronized
  have hP : va_P (dC, dI) vwCl (mW cI a o f g h) s.heap := hP
  have hl := lv_entry ([.ref (a), .int (q), .int (x)]) (n := 3) (Nat.le_of_ble_eq_true rfl)
  rw [lg_entry_eq]
  generalize (lg_sl ([.ref (a), .int (q), .int (x)]) ++ List.replicate (3 - (lg_sl ([.ref (a), .int (q), .int (x)])).length) Slot.unset).toArray = ls at hl ⊢
  have hl : lv_has ls 3 [(0, .ref (a)), (1, .int (q)), (2, .int (x))] := hl
  refine lv_aload_n hx hb dX8_about_0 rfl (lv_at hl 0 rfl) ?_
  refine lv_iload_n hx hb dX8_about_1 rfl (lv_at hl 1 rfl) ?_
  refine vp_callSi (va_Run.run (va_runV (As := [.int (q)]) (rest := []) ⟨hx, hb, hml, hown, hts⟩ (c8_isPerson l dC dI cI a o (f) (g) (h) e6 (by omega) (q) ) (cwV 1 hts gX8_about_X8_isPerson rfl rfl rfl (by decide +kernel) ⟨Nat.le_of_ble_eq_true rfl, Nat.le_of_ble_eq_true rfl⟩) ⟨fun a U g mk q => ⟨q.1, q.2.1, va_K.moved (u := U) (U := U.calling g mk a) (Vm.Alike.refl U.vm) q.2.2⟩, va_recv hK hP (ci := 8) (q0 := 0) rfl rfl, fun U hU hW => ⟨rfl, by rw [hU]; exact hP, va_K.moved hW.alike hK⟩⟩ rfl rfl hl.1 rfl (lv_room (Nat.le_of_ble_eq_true rfl)) dX8_about_2 ⟨Nat.le_of_ble_eq_true rfl, Nat.le_of_ble_eq_true rfl⟩)) (fun r hrc => ?_)
  have hrc : r = b2i (0 ≤ (q).toInt ∧ (q).toInt ≤ (k6 : Int) - 1) := hrc
  subst hrc
  refine lv_if_eq (tgt := 17) hx hb dX8_about_5 (by decide) (fun c_1 => ?_) (fun c_1 => ?_)
  · skip
    have c_1 := b2i_0 c_1
    refine lv_bipush (v := (-101)) hx hb dX8_about_17 (by decide +kernel) ?_
    exact W.iret (v := (-101)) hx hb hr (fun t ht hW => ⟨(-101), rfl, (by show (-101) = mAbout g k6 q x; first | (simp only [mAbout, if_neg c_1]; done) | (simp only [mAbout, if_neg c_1]; rfl) | rfl | (simp [mAbout, if_neg c_1]; done)), ht⟩) (fun _ h => by cases h) dX8_about_19
  · skip
    have c_1 := b2i_1 c_1
    refine lv_aload_n hx hb dX8_about_8 rfl (lv_at hl 0 rfl) ?_
    refine lv_iload_n hx hb dX8_about_9 rfl (lv_at hl 1 rfl) ?_
    refine tv (ix_int (by omega)) ?_
    refine lv_iload_n hx hb dX8_about_10 rfl (lv_at hl 2 rfl) ?_
    refine vp_callSi (va_Run.run (va_runV (As := [.int (nI (q.toInt.toNat)), .int (x)]) (rest := []) ⟨hx, hb, hml, hown, hts⟩ (c8_tell l dC dI cI a o (f) (g) (h)  (x) (q.toInt.toNat) (by omega)) (cwV 2 hts gX8_about_X8_tell rfl rfl rfl (by decide +kernel) ⟨Nat.le_of_ble_eq_true rfl, Nat.le_of_ble_eq_true rfl⟩) ⟨fun a U g mk q => ⟨q.1, q.2.1, va_K.moved (u := U) (U := U.calling g mk a) (Vm.Alike.refl U.vm) q.2.2⟩, va_recv hK hP (ci := 8) (q0 := 0) rfl rfl, fun U hU hW => ⟨rfl, by rw [hU]; exact hP, va_K.moved hW.alike hK⟩⟩ rfl rfl hl.1 rfl (lv_room (Nat.le_of_ble_eq_true rfl)) dX8_about_11 ⟨Nat.le_of_ble_eq_true rfl, Nat.le_of_ble_eq_true rfl⟩)) (fun r hrc => ?_)
    have hrc : r = mTell (g) (q.toInt.toNat) (x) := hrc
    subst hrc
    refine lv_goto (tgt := 19) hx hb dX8_about_14 (by decide) ?_
    exact W.iret (v := mTell (g) (q.toInt.toNat) (x)) hx hb hr (fun t ht hW => ⟨mTell (g) (q.toInt.toNat) (x), rfl, (by show mTell (g) (q.toInt.toNat) (x) = mAbout g k6 q x; first | (simp only [mAbout, if_pos c_1]; done) | (simp only [mAbout, if_pos c_1]; rfl) | rfl | (simp [mAbout, if_pos c_1]; done)), ht⟩) (fun _ h => by cases h) dX8_about_19

set_option maxHeartbeats 1200000 in
set_option maxRecDepth 100000 in
theorem c8_as (l : Launch) (dC : Nat → ClassId) (dI : Nat → Nat → Nat) (cI : ClassId) (a : Nat) (o : Nat → Nat) (f : Nat → Int32) (g : Nat → Nat → Int32) (h : Int64) {k6 : Nat} (e6 : f 6 = nI k6) (b6 : k6 ≤ 4) (q : Int32) (x : Int32) : Met l yX8_as wsX8_as ({ frames := 2, cells := 0, slots := 0, locals := 46 } : Room) (va_Pc [.ref (a), .int (q), .int (x)] (fun U => va_P (dC, dI) vwCl (mW cI a o f g h) U.heap ∧ va_K (dC, dI) vwCl [(cI, .int)] U)) (vp_Si (fun r => r = mAs g k6 q x)) 0 0 (fun _ => False) := by
  refine Met.ofW (cc := cX8_as) (maxL := 5) (ret := (some .int)) (by decide) rfl ?_
  intro p_ e_ s m args below meth c_0 s₁ B hml hv
  obtain ⟨rfl, hP, hK⟩ := hv
  have hx := B.exec
  have hb := B.bytes
  have hr := B.returns
  have hts := atoms_spec (ws := wsX8_as) B.pre
  have hown : s.vm.findClass RX8 = some m.cls := findClass_of_methodNamed B.named
  have hlocks := B.notSynchronized
  have hP : va_P (dC, dI) vwCl (mW cI a o f g h) s.heap := hP
  have hl := lv_entry ([.ref (a), .int (q), .int (x)]) (n := 5) (Nat.le_of_ble_eq_true rfl)
  rw [lg_entry_eq]
  generalize (lg_sl ([.ref (a), .int (q), .int (x)]) ++ List.replicate (5 - (lg_sl ([.ref (a), .int (q), .int (x)])).length) Slot.unset).toArray = ls at hl ⊢
  have hl : lv_has ls 5 [(0, .ref (a)), (1, .int (q)), (2, .int (x))] := hl
  have hin8 : ∀ w ∈ wsX80, w ∈ wsX8_as := fun _ h => List.mem_cons_of_mem _ (List.mem_append_right _ h)
  have hW0 := hts (.constantLong RX8 101 (4)) (by decide +kernel)
  have hW1 := hts (.fieldLink RX8 16 "EachEyeModel" "rows" "[I") (by decide +kernel)
  refine lv_aload_n hx hb dX8_as_0 rfl (lv_at hl 0 rfl) ?_
  refine lv_iload_n hx hb dX8_as_1 rfl (lv_at hl 1 rfl) ?_
  refine vp_callSi (va_Run.run (va_runV (As := [.int (q)]) (rest := []) ⟨hx, hb, hml, hown, hts⟩ (c8_isPerson l dC dI cI a o (f) (g) (h) e6 (by omega) (q) ) (cwV 1 hts gX8_as_X8_isPerson rfl rfl rfl (by decide +kernel) ⟨Nat.le_of_ble_eq_true rfl, Nat.le_of_ble_eq_true rfl⟩) ⟨fun a U g mk q => ⟨q.1, q.2.1, va_K.moved (u := U) (U := U.calling g mk a) (Vm.Alike.refl U.vm) q.2.2⟩, va_recv hK hP (ci := 8) (q0 := 0) rfl rfl, fun U hU hW => ⟨rfl, by rw [hU]; exact hP, va_K.moved hW.alike hK⟩⟩ rfl rfl hl.1 rfl (lv_room (Nat.le_of_ble_eq_true rfl)) dX8_as_2 ⟨Nat.le_of_ble_eq_true rfl, Nat.le_of_ble_eq_true rfl⟩)) (fun r hrc => ?_)
  have hrc : r = b2i (0 ≤ (q).toInt ∧ (q).toInt ≤ (k6 : Int) - 1) := hrc
  subst hrc
  refine lv_if_ne (tgt := 11) hx hb dX8_as_5 (by decide) (fun c_1 => ?_) (fun c_1 => ?_)
  · skip
    have c_1 := b2i_1 c_1
    refine lv_iload_n hx hb dX8_as_11 rfl (lv_at hl 2 rfl) ?_
    refine lv_i2l hx hb dX8_as_12 rfl ?_
    refine lv_lconst (v := 0) hx hb dX8_as_13 (by decide +kernel) ?_
    refine lv_ldc2 (v := 4) hx hb hown hW0 dX8_as_14 ?_
    refine vp_callSi (va_Run.run (va_runS (As := [.long ((x).toInt64), .long (0), .long (4)]) (rest := []) ⟨hx, hb, hml, hown, hts⟩ (c8_in l (x) (0) (4) (0) (4) rfl rfl) (va_cwS 3 hts gX8_as_X8_in rfl rfl rfl (by decide +kernel) ⟨Nat.le_of_ble_eq_true rfl, Nat.le_of_ble_eq_true rfl⟩) ⟨fun _ _ _ _ q => q, fun U hU hW => ⟨rfl, trivial⟩⟩ rfl rfl hl.1 rfl (lv_room (Nat.le_of_ble_eq_true rfl)) dX8_as_17 ⟨Nat.le_of_ble_eq_true rfl, Nat.le_of_ble_eq_true rfl⟩)) (fun r hrc => ?_)
    have hrc : r = b2i ((0) ≤ (x).toInt ∧ (x).toInt ≤ (4)) := hrc
    subst hrc
    refine lv_if_ne (tgt := 26) hx hb dX8_as_20 (by decide) (fun c_2 => ?_) (fun c_2 => ?_)
    · skip
      have c_2 := b2i_1 c_2
      refine lv_aload_n hx hb dX8_as_26 rfl (lv_at hl 0 rfl) ?_
      refine va_get (D := (dC, dI)) (ci := 8) (v := .ref (o 8)) (C := RX8) (T := TX8) (N := 25) hx hb hts hin8 hown hK hP 0 rfl rfl 8 (by decide) hW1 (fun _ h9 => h9) rfl dX8_as_27 ?_
      refine lv_bipush (v := nI (10)) hx hb dX8_as_30 (by decide +kernel) ?_
      refine lv_iload_n hx hb dX8_as_32 rfl (lv_at hl 1 rfl) ?_
      refine tv (ix_int (by omega)) ?_
      refine lv_imul hx hb dX8_as_33 ?_
      refine tv (pk_mul (10) (q.toInt.toNat)) ?_
      refine ald hx hb hK hP (f := g 8) (k := 10 * (q.toInt.toNat)) 3 0 rfl rfl rfl (by omega) (by decide) dX8_as_34 ?_
      refine lv_istore_n (lv' := [(3, .int (g 8 (10 * (q.toInt.toNat)))), (0, .ref (a)), (1, .int (q)), (2, .int (x))]) hx hb dX8_as_35 rfl hl (by decide) rfl (fun ls hl => ?_)
      refine lv_iload_n hx hb dX8_as_36 rfl (lv_at hl 3 rfl) ?_
      refine lv_if_eq (tgt := 55) hx hb dX8_as_37 (by decide) (fun c_3 => ?_) (fun c_3 => ?_)
      · skip
        have c_3 : (x) = nI 0 := c_3
        refine lv_iconst (v := nI (1)) hx hb dX8_as_55 (by decide +kernel) ?_
        refine lv_goto (tgt := 60) hx hb dX8_as_56 (by decide) ?_
        refine lv_istore (lv' := [(4, .int (nI (1))), (3, .int (g 8 (10 * (q.toInt.toNat)))), (0, .ref (a)), (1, .int (q)), (2, .int (x))]) hx hb dX8_as_60 hl (by decide) rfl (fun ls hl => ?_)
        refine lv_iload hx hb dX8_as_62 (lv_at hl 0 rfl) ?_
        refine lv_if_eq (tgt := 71) hx hb dX8_as_64 (by decide) (fun c_4 => absurd c_4 (by decide +kernel)) (fun c_4 => ?_)
        refine lv_iload_n hx hb dX8_as_67 rfl (lv_at hl 3 rfl) ?_
        refine tv (ix_int (by omega)) ?_
        refine lv_goto (tgt := 72) hx hb dX8_as_68 (by decide) ?_
        exact W.iret (v := nI (q.toInt.toNat)) hx hb hr (fun t ht hW => ⟨nI (q.toInt.toNat), rfl, (by show nI (q.toInt.toNat) = mAs g k6 q x; first | (simp only [mAs, if_pos c_1, if_pos c_2, if_pos c_3]; done) | (simp only [mAs, if_pos c_1, if_pos c_2, if_pos c_3]; rfl) | rfl | (simp [mAs, if_pos c_1, if_pos c_2, if_pos c_3]; done)), ht⟩) (fun _ h => by cases h) dX8_as_72
      · skip
        have c_3 : ¬ (x) = nI 0 := c_3
        refine lv_iload_n hx hb dX8_as_40 rfl (lv_at hl 3 rfl) ?_
        refine lv_iload_n hx hb dX8_as_41 rfl (lv_at hl 0 rfl) ?_
        refine lv_icmp_eq (tgt := 55) hx hb dX8_as_42 (by decide) (fun c_5 => ?_) (fun c_5 => ?_)
        · skip
          refine lv_iconst (v := nI (1)) hx hb dX8_as_55 (by decide +kernel) ?_
          refine lv_goto (tgt := 60) hx hb dX8_as_56 (by decide) ?_
          refine lv_istore (lv' := [(4, .int (nI (1))), (3, .int (g 8 (10 * (q.toInt.toNat)))), (0, .ref (a)), (1, .int (q)), (2, .int (x))]) hx hb dX8_as_60 hl (by decide) rfl (fun ls hl => ?_)
          refine lv_iload hx hb dX8_as_62 (lv_at hl 0 rfl) ?_
          refine lv_if_eq (tgt := 71) hx hb dX8_as_64 (by decide) (fun c_6 => absurd c_6 (by decide +kernel)) (fun c_6 => ?_)
          refine lv_iload_n hx hb dX8_as_67 rfl (lv_at hl 3 rfl) ?_
          refine tv (ix_int (by omega)) ?_
          refine lv_goto (tgt := 72) hx hb dX8_as_68 (by decide) ?_
          exact W.iret (v := nI (q.toInt.toNat)) hx hb hr (fun t ht hW => ⟨nI (q.toInt.toNat), rfl, (by show nI (q.toInt.toNat) = mAs g k6 q x; first | (simp only [mAs, if_pos c_1, if_pos c_2, if_neg c_3, if_pos c_5]; done) | (simp only [mAs, if_pos c_1, if_pos c_2, if_neg c_3, if_pos c_5]; rfl) | rfl | (simp [mAs, if_pos c_1, if_pos c_2, if_neg c_3, if_pos c_5]; done)), ht⟩) (fun _ h => by cases h) dX8_as_72
        · skip
          refine lv_iload_n hx hb dX8_as_45 rfl (lv_at hl 3 rfl) ?_
          refine lv_iconst (v := nI (3)) hx hb dX8_as_46 (by decide +kernel) ?_
          refine lv_icmp_ne (tgt := 59) hx hb dX8_as_47 (by decide) (fun c_7 => ?_) (fun c_7 => ?_)
          · skip
            refine lv_iconst (v := nI (0)) hx hb dX8_as_59 (by decide +kernel) ?_
            refine lv_istore (lv' := [(4, .int (nI (0))), (3, .int (g 8 (10 * (q.toInt.toNat)))), (0, .ref (a)), (1, .int (q)), (2, .int (x))]) hx hb dX8_as_60 hl (by decide) rfl (fun ls hl => ?_)
            refine lv_iload hx hb dX8_as_62 (lv_at hl 0 rfl) ?_
            refine lv_if_eq (tgt := 71) hx hb dX8_as_64 (by decide) (fun c_8 => ?_) (fun c_8 => absurd c_8 (by decide +kernel))
            refine lv_iconst (v := (-1)) hx hb dX8_as_71 (by decide +kernel) ?_
            exact W.iret (v := (-1)) hx hb hr (fun t ht hW => ⟨(-1), rfl, (by show (-1) = mAs g k6 q x; first | (simp only [mAs, if_pos c_1, if_pos c_2, if_neg c_3, if_neg c_5, if_neg c_7]; done) | (simp only [mAs, if_pos c_1, if_pos c_2, if_neg c_3, if_neg c_5, if_neg c_7]; rfl) | rfl | (simp [mAs, if_pos c_1, if_pos c_2, if_neg c_3, if_neg c_5, if_neg c_7]; done)), ht⟩) (fun _ h => by cases h) dX8_as_72
          · skip
            refine lv_iload_n hx hb dX8_as_50 rfl (lv_at hl 0 rfl) ?_
            refine lv_iconst (v := nI (4)) hx hb dX8_as_51 (by decide +kernel) ?_
            refine lv_icmp_ne (tgt := 59) hx hb dX8_as_52 (by decide) (fun c_9 => ?_) (fun c_9 => ?_)
            · skip
              refine lv_iconst (v := nI (0)) hx hb dX8_as_59 (by decide +kernel) ?_
              refine lv_istore (lv' := [(4, .int (nI (0))), (3, .int (g 8 (10 * (q.toInt.toNat)))), (0, .ref (a)), (1, .int (q)), (2, .int (x))]) hx hb dX8_as_60 hl (by decide) rfl (fun ls hl => ?_)
              refine lv_iload hx hb dX8_as_62 (lv_at hl 0 rfl) ?_
              refine lv_if_eq (tgt := 71) hx hb dX8_as_64 (by decide) (fun c_10 => ?_) (fun c_10 => absurd c_10 (by decide +kernel))
              refine lv_iconst (v := (-1)) hx hb dX8_as_71 (by decide +kernel) ?_
              exact W.iret (v := (-1)) hx hb hr (fun t ht hW => ⟨(-1), rfl, (by show (-1) = mAs g k6 q x; first | (simp only [mAs, if_pos c_1, if_pos c_2, if_neg c_3, if_neg c_5, if_pos c_7, if_neg c_9]; done) | (simp only [mAs, if_pos c_1, if_pos c_2, if_neg c_3, if_neg c_5, if_pos c_7, if_neg c_9]; rfl) | rfl | (simp [mAs, if_pos c_1, if_pos c_2, if_neg c_3, if_neg c_5, if_pos c_7, if_neg c_9]; done)), ht⟩) (fun _ h => by cases h) dX8_as_72
            · skip
              refine lv_iconst (v := nI (1)) hx hb dX8_as_55 (by decide +kernel) ?_
              refine lv_goto (tgt := 60) hx hb dX8_as_56 (by decide) ?_
              refine lv_istore (lv' := [(4, .int (nI (1))), (3, .int (g 8 (10 * (q.toInt.toNat)))), (0, .ref (a)), (1, .int (q)), (2, .int (x))]) hx hb dX8_as_60 hl (by decide) rfl (fun ls hl => ?_)
              refine lv_iload hx hb dX8_as_62 (lv_at hl 0 rfl) ?_
              refine lv_if_eq (tgt := 71) hx hb dX8_as_64 (by decide) (fun c_11 => absurd c_11 (by decide +kernel)) (fun c_11 => ?_)
              refine lv_iload_n hx hb dX8_as_67 rfl (lv_at hl 3 rfl) ?_
              refine tv (ix_int (by omega)) ?_
              refine lv_goto (tgt := 72) hx hb dX8_as_68 (by decide) ?_
              exact W.iret (v := nI (q.toInt.toNat)) hx hb hr (fun t ht hW => ⟨nI (q.toInt.toNat), rfl, (by show nI (q.toInt.toNat) = mAs g k6 q x; first | (simp only [mAs, if_pos c_1, if_pos c_2, if_neg c_3, if_neg c_5, if_pos c_7, if_pos c_9]; done) | (simp only [mAs, if_pos c_1, if_pos c_2, if_neg c_3, if_neg c_5, if_pos c_7, if_pos c_9]; rfl) | rfl | (simp [mAs, if_pos c_1, if_pos c_2, if_neg c_3, if_neg c_5, if_pos c_7, if_pos c_9]; done)), ht⟩) (fun _ h => by cases h) dX8_as_72
    · skip
      have c_2 := b2i_0 c_2
      refine lv_bipush (v := (-102)) hx hb dX8_as_23 (by decide +kernel) ?_
      exact W.iret (v := (-102)) hx hb hr (fun t ht hW => ⟨(-102), rfl, (by show (-102) = mAs g k6 q x; first | (simp only [mAs, if_pos c_1, if_neg c_2]; done) | (simp only [mAs, if_pos c_1, if_neg c_2]; rfl) | rfl | (simp [mAs, if_pos c_1, if_neg c_2]; done)), ht⟩) (fun _ h => by cases h) dX8_as_25
  · skip
    have c_1 := b2i_0 c_1
    refine lv_bipush (v := (-101)) hx hb dX8_as_8 (by decide +kernel) ?_
    exact W.iret (v := (-101)) hx hb hr (fun t ht hW => ⟨(-101), rfl, (by show (-101) = mAs g k6 q x; first | (simp only [mAs, if_neg c_1]; done) | (simp only [mAs, if_neg c_1]; rfl) | rfl | (simp [mAs, if_neg c_1]; done)), ht⟩) (fun _ h => by cases h) dX8_as_10

set_option maxHeartbeats 1200000 in
set_option maxRecDepth 100000 in
theorem c8_sees (l : Launch) (dC : Nat → ClassId) (dI : Nat → Nat → Nat) (cI : ClassId) (a : Nat) (o : Nat → Nat) (f : Nat → Int32) (g : Nat → Nat → Int32) (h : Int64) {k6 : Nat} (e6 : f 6 = nI k6) (b6 : k6 ≤ 4) (q : Int32) (x : Int32) : Met l yX8_sees wsX8_sees ({ frames := 2, cells := 0, slots := 0, locals := 47 } : Room) (va_Pc [.ref (a), .int (q), .int (x)] (fun U => va_P (dC, dI) vwCl (mW cI a o f g h) U.heap ∧ va_K (dC, dI) vwCl [(cI, .int)] U)) (vp_Si (fun r => r = mSees g k6 q x)) 0 0 (fun _ => False) := by
  refine Met.ofW (cc := cX8_sees) (maxL := 3) (ret := (some .int)) (by decide) rfl ?_
  intro p_ e_ s m args below meth c_0 s₁ B hml hv
  obtain ⟨rfl, hP, hK⟩ := hv
  have hx := B.exec
  have hb := B.bytes
  have hr := B.returns
  have hts := atoms_spec (ws := wsX8_sees) B.pre
  have hown : s.vm.findClass RX8 = some m.cls := findClass_of_methodNamed B.named
  have hlocks := B.notSynchronized
  have hP : va_P (dC, dI) vwCl (mW cI a o f g h) s.heap := hP
  have hl := lv_entry ([.ref (a), .int (q), .int (x)]) (n := 3) (Nat.le_of_ble_eq_true rfl)
  rw [lg_entry_eq]
  generalize (lg_sl ([.ref (a), .int (q), .int (x)]) ++ List.replicate (3 - (lg_sl ([.ref (a), .int (q), .int (x)])).length) Slot.unset).toArray = ls at hl ⊢
  have hl : lv_has ls 3 [(0, .ref (a)), (1, .int (q)), (2, .int (x))] := hl
  refine lv_aload_n hx hb dX8_sees_0 rfl (lv_at hl 0 rfl) ?_
  refine lv_iload_n hx hb dX8_sees_1 rfl (lv_at hl 1 rfl) ?_
  refine vp_callSi (va_Run.run (va_runV (As := [.int (q)]) (rest := []) ⟨hx, hb, hml, hown, hts⟩ (c8_isPerson l dC dI cI a o (f) (g) (h) e6 (by omega) (q) ) (cwV 1 hts gX8_sees_X8_isPerson rfl rfl rfl (by decide +kernel) ⟨Nat.le_of_ble_eq_true rfl, Nat.le_of_ble_eq_true rfl⟩) ⟨fun a U g mk q => ⟨q.1, q.2.1, va_K.moved (u := U) (U := U.calling g mk a) (Vm.Alike.refl U.vm) q.2.2⟩, va_recv hK hP (ci := 8) (q0 := 0) rfl rfl, fun U hU hW => ⟨rfl, by rw [hU]; exact hP, va_K.moved hW.alike hK⟩⟩ rfl rfl hl.1 rfl (lv_room (Nat.le_of_ble_eq_true rfl)) dX8_sees_2 ⟨Nat.le_of_ble_eq_true rfl, Nat.le_of_ble_eq_true rfl⟩)) (fun r hrc => ?_)
  have hrc : r = b2i (0 ≤ (q).toInt ∧ (q).toInt ≤ (k6 : Int) - 1) := hrc
  subst hrc
  refine lv_if_ne (tgt := 11) hx hb dX8_sees_5 (by decide) (fun c_1 => ?_) (fun c_1 => ?_)
  · skip
    have c_1 := b2i_1 c_1
    refine lv_iload_n hx hb dX8_sees_11 rfl (lv_at hl 2 rfl) ?_
    refine vp_callSi (va_Run.run (va_runS (As := [.int (x)]) (rest := []) ⟨hx, hb, hml, hown, hts⟩ (c8_isHue l (x)) (va_cwS 1 hts gX8_sees_X8_isHue rfl rfl rfl (by decide +kernel) ⟨Nat.le_of_ble_eq_true rfl, Nat.le_of_ble_eq_true rfl⟩) ⟨fun _ _ _ _ q => q, fun U hU hW => ⟨rfl, trivial⟩⟩ rfl rfl hl.1 rfl (lv_room (Nat.le_of_ble_eq_true rfl)) dX8_sees_12 ⟨Nat.le_of_ble_eq_true rfl, Nat.le_of_ble_eq_true rfl⟩)) (fun r hrc => ?_)
    have hrc : r = b2i (0 ≤ (x).toInt ∧ (x).toInt ≤ 7) := hrc
    subst hrc
    refine lv_if_eq (tgt := 27) hx hb dX8_sees_15 (by decide) (fun c_2 => ?_) (fun c_2 => ?_)
    · skip
      have c_2 := b2i_0 c_2
      refine lv_bipush (v := (-102)) hx hb dX8_sees_27 (by decide +kernel) ?_
      exact W.iret (v := (-102)) hx hb hr (fun t ht hW => ⟨(-102), rfl, (by show (-102) = mSees g k6 q x; first | (simp only [mSees, if_pos c_1, if_neg c_2]; done) | (simp only [mSees, if_pos c_1, if_neg c_2]; rfl) | rfl | (simp [mSees, if_pos c_1, if_neg c_2]; done)), ht⟩) (fun _ h => by cases h) dX8_sees_29
    · skip
      have c_2 := b2i_1 c_2
      refine lv_aload_n hx hb dX8_sees_18 rfl (lv_at hl 0 rfl) ?_
      refine lv_iload_n hx hb dX8_sees_19 rfl (lv_at hl 1 rfl) ?_
      refine tv (ix_int (by omega)) ?_
      refine lv_iload_n hx hb dX8_sees_20 rfl (lv_at hl 2 rfl) ?_
      refine vp_callSi (va_Run.run (va_runV (As := [.int (nI (q.toInt.toNat)), .int (x)]) (rest := []) ⟨hx, hb, hml, hown, hts⟩ (c8_seesOf l dC dI cI a o (f) (g) (h)  (x) (q.toInt.toNat) (by omega)) (cwV 2 hts gX8_sees_X8_seesOf rfl rfl rfl (by decide +kernel) ⟨Nat.le_of_ble_eq_true rfl, Nat.le_of_ble_eq_true rfl⟩) ⟨fun a U g mk q => ⟨q.1, q.2.1, va_K.moved (u := U) (U := U.calling g mk a) (Vm.Alike.refl U.vm) q.2.2⟩, va_recv hK hP (ci := 8) (q0 := 0) rfl rfl, fun U hU hW => ⟨rfl, by rw [hU]; exact hP, va_K.moved hW.alike hK⟩⟩ rfl rfl hl.1 rfl (lv_room (Nat.le_of_ble_eq_true rfl)) dX8_sees_21 ⟨Nat.le_of_ble_eq_true rfl, Nat.le_of_ble_eq_true rfl⟩)) (fun r hrc => ?_)
      have hrc : r = mS (g) (q.toInt.toNat) (x) := hrc
      subst hrc
      refine lv_goto (tgt := 29) hx hb dX8_sees_24 (by decide) ?_
      exact W.iret (v := mS (g) (q.toInt.toNat) (x)) hx hb hr (fun t ht hW => ⟨mS (g) (q.toInt.toNat) (x), rfl, (by show mS (g) (q.toInt.toNat) (x) = mSees g k6 q x; first | (simp only [mSees, if_pos c_1, if_pos c_2]; done) | (simp only [mSees, if_pos c_1, if_pos c_2]; rfl) | rfl | (simp [mSees, if_pos c_1, if_pos c_2]; done)), ht⟩) (fun _ h => by cases h) dX8_sees_29
  · skip
    have c_1 := b2i_0 c_1
    refine lv_bipush (v := (-101)) hx hb dX8_sees_8 (by decide +kernel) ?_
    exact W.iret (v := (-101)) hx hb hr (fun t ht hW => ⟨(-101), rfl, (by show (-101) = mSees g k6 q x; first | (simp only [mSees, if_neg c_1]; done) | (simp only [mSees, if_neg c_1]; rfl) | rfl | (simp [mSees, if_neg c_1]; done)), ht⟩) (fun _ h => by cases h) dX8_sees_10

set_option maxHeartbeats 1200000 in
set_option maxRecDepth 100000 in
theorem c8_inkOf (l : Launch) (dC : Nat → ClassId) (dI : Nat → Nat → Nat) (cI : ClassId) (a : Nat) (o : Nat → Nat) (f : Nat → Int32) (g : Nat → Nat → Int32) (h : Int64) {k7 : Nat} (e7 : f 7 = nI k7) (b7 : k7 ≤ 5) (q : Int32) : Met l yX8_inkOf wsX8_inkOf ({ frames := 2, cells := 0, slots := 0, locals := 46 } : Room) (va_Pc [.ref (a), .int (q)] (fun U => va_P (dC, dI) vwCl (mW cI a o f g h) U.heap ∧ va_K (dC, dI) vwCl [(cI, .int)] U)) (vp_Si (fun r => r = mInkOf g k7 q)) 0 0 (fun _ => False) := by
  refine Met.ofW (cc := cX8_inkOf) (maxL := 2) (ret := (some .int)) (by decide) rfl ?_
  intro p_ e_ s m args below meth c_0 s₁ B hml hv
  obtain ⟨rfl, hP, hK⟩ := hv
  have hx := B.exec
  have hb := B.bytes
  have hr := B.returns
  have hts := atoms_spec (ws := wsX8_inkOf) B.pre
  have hown : s.vm.findClass RX8 = some m.cls := findClass_of_methodNamed B.named
  have hlocks := B.notSynchronized
  have hP : va_P (dC, dI) vwCl (mW cI a o f g h) s.heap := hP
  have hl := lv_entry ([.ref (a), .int (q)]) (n := 2) (Nat.le_of_ble_eq_true rfl)
  rw [lg_entry_eq]
  generalize (lg_sl ([.ref (a), .int (q)]) ++ List.replicate (2 - (lg_sl ([.ref (a), .int (q)])).length) Slot.unset).toArray = ls at hl ⊢
  have hl : lv_has ls 2 [(0, .ref (a)), (1, .int (q))] := hl
  have hin8 : ∀ w ∈ wsX80, w ∈ wsX8_inkOf := fun _ h => List.mem_cons_of_mem _ (List.mem_append_right _ h)
  have hW0 := hts (.fieldLink RX8 19 "EachEyeModel" "inkHues" "[I") (by decide +kernel)
  refine lv_aload_n hx hb dX8_inkOf_0 rfl (lv_at hl 0 rfl) ?_
  refine lv_iload_n hx hb dX8_inkOf_1 rfl (lv_at hl 1 rfl) ?_
  refine vp_callSi (va_Run.run (va_runV (As := [.int (q)]) (rest := []) ⟨hx, hb, hml, hown, hts⟩ (c8_isInk l dC dI cI a o (f) (g) (h) e7 (by omega) (q) ) (cwV 1 hts gX8_inkOf_X8_isInk rfl rfl rfl (by decide +kernel) ⟨Nat.le_of_ble_eq_true rfl, Nat.le_of_ble_eq_true rfl⟩) ⟨fun a U g mk q => ⟨q.1, q.2.1, va_K.moved (u := U) (U := U.calling g mk a) (Vm.Alike.refl U.vm) q.2.2⟩, va_recv hK hP (ci := 8) (q0 := 0) rfl rfl, fun U hU hW => ⟨rfl, by rw [hU]; exact hP, va_K.moved hW.alike hK⟩⟩ rfl rfl hl.1 rfl (lv_room (Nat.le_of_ble_eq_true rfl)) dX8_inkOf_2 ⟨Nat.le_of_ble_eq_true rfl, Nat.le_of_ble_eq_true rfl⟩)) (fun r hrc => ?_)
  have hrc : r = b2i (0 ≤ (q).toInt ∧ (q).toInt ≤ (k7 : Int) - 1) := hrc
  subst hrc
  refine lv_if_eq (tgt := 17) hx hb dX8_inkOf_5 (by decide) (fun c_1 => ?_) (fun c_1 => ?_)
  · skip
    have c_1 := b2i_0 c_1
    refine lv_bipush (v := (-101)) hx hb dX8_inkOf_17 (by decide +kernel) ?_
    exact W.iret (v := (-101)) hx hb hr (fun t ht hW => ⟨(-101), rfl, (by show (-101) = mInkOf g k7 q; first | (simp only [mInkOf, if_neg c_1]; done) | (simp only [mInkOf, if_neg c_1]; rfl) | rfl | (simp [mInkOf, if_neg c_1]; done)), ht⟩) (fun _ h => by cases h) dX8_inkOf_19
  · skip
    have c_1 := b2i_1 c_1
    refine lv_aload_n hx hb dX8_inkOf_8 rfl (lv_at hl 0 rfl) ?_
    refine va_get (D := (dC, dI)) (ci := 8) (v := .ref (o 9)) (C := RX8) (T := TX8) (N := 25) hx hb hts hin8 hown hK hP 0 rfl rfl 9 (by decide) hW0 (fun _ h9 => h9) rfl dX8_inkOf_9 ?_
    refine lv_iload_n hx hb dX8_inkOf_12 rfl (lv_at hl 1 rfl) ?_
    refine tv (ix_int (by omega)) ?_
    refine ald hx hb hK hP (f := g 9) (k := q.toInt.toNat) 4 0 rfl rfl rfl (by omega) (by decide) dX8_inkOf_13 ?_
    refine lv_goto (tgt := 19) hx hb dX8_inkOf_14 (by decide) ?_
    exact W.iret (v := g 9 (q.toInt.toNat)) hx hb hr (fun t ht hW => ⟨g 9 (q.toInt.toNat), rfl, (by show g 9 (q.toInt.toNat) = mInkOf g k7 q; first | (simp only [mInkOf, if_pos c_1]; done) | (simp only [mInkOf, if_pos c_1]; rfl) | rfl | (simp [mInkOf, if_pos c_1]; done)), ht⟩) (fun _ h => by cases h) dX8_inkOf_19

set_option maxHeartbeats 1200000 in
set_option maxRecDepth 100000 in
theorem c8_wordMany (l : Launch) (dC : Nat → ClassId) (dI : Nat → Nat → Nat) (cI : ClassId) (a : Nat) (o : Nat → Nat) (f : Nat → Int32) (g : Nat → Nat → Int32) (h : Int64) {k6 : Nat} (e6 : f 6 = nI k6) (b6 : k6 ≤ 4) : Met l yX8_wordMany wsX8_wordMany ({ frames := 0, cells := 0, slots := 0, locals := 0 } : Room) (va_Pc [.ref (a)] (fun U => va_P (dC, dI) vwCl (mW cI a o f g h) U.heap ∧ va_K (dC, dI) vwCl [(cI, .int)] U)) (vp_Si (fun r => r = mWm g k6)) 0 0 (fun _ => False) := by
  refine Met.ofW (cc := cX8_wordMany) (maxL := 3) (ret := (some .int)) (by decide) rfl ?_
  intro p_ e_ s m args below meth c_0 s₁ B hml hv
  obtain ⟨rfl, hP, hK⟩ := hv
  have hx := B.exec
  have hb := B.bytes
  have hr := B.returns
  have hts := atoms_spec (ws := wsX8_wordMany) B.pre
  have hown : s.vm.findClass RX8 = some m.cls := findClass_of_methodNamed B.named
  have hlocks := B.notSynchronized
  have hP : va_P (dC, dI) vwCl (mW cI a o f g h) s.heap := hP
  have hl := lv_entry ([.ref (a)]) (n := 3) (Nat.le_of_ble_eq_true rfl)
  rw [lg_entry_eq]
  generalize (lg_sl ([.ref (a)]) ++ List.replicate (3 - (lg_sl ([.ref (a)])).length) Slot.unset).toArray = ls at hl ⊢
  have hl : lv_has ls 3 [(0, .ref (a))] := hl
  have hin8 : ∀ w ∈ wsX80, w ∈ wsX8_wordMany := fun _ h => List.mem_cons_of_mem _ (List.mem_append_right _ h)
  have hW0 := hts (.fieldLink RX8 71 "EachEyeModel" "people" "I") (by decide +kernel)
  have hW1 := hts (.fieldLink RX8 16 "EachEyeModel" "rows" "[I") (by decide +kernel)
  refine lv_iconst (v := nI (0)) hx hb dX8_wordMany_0 (by decide +kernel) ?_
  refine lv_istore_n (lv' := [(1, .int (nI (0))), (0, .ref (a))]) hx hb dX8_wordMany_1 rfl hl (by decide) rfl (fun ls hl => ?_)
  refine lv_iconst (v := nI (0)) hx hb dX8_wordMany_2 (by decide +kernel) ?_
  refine lv_istore_n (lv' := [(2, .int (nI (0))), (1, .int (nI (0))), (0, .ref (a))]) hx hb dX8_wordMany_3 rfl hl (by decide) rfl (fun ls hl => ?_)
  have e0_1 : (nI (0)) = sm (fun j => g 8 (10 * j + 3)) 0 := rfl
  refine lp_ro (fun k : Nat => k6 - k) (fun k : Nat => k ≤ k6) (fun k : Nat => [(0, .ref (a)), (1, .int (sm (fun j => g 8 (10 * j + 3)) k)), (2, .int (nI (k)))]) (0) (by omega) (by show lv_has ls 3 [(0, .ref (a)), (1, .int (sm (fun j => g 8 (10 * j + 3)) 0)), (2, .int (nI (0)))]; rw [← e0_1]; exact lv_sub hl [2, 1, 0] rfl) (fun k hI ih_4 ls hl => ?_)
  have hI : k ≤ k6 := hI
  have hl : lv_has ls 3 [(0, .ref (a)), (1, .int (sm (fun j => g 8 (10 * j + 3)) k)), (2, .int (nI (k)))] := hl
  refine lv_iload_n hx hb dX8_wordMany_4 rfl (lv_at hl 2 rfl) ?_
  refine lv_aload_n hx hb dX8_wordMany_5 rfl (lv_at hl 0 rfl) ?_
  refine va_get (D := (dC, dI)) (ci := 8) (v := .int (nI (k6))) (C := RX8) (T := TX8) (N := 25) hx hb hts hin8 hown hK hP 0 rfl rfl 6 (by decide) hW0 (fun _ h9 => h9) (congrArg (fun z => some (Value.int z)) e6) dX8_wordMany_6 ?_
  refine lv_icmp_ge (tgt := 32) hx hb dX8_wordMany_9 (by decide) (fun c_1 => ?_) (fun c_1 => ?_)
  · skip
    rw [nI_leI (a := k6) (b := k) (by omega) (by omega)] at c_1
    have hE : k6 = k := by omega
    subst hE
    refine lv_iload_n hx hb dX8_wordMany_32 rfl (lv_at hl 1 rfl) ?_
    exact W.iret (v := sm (fun j => g 8 (10 * j + 3)) k6) hx hb hr (fun t ht hW => ⟨sm (fun j => g 8 (10 * j + 3)) k6, rfl, (by show sm (fun j => g 8 (10 * j + 3)) k6 = mWm g k6; rfl), ht⟩) (fun _ h => by cases h) dX8_wordMany_33
  · skip
    rw [nI_leI (a := k6) (b := k) (by omega) (by omega)] at c_1
    refine lv_iload_n hx hb dX8_wordMany_12 rfl (lv_at hl 1 rfl) ?_
    refine lv_aload_n hx hb dX8_wordMany_13 rfl (lv_at hl 0 rfl) ?_
    refine va_get (D := (dC, dI)) (ci := 8) (v := .ref (o 8)) (C := RX8) (T := TX8) (N := 25) hx hb hts hin8 hown hK hP 0 rfl rfl 8 (by decide) hW1 (fun _ h9 => h9) rfl dX8_wordMany_14 ?_
    refine lv_bipush (v := nI (10)) hx hb dX8_wordMany_17 (by decide +kernel) ?_
    refine lv_iload_n hx hb dX8_wordMany_19 rfl (lv_at hl 2 rfl) ?_
    refine lv_imul hx hb dX8_wordMany_20 ?_
    refine tv (pk_mul (10) (k)) ?_
    refine lv_iconst (v := nI (3)) hx hb dX8_wordMany_21 (by decide +kernel) ?_
    refine lv_iadd hx hb dX8_wordMany_22 ?_
    refine tv (nI_add (10 * (k)) (3)) ?_
    refine ald hx hb hK hP (f := g 8) (k := 10 * (k) + 3) 3 0 rfl rfl rfl (by omega) (by decide) dX8_wordMany_23 ?_
    refine lv_iadd hx hb dX8_wordMany_24 ?_
    refine lv_istore_n (lv' := [(1, .int ((sm (fun j => g 8 (10 * j + 3)) k) + (g 8 (10 * (k) + 3)))), (0, .ref (a)), (2, .int (nI (k)))]) hx hb dX8_wordMany_25 rfl hl (by decide) rfl (fun ls hl => ?_)
    refine lv_iinc (v := nI (k + 1)) (lv' := [(2, .int (nI (k + 1))), (1, .int ((sm (fun j => g 8 (10 * j + 3)) k) + (g 8 (10 * (k) + 3)))), (0, .ref (a))]) hx hb dX8_wordMany_26 hl (k := 2) rfl (nI_1 _) (by decide) rfl (fun ls hl => ?_)
    refine lv_goto (tgt := 4) hx hb dX8_wordMany_29 (by decide) ?_
    have e1_1 : ((sm (fun j => g 8 (10 * j + 3)) k) + (g 8 (10 * (k) + 3))) = sm (fun j => g 8 (10 * j + 3)) (k + 1) := by first | rfl | (simp only [sm, alB, if_neg c_1]; done) | (simp only [sm, alB, if_neg c_1]; rfl) | (simp [sm, alB, if_neg c_1]; done)
    exact ih_4 (k + 1) ls (by show _ < _; omega) (by show _; omega) (by show lv_has ls 3 [(0, .ref (a)), (1, .int (sm (fun j => g 8 (10 * j + 3)) (k + 1))), (2, .int (nI ((k + 1))))]; rw [← e1_1]; exact lv_sub hl [2, 1, 0] rfl)

set_option maxHeartbeats 1200000 in
set_option maxRecDepth 100000 in
theorem c8_differOf (l : Launch) (dC : Nat → ClassId) (dI : Nat → Nat → Nat) (cI : ClassId) (a : Nat) (o : Nat → Nat) (f : Nat → Int32) (g : Nat → Nat → Int32) (h : Int64) (p q : Nat) (hp : p < 4) (hq : q < 4) : Met l yX8_differOf wsX8_differOf ({ frames := 2, cells := 0, slots := 0, locals := 47 } : Room) (va_Pc [.ref (a), .int (nI (p)), .int (nI (q))] (fun U => va_P (dC, dI) vwCl (mW cI a o f g h) U.heap ∧ va_K (dC, dI) vwCl [(cI, .int)] U)) (vp_Si (fun r => r = mDo g p q)) 0 0 (fun _ => False) := by
  refine Met.ofW (cc := cX8_differOf) (maxL := 4) (ret := (some .int)) (by decide) rfl ?_
  intro p_ e_ s m args below meth c_0 s₁ B hml hv
  obtain ⟨rfl, hP, hK⟩ := hv
  have hx := B.exec
  have hb := B.bytes
  have hr := B.returns
  have hts := atoms_spec (ws := wsX8_differOf) B.pre
  have hown : s.vm.findClass RX8 = some m.cls := findClass_of_methodNamed B.named
  have hlocks := B.notSynchronized
  have hP : va_P (dC, dI) vwCl (mW cI a o f g h) s.heap := hP
  have hl := lv_entry ([.ref (a), .int (nI (p)), .int (nI (q))]) (n := 4) (Nat.le_of_ble_eq_true rfl)
  rw [lg_entry_eq]
  generalize (lg_sl ([.ref (a), .int (nI (p)), .int (nI (q))]) ++ List.replicate (4 - (lg_sl ([.ref (a), .int (nI (p)), .int (nI (q))])).length) Slot.unset).toArray = ls at hl ⊢
  have hl : lv_has ls 4 [(0, .ref (a)), (1, .int (nI (p))), (2, .int (nI (q)))] := hl
  have hin8 : ∀ w ∈ wsX80, w ∈ wsX8_differOf := fun _ h => List.mem_cons_of_mem _ (List.mem_append_right _ h)
  have hW0 := hts (.fieldLink RX8 13 "EachEyeModel" "hues" "[I") (by decide +kernel)
  refine lv_iconst (v := nI (0)) hx hb dX8_differOf_0 (by decide +kernel) ?_
  refine lv_istore_n (lv' := [(3, .int (nI (0))), (0, .ref (a)), (1, .int (nI (p))), (2, .int (nI (q)))]) hx hb dX8_differOf_1 rfl hl (by decide) rfl (fun ls hl => ?_)
  refine lp_ro (fun k : Nat => 6 - k) (fun k : Nat => k ≤ 6 ∧ ∀ j, j < k → (!decide (mS g p (g 5 j) = mS g q (g 5 j))) = false) (fun k : Nat => [(0, .ref (a)), (1, .int (nI (p))), (2, .int (nI (q))), (3, .int (nI (k)))]) (0) ⟨by omega, fun j h => absurd h (Nat.not_lt_zero _)⟩ (by show lv_has ls 4 [(0, .ref (a)), (1, .int (nI (p))), (2, .int (nI (q))), (3, .int (nI (0)))]; exact lv_sub hl [1, 2, 3, 0] rfl) (fun k hI ih_2 ls hl => ?_)
  have hI : k ≤ 6 ∧ ∀ j, j < k → (!decide (mS g p (g 5 j) = mS g q (g 5 j))) = false := hI
  have hl : lv_has ls 4 [(0, .ref (a)), (1, .int (nI (p))), (2, .int (nI (q))), (3, .int (nI (k)))] := hl
  have hI1 := hI.1
  refine lv_iload_n hx hb dX8_differOf_2 rfl (lv_at hl 3 rfl) ?_
  refine lv_bipush (v := nI (6)) hx hb dX8_differOf_3 (by decide +kernel) ?_
  refine lv_icmp_ge (tgt := 41) hx hb dX8_differOf_5 (by decide) (fun c_1 => ?_) (fun c_1 => ?_)
  · skip
    rw [nI_leI (a := 6) (b := k) (by omega) (by omega)] at c_1
    refine lv_iconst (v := (-1)) hx hb dX8_differOf_41 (by decide +kernel) ?_
    exact W.iret (v := (-1)) hx hb hr (fun t ht hW => ⟨(-1), rfl, (by show (-1) = mDo g p q; have h6 : k = 6 := (by omega); subst h6; have h1 := fst1_no (p := fun c => !decide (mS g p (g 5 c) = mS g q (g 5 c))) (n := 6) hI.2; rw [mDo, h1, if_neg (by omega)]), ht⟩) (fun _ h => by cases h) dX8_differOf_42
  · skip
    rw [nI_leI (a := 6) (b := k) (by omega) (by omega)] at c_1
    refine lv_aload_n hx hb dX8_differOf_8 rfl (lv_at hl 0 rfl) ?_
    refine lv_iload_n hx hb dX8_differOf_9 rfl (lv_at hl 1 rfl) ?_
    refine lv_aload_n hx hb dX8_differOf_10 rfl (lv_at hl 0 rfl) ?_
    refine va_get (D := (dC, dI)) (ci := 8) (v := .ref (o 5)) (C := RX8) (T := TX8) (N := 25) hx hb hts hin8 hown hK hP 0 rfl rfl 5 (by decide) hW0 (fun _ h9 => h9) rfl dX8_differOf_11 ?_
    refine lv_iload_n hx hb dX8_differOf_14 rfl (lv_at hl 3 rfl) ?_
    refine ald hx hb hK hP (f := g 5) (k := k) 2 0 rfl rfl rfl (by omega) (by decide) dX8_differOf_15 ?_
    refine vp_callSi (va_Run.run (va_runV (As := [.int (nI (p)), .int (g 5 (k))]) (rest := []) ⟨hx, hb, hml, hown, hts⟩ (c8_seesOf l dC dI cI a o (f) (g) (h)  (g 5 (k)) (p) (by omega)) (cwV 2 hts gX8_differOf_X8_seesOf rfl rfl rfl (by decide +kernel) ⟨Nat.le_of_ble_eq_true rfl, Nat.le_of_ble_eq_true rfl⟩) ⟨fun a U g mk q => ⟨q.1, q.2.1, va_K.moved (u := U) (U := U.calling g mk a) (Vm.Alike.refl U.vm) q.2.2⟩, va_recv hK hP (ci := 8) (q0 := 0) rfl rfl, fun U hU hW => ⟨rfl, by rw [hU]; exact hP, va_K.moved hW.alike hK⟩⟩ rfl rfl hl.1 rfl (lv_room (Nat.le_of_ble_eq_true rfl)) dX8_differOf_16 ⟨Nat.le_of_ble_eq_true rfl, Nat.le_of_ble_eq_true rfl⟩)) (fun r hrc => ?_)
    have hrc : r = mS (g) (p) (g 5 (k)) := hrc
    subst hrc
    refine lv_aload_n hx hb dX8_differOf_19 rfl (lv_at hl 0 rfl) ?_
    refine lv_iload_n hx hb dX8_differOf_20 rfl (lv_at hl 2 rfl) ?_
    refine lv_aload_n hx hb dX8_differOf_21 rfl (lv_at hl 0 rfl) ?_
    refine va_get (D := (dC, dI)) (ci := 8) (v := .ref (o 5)) (C := RX8) (T := TX8) (N := 25) hx hb hts hin8 hown hK hP 0 rfl rfl 5 (by decide) hW0 (fun _ h9 => h9) rfl dX8_differOf_22 ?_
    refine lv_iload_n hx hb dX8_differOf_25 rfl (lv_at hl 3 rfl) ?_
    refine ald hx hb hK hP (f := g 5) (k := k) 2 0 rfl rfl rfl (by omega) (by decide) dX8_differOf_26 ?_
    refine vp_callSi (va_Run.run (va_runV (As := [.int (nI (q)), .int (g 5 (k))]) (rest := [.int (mS (g) (p) (g 5 (k)))]) ⟨hx, hb, hml, hown, hts⟩ (c8_seesOf l dC dI cI a o (f) (g) (h)  (g 5 (k)) (q) (by omega)) (cwV 2 hts gX8_differOf_X8_seesOf rfl rfl rfl (by decide +kernel) ⟨Nat.le_of_ble_eq_true rfl, Nat.le_of_ble_eq_true rfl⟩) ⟨fun a U g mk q => ⟨q.1, q.2.1, va_K.moved (u := U) (U := U.calling g mk a) (Vm.Alike.refl U.vm) q.2.2⟩, va_recv hK hP (ci := 8) (q0 := 0) rfl rfl, fun U hU hW => ⟨rfl, by rw [hU]; exact hP, va_K.moved hW.alike hK⟩⟩ rfl rfl hl.1 rfl (lv_room (Nat.le_of_ble_eq_true rfl)) dX8_differOf_27 ⟨Nat.le_of_ble_eq_true rfl, Nat.le_of_ble_eq_true rfl⟩)) (fun r hrc => ?_)
    have hrc : r = mS (g) (q) (g 5 (k)) := hrc
    subst hrc
    refine lv_icmp_eq (tgt := 35) hx hb dX8_differOf_30 (by decide) (fun c_2 => ?_) (fun c_2 => ?_)
    · skip
      refine lv_iinc (v := nI (k + 1)) (lv' := [(3, .int (nI (k + 1))), (0, .ref (a)), (1, .int (nI (p))), (2, .int (nI (q)))]) hx hb dX8_differOf_35 hl (k := 3) rfl (nI_1 _) (by decide) rfl (fun ls hl => ?_)
      refine lv_goto (tgt := 2) hx hb dX8_differOf_38 (by decide) ?_
      exact ih_2 (k + 1) ls (by show _ < _; omega) ⟨by omega, lt_s hI.2 (by rw [decide_eq_true c_2]; rfl)⟩ (by show lv_has ls 4 [(0, .ref (a)), (1, .int (nI (p))), (2, .int (nI (q))), (3, .int (nI ((k + 1))))]; exact lv_sub hl [1, 2, 3, 0] rfl)
    · skip
      refine lv_iload_n hx hb dX8_differOf_33 rfl (lv_at hl 3 rfl) ?_
      exact W.iret (v := nI (k)) hx hb hr (fun t ht hW => ⟨nI (k), rfl, (by show nI (k) = mDo g p q; have h1 := fst1_at (p := fun c => !decide (mS g p (g 5 c) = mS g q (g 5 c))) (n := 6) (k := k) (by omega) hI.2 (by show (!decide _) = true; rw [decide_eq_false c_2]; rfl); rw [mDo, h1, if_pos (by omega)]), ht⟩) (fun _ h => by cases h) dX8_differOf_34

set_option maxHeartbeats 1200000 in
set_option maxRecDepth 100000 in
theorem c8_differ (l : Launch) (dC : Nat → ClassId) (dI : Nat → Nat → Nat) (cI : ClassId) (a : Nat) (o : Nat → Nat) (f : Nat → Int32) (g : Nat → Nat → Int32) (h : Int64) {k6 : Nat} (e6 : f 6 = nI k6) (b6 : k6 ≤ 4) (p : Int32) (q : Int32) : Met l yX8_differ wsX8_differ ({ frames := 3, cells := 0, slots := 0, locals := 70 } : Room) (va_Pc [.ref (a), .int (p), .int (q)] (fun U => va_P (dC, dI) vwCl (mW cI a o f g h) U.heap ∧ va_K (dC, dI) vwCl [(cI, .int)] U)) (vp_Si (fun r => r = mDiffer g k6 p q)) 0 0 (fun _ => False) := by
  refine Met.ofW (cc := cX8_differ) (maxL := 3) (ret := (some .int)) (by decide) rfl ?_
  intro p_ e_ s m args below meth c_0 s₁ B hml hv
  obtain ⟨rfl, hP, hK⟩ := hv
  have hx := B.exec
  have hb := B.bytes
  have hr := B.returns
  have hts := atoms_spec (ws := wsX8_differ) B.pre
  have hown : s.vm.findClass RX8 = some m.cls := findClass_of_methodNamed B.named
  have hlocks := B.notSynchronized
  have hP : va_P (dC, dI) vwCl (mW cI a o f g h) s.heap := hP
  have hl := lv_entry ([.ref (a), .int (p), .int (q)]) (n := 3) (Nat.le_of_ble_eq_true rfl)
  rw [lg_entry_eq]
  generalize (lg_sl ([.ref (a), .int (p), .int (q)]) ++ List.replicate (3 - (lg_sl ([.ref (a), .int (p), .int (q)])).length) Slot.unset).toArray = ls at hl ⊢
  have hl : lv_has ls 3 [(0, .ref (a)), (1, .int (p)), (2, .int (q))] := hl
  refine lv_aload_n hx hb dX8_differ_0 rfl (lv_at hl 0 rfl) ?_
  refine lv_iload_n hx hb dX8_differ_1 rfl (lv_at hl 1 rfl) ?_
  refine vp_callSi (va_Run.run (va_runV (As := [.int (p)]) (rest := []) ⟨hx, hb, hml, hown, hts⟩ (c8_isPerson l dC dI cI a o (f) (g) (h) e6 (by omega) (p) ) (cwV 1 hts gX8_differ_X8_isPerson rfl rfl rfl (by decide +kernel) ⟨Nat.le_of_ble_eq_true rfl, Nat.le_of_ble_eq_true rfl⟩) ⟨fun a U g mk q => ⟨q.1, q.2.1, va_K.moved (u := U) (U := U.calling g mk a) (Vm.Alike.refl U.vm) q.2.2⟩, va_recv hK hP (ci := 8) (q0 := 0) rfl rfl, fun U hU hW => ⟨rfl, by rw [hU]; exact hP, va_K.moved hW.alike hK⟩⟩ rfl rfl hl.1 rfl (lv_room (Nat.le_of_ble_eq_true rfl)) dX8_differ_2 ⟨Nat.le_of_ble_eq_true rfl, Nat.le_of_ble_eq_true rfl⟩)) (fun r hrc => ?_)
  have hrc : r = b2i (0 ≤ (p).toInt ∧ (p).toInt ≤ (k6 : Int) - 1) := hrc
  subst hrc
  refine lv_if_eq (tgt := 25) hx hb dX8_differ_5 (by decide) (fun c_1 => ?_) (fun c_1 => ?_)
  · skip
    have c_1 := b2i_0 c_1
    refine lv_bipush (v := (-101)) hx hb dX8_differ_25 (by decide +kernel) ?_
    exact W.iret (v := (-101)) hx hb hr (fun t ht hW => ⟨(-101), rfl, (by show (-101) = mDiffer g k6 p q; first | (simp only [mDiffer, if_neg c_1]; done) | (simp only [mDiffer, if_neg c_1]; rfl) | rfl | (simp [mDiffer, if_neg c_1]; done)), ht⟩) (fun _ h => by cases h) dX8_differ_27
  · skip
    have c_1 := b2i_1 c_1
    refine lv_aload_n hx hb dX8_differ_8 rfl (lv_at hl 0 rfl) ?_
    refine lv_iload_n hx hb dX8_differ_9 rfl (lv_at hl 2 rfl) ?_
    refine vp_callSi (va_Run.run (va_runV (As := [.int (q)]) (rest := []) ⟨hx, hb, hml, hown, hts⟩ (c8_isPerson l dC dI cI a o (f) (g) (h) e6 (by omega) (q) ) (cwV 1 hts gX8_differ_X8_isPerson rfl rfl rfl (by decide +kernel) ⟨Nat.le_of_ble_eq_true rfl, Nat.le_of_ble_eq_true rfl⟩) ⟨fun a U g mk q => ⟨q.1, q.2.1, va_K.moved (u := U) (U := U.calling g mk a) (Vm.Alike.refl U.vm) q.2.2⟩, va_recv hK hP (ci := 8) (q0 := 0) rfl rfl, fun U hU hW => ⟨rfl, by rw [hU]; exact hP, va_K.moved hW.alike hK⟩⟩ rfl rfl hl.1 rfl (lv_room (Nat.le_of_ble_eq_true rfl)) dX8_differ_10 ⟨Nat.le_of_ble_eq_true rfl, Nat.le_of_ble_eq_true rfl⟩)) (fun r hrc => ?_)
    have hrc : r = b2i (0 ≤ (q).toInt ∧ (q).toInt ≤ (k6 : Int) - 1) := hrc
    subst hrc
    refine lv_if_eq (tgt := 25) hx hb dX8_differ_13 (by decide) (fun c_2 => ?_) (fun c_2 => ?_)
    · skip
      have c_2 := b2i_0 c_2
      refine lv_bipush (v := (-101)) hx hb dX8_differ_25 (by decide +kernel) ?_
      exact W.iret (v := (-101)) hx hb hr (fun t ht hW => ⟨(-101), rfl, (by show (-101) = mDiffer g k6 p q; first | (simp only [mDiffer, if_pos c_1, if_neg c_2]; done) | (simp only [mDiffer, if_pos c_1, if_neg c_2]; rfl) | rfl | (simp [mDiffer, if_pos c_1, if_neg c_2]; done)), ht⟩) (fun _ h => by cases h) dX8_differ_27
    · skip
      have c_2 := b2i_1 c_2
      refine lv_aload_n hx hb dX8_differ_16 rfl (lv_at hl 0 rfl) ?_
      refine lv_iload_n hx hb dX8_differ_17 rfl (lv_at hl 1 rfl) ?_
      refine tv (ix_int (by omega)) ?_
      refine lv_iload_n hx hb dX8_differ_18 rfl (lv_at hl 2 rfl) ?_
      refine tv (ix_int (by omega)) ?_
      refine vp_callSi (va_Run.run (va_runV (As := [.int (nI (p.toInt.toNat)), .int (nI (q.toInt.toNat))]) (rest := []) ⟨hx, hb, hml, hown, hts⟩ (c8_differOf l dC dI cI a o (f) (g) (h)   (p.toInt.toNat) (q.toInt.toNat) (by omega) (by omega)) (cwV 2 hts gX8_differ_X8_differOf rfl rfl rfl (by decide +kernel) ⟨Nat.le_of_ble_eq_true rfl, Nat.le_of_ble_eq_true rfl⟩) ⟨fun a U g mk q => ⟨q.1, q.2.1, va_K.moved (u := U) (U := U.calling g mk a) (Vm.Alike.refl U.vm) q.2.2⟩, va_recv hK hP (ci := 8) (q0 := 0) rfl rfl, fun U hU hW => ⟨rfl, by rw [hU]; exact hP, va_K.moved hW.alike hK⟩⟩ rfl rfl hl.1 rfl (lv_room (Nat.le_of_ble_eq_true rfl)) dX8_differ_19 ⟨Nat.le_of_ble_eq_true rfl, Nat.le_of_ble_eq_true rfl⟩)) (fun r hrc => ?_)
      have hrc : r = mDo (g) (p.toInt.toNat) (q.toInt.toNat) := hrc
      subst hrc
      refine lv_goto (tgt := 27) hx hb dX8_differ_22 (by decide) ?_
      exact W.iret (v := mDo (g) (p.toInt.toNat) (q.toInt.toNat)) hx hb hr (fun t ht hW => ⟨mDo (g) (p.toInt.toNat) (q.toInt.toNat), rfl, (by show mDo (g) (p.toInt.toNat) (q.toInt.toNat) = mDiffer g k6 p q; first | (simp only [mDiffer, if_pos c_1, if_pos c_2]; done) | (simp only [mDiffer, if_pos c_1, if_pos c_2]; rfl) | rfl | (simp [mDiffer, if_pos c_1, if_pos c_2]; done)), ht⟩) (fun _ h => by cases h) dX8_differ_27

set_option maxHeartbeats 1200000 in
set_option maxRecDepth 100000 in
theorem c8_alikeOf (l : Launch) (dC : Nat → ClassId) (dI : Nat → Nat → Nat) (cI : ClassId) (a : Nat) (o : Nat → Nat) (f : Nat → Int32) (g : Nat → Nat → Int32) (h : Int64) (p q : Nat) (hp : p < 4) (hq : q < 4) : Met l yX8_alikeOf wsX8_alikeOf ({ frames := 2, cells := 0, slots := 0, locals := 47 } : Room) (va_Pc [.ref (a), .int (nI (p)), .int (nI (q))] (fun U => va_P (dC, dI) vwCl (mW cI a o f g h) U.heap ∧ va_K (dC, dI) vwCl [(cI, .int)] U)) (vp_Si (fun r => r = mAo g p q)) 0 0 (fun _ => False) := by
  refine Met.ofW (cc := cX8_alikeOf) (maxL := 5) (ret := (some .int)) (by decide) rfl ?_
  intro p_ e_ s m args below meth c_0 s₁ B hml hv
  obtain ⟨rfl, hP, hK⟩ := hv
  have hx := B.exec
  have hb := B.bytes
  have hr := B.returns
  have hts := atoms_spec (ws := wsX8_alikeOf) B.pre
  have hown : s.vm.findClass RX8 = some m.cls := findClass_of_methodNamed B.named
  have hlocks := B.notSynchronized
  have hP : va_P (dC, dI) vwCl (mW cI a o f g h) s.heap := hP
  have hl := lv_entry ([.ref (a), .int (nI (p)), .int (nI (q))]) (n := 5) (Nat.le_of_ble_eq_true rfl)
  rw [lg_entry_eq]
  generalize (lg_sl ([.ref (a), .int (nI (p)), .int (nI (q))]) ++ List.replicate (5 - (lg_sl ([.ref (a), .int (nI (p)), .int (nI (q))])).length) Slot.unset).toArray = ls at hl ⊢
  have hl : lv_has ls 5 [(0, .ref (a)), (1, .int (nI (p))), (2, .int (nI (q)))] := hl
  refine lv_iconst (v := nI (0)) hx hb dX8_alikeOf_0 (by decide +kernel) ?_
  refine lv_istore_n (lv' := [(3, .int (nI (0))), (0, .ref (a)), (1, .int (nI (p))), (2, .int (nI (q)))]) hx hb dX8_alikeOf_1 rfl hl (by decide) rfl (fun ls hl => ?_)
  refine lv_iconst (v := nI (0)) hx hb dX8_alikeOf_2 (by decide +kernel) ?_
  refine lv_istore (lv' := [(4, .int (nI (0))), (3, .int (nI (0))), (0, .ref (a)), (1, .int (nI (p))), (2, .int (nI (q)))]) hx hb dX8_alikeOf_3 hl (by decide) rfl (fun ls hl => ?_)
  have e0_3 : (nI (0)) = sm (fun j => if mS g p (nI j) = mS g q (nI j) then 1 else 0) 0 := rfl
  refine lp_ro (fun k : Nat => 8 - k) (fun k : Nat => k ≤ 8) (fun k : Nat => [(0, .ref (a)), (1, .int (nI (p))), (2, .int (nI (q))), (3, .int (sm (fun j => if mS g p (nI j) = mS g q (nI j) then 1 else 0) k)), (4, .int (nI (k)))]) (0) (by omega) (by show lv_has ls 5 [(0, .ref (a)), (1, .int (nI (p))), (2, .int (nI (q))), (3, .int (sm (fun j => if mS g p (nI j) = mS g q (nI j) then 1 else 0) 0)), (4, .int (nI (0)))]; rw [← e0_3]; exact lv_sub hl [2, 3, 4, 1, 0] rfl) (fun k hI ih_5 ls hl => ?_)
  have hI : k ≤ 8 := hI
  have hl : lv_has ls 5 [(0, .ref (a)), (1, .int (nI (p))), (2, .int (nI (q))), (3, .int (sm (fun j => if mS g p (nI j) = mS g q (nI j) then 1 else 0) k)), (4, .int (nI (k)))] := hl
  refine lv_iload hx hb dX8_alikeOf_5 (lv_at hl 4 rfl) ?_
  refine lv_bipush (v := nI (8)) hx hb dX8_alikeOf_7 (by decide +kernel) ?_
  refine lv_icmp_ge (tgt := 43) hx hb dX8_alikeOf_9 (by decide) (fun c_1 => ?_) (fun c_1 => ?_)
  · skip
    rw [nI_leI (a := 8) (b := k) (by omega) (by omega)] at c_1
    have hE : 8 = k := by omega
    subst hE
    refine lv_iload_n hx hb dX8_alikeOf_43 rfl (lv_at hl 3 rfl) ?_
    exact W.iret (v := sm (fun j => if mS g p (nI j) = mS g q (nI j) then 1 else 0) 8) hx hb hr (fun t ht hW => ⟨sm (fun j => if mS g p (nI j) = mS g q (nI j) then 1 else 0) 8, rfl, (by show sm (fun j => if mS g p (nI j) = mS g q (nI j) then 1 else 0) 8 = mAo g p q; rfl), ht⟩) (fun _ h => by cases h) dX8_alikeOf_44
  · skip
    rw [nI_leI (a := 8) (b := k) (by omega) (by omega)] at c_1
    refine lv_iload_n hx hb dX8_alikeOf_12 rfl (lv_at hl 3 rfl) ?_
    refine lv_aload_n hx hb dX8_alikeOf_13 rfl (lv_at hl 0 rfl) ?_
    refine lv_iload_n hx hb dX8_alikeOf_14 rfl (lv_at hl 1 rfl) ?_
    refine lv_iload hx hb dX8_alikeOf_15 (lv_at hl 4 rfl) ?_
    refine vp_callSi (va_Run.run (va_runV (As := [.int (nI (p)), .int (nI (k))]) (rest := [.int (sm (fun j => if mS g p (nI j) = mS g q (nI j) then 1 else 0) k)]) ⟨hx, hb, hml, hown, hts⟩ (c8_seesOf l dC dI cI a o (f) (g) (h)  (nI (k)) (p) (by omega)) (cwV 2 hts gX8_alikeOf_X8_seesOf rfl rfl rfl (by decide +kernel) ⟨Nat.le_of_ble_eq_true rfl, Nat.le_of_ble_eq_true rfl⟩) ⟨fun a U g mk q => ⟨q.1, q.2.1, va_K.moved (u := U) (U := U.calling g mk a) (Vm.Alike.refl U.vm) q.2.2⟩, va_recv hK hP (ci := 8) (q0 := 0) rfl rfl, fun U hU hW => ⟨rfl, by rw [hU]; exact hP, va_K.moved hW.alike hK⟩⟩ rfl rfl hl.1 rfl (lv_room (Nat.le_of_ble_eq_true rfl)) dX8_alikeOf_17 ⟨Nat.le_of_ble_eq_true rfl, Nat.le_of_ble_eq_true rfl⟩)) (fun r hrc => ?_)
    have hrc : r = mS (g) (p) (nI (k)) := hrc
    subst hrc
    refine lv_aload_n hx hb dX8_alikeOf_20 rfl (lv_at hl 0 rfl) ?_
    refine lv_iload_n hx hb dX8_alikeOf_21 rfl (lv_at hl 2 rfl) ?_
    refine lv_iload hx hb dX8_alikeOf_22 (lv_at hl 4 rfl) ?_
    refine vp_callSi (va_Run.run (va_runV (As := [.int (nI (q)), .int (nI (k))]) (rest := [.int (mS (g) (p) (nI (k))), .int (sm (fun j => if mS g p (nI j) = mS g q (nI j) then 1 else 0) k)]) ⟨hx, hb, hml, hown, hts⟩ (c8_seesOf l dC dI cI a o (f) (g) (h)  (nI (k)) (q) (by omega)) (cwV 2 hts gX8_alikeOf_X8_seesOf rfl rfl rfl (by decide +kernel) ⟨Nat.le_of_ble_eq_true rfl, Nat.le_of_ble_eq_true rfl⟩) ⟨fun a U g mk q => ⟨q.1, q.2.1, va_K.moved (u := U) (U := U.calling g mk a) (Vm.Alike.refl U.vm) q.2.2⟩, va_recv hK hP (ci := 8) (q0 := 0) rfl rfl, fun U hU hW => ⟨rfl, by rw [hU]; exact hP, va_K.moved hW.alike hK⟩⟩ rfl rfl hl.1 rfl (lv_room (Nat.le_of_ble_eq_true rfl)) dX8_alikeOf_24 ⟨Nat.le_of_ble_eq_true rfl, Nat.le_of_ble_eq_true rfl⟩)) (fun r hrc => ?_)
    have hrc : r = mS (g) (q) (nI (k)) := hrc
    subst hrc
    refine lv_icmp_ne (tgt := 34) hx hb dX8_alikeOf_27 (by decide) (fun c_2 => ?_) (fun c_2 => ?_)
    · skip
      refine lv_iconst (v := nI (0)) hx hb dX8_alikeOf_34 (by decide +kernel) ?_
      refine lv_iadd hx hb dX8_alikeOf_35 ?_
      refine lv_istore_n (lv' := [(3, .int ((sm (fun j => if mS g p (nI j) = mS g q (nI j) then 1 else 0) k) + (nI (0)))), (0, .ref (a)), (1, .int (nI (p))), (2, .int (nI (q))), (4, .int (nI (k)))]) hx hb dX8_alikeOf_36 rfl hl (by decide) rfl (fun ls hl => ?_)
      refine lv_iinc (v := nI (k + 1)) (lv' := [(4, .int (nI (k + 1))), (3, .int ((sm (fun j => if mS g p (nI j) = mS g q (nI j) then 1 else 0) k) + (nI (0)))), (0, .ref (a)), (1, .int (nI (p))), (2, .int (nI (q)))]) hx hb dX8_alikeOf_37 hl (k := 4) rfl (nI_1 _) (by decide) rfl (fun ls hl => ?_)
      refine lv_goto (tgt := 5) hx hb dX8_alikeOf_40 (by decide) ?_
      have e1_3 : ((sm (fun j => if mS g p (nI j) = mS g q (nI j) then 1 else 0) k) + (nI (0))) = sm (fun j => if mS g p (nI j) = mS g q (nI j) then 1 else 0) (k + 1) := by first | rfl | (simp only [sm, alB, if_neg c_1, if_neg c_2]; done) | (simp only [sm, alB, if_neg c_1, if_neg c_2]; rfl) | (simp [sm, alB, if_neg c_1, if_neg c_2]; done)
      exact ih_5 (k + 1) ls (by show _ < _; omega) (by show _; omega) (by show lv_has ls 5 [(0, .ref (a)), (1, .int (nI (p))), (2, .int (nI (q))), (3, .int (sm (fun j => if mS g p (nI j) = mS g q (nI j) then 1 else 0) (k + 1))), (4, .int (nI ((k + 1))))]; rw [← e1_3]; exact lv_sub hl [2, 3, 4, 1, 0] rfl)
    · skip
      refine lv_iconst (v := nI (1)) hx hb dX8_alikeOf_30 (by decide +kernel) ?_
      refine lv_goto (tgt := 35) hx hb dX8_alikeOf_31 (by decide) ?_
      refine lv_iadd hx hb dX8_alikeOf_35 ?_
      refine lv_istore_n (lv' := [(3, .int ((sm (fun j => if mS g p (nI j) = mS g q (nI j) then 1 else 0) k) + (nI (1)))), (0, .ref (a)), (1, .int (nI (p))), (2, .int (nI (q))), (4, .int (nI (k)))]) hx hb dX8_alikeOf_36 rfl hl (by decide) rfl (fun ls hl => ?_)
      refine lv_iinc (v := nI (k + 1)) (lv' := [(4, .int (nI (k + 1))), (3, .int ((sm (fun j => if mS g p (nI j) = mS g q (nI j) then 1 else 0) k) + (nI (1)))), (0, .ref (a)), (1, .int (nI (p))), (2, .int (nI (q)))]) hx hb dX8_alikeOf_37 hl (k := 4) rfl (nI_1 _) (by decide) rfl (fun ls hl => ?_)
      refine lv_goto (tgt := 5) hx hb dX8_alikeOf_40 (by decide) ?_
      have e1_3 : ((sm (fun j => if mS g p (nI j) = mS g q (nI j) then 1 else 0) k) + (nI (1))) = sm (fun j => if mS g p (nI j) = mS g q (nI j) then 1 else 0) (k + 1) := by first | rfl | (simp only [sm, alB, if_neg c_1, if_pos c_2]; done) | (simp only [sm, alB, if_neg c_1, if_pos c_2]; rfl) | (simp [sm, alB, if_neg c_1, if_pos c_2]; done)
      exact ih_5 (k + 1) ls (by show _ < _; omega) (by show _; omega) (by show lv_has ls 5 [(0, .ref (a)), (1, .int (nI (p))), (2, .int (nI (q))), (3, .int (sm (fun j => if mS g p (nI j) = mS g q (nI j) then 1 else 0) (k + 1))), (4, .int (nI ((k + 1))))]; rw [← e1_3]; exact lv_sub hl [2, 3, 4, 1, 0] rfl)

set_option maxHeartbeats 1200000 in
set_option maxRecDepth 100000 in
theorem c8_alike (l : Launch) (dC : Nat → ClassId) (dI : Nat → Nat → Nat) (cI : ClassId) (a : Nat) (o : Nat → Nat) (f : Nat → Int32) (g : Nat → Nat → Int32) (h : Int64) {k6 : Nat} (e6 : f 6 = nI k6) (b6 : k6 ≤ 4) (p : Int32) (q : Int32) : Met l yX8_alike wsX8_alike ({ frames := 3, cells := 0, slots := 0, locals := 71 } : Room) (va_Pc [.ref (a), .int (p), .int (q)] (fun U => va_P (dC, dI) vwCl (mW cI a o f g h) U.heap ∧ va_K (dC, dI) vwCl [(cI, .int)] U)) (vp_Si (fun r => r = mAlike g k6 p q)) 0 0 (fun _ => False) := by
  refine Met.ofW (cc := cX8_alike) (maxL := 3) (ret := (some .int)) (by decide) rfl ?_
  intro p_ e_ s m args below meth c_0 s₁ B hml hv
  obtain ⟨rfl, hP, hK⟩ := hv
  have hx := B.exec
  have hb := B.bytes
  have hr := B.returns
  have hts := atoms_spec (ws := wsX8_alike) B.pre
  have hown : s.vm.findClass RX8 = some m.cls := findClass_of_methodNamed B.named
  have hlocks := B.notSynchronized
  have hP : va_P (dC, dI) vwCl (mW cI a o f g h) s.heap := hP
  have hl := lv_entry ([.ref (a), .int (p), .int (q)]) (n := 3) (Nat.le_of_ble_eq_true rfl)
  rw [lg_entry_eq]
  generalize (lg_sl ([.ref (a), .int (p), .int (q)]) ++ List.replicate (3 - (lg_sl ([.ref (a), .int (p), .int (q)])).length) Slot.unset).toArray = ls at hl ⊢
  have hl : lv_has ls 3 [(0, .ref (a)), (1, .int (p)), (2, .int (q))] := hl
  refine lv_aload_n hx hb dX8_alike_0 rfl (lv_at hl 0 rfl) ?_
  refine lv_iload_n hx hb dX8_alike_1 rfl (lv_at hl 1 rfl) ?_
  refine vp_callSi (va_Run.run (va_runV (As := [.int (p)]) (rest := []) ⟨hx, hb, hml, hown, hts⟩ (c8_isPerson l dC dI cI a o (f) (g) (h) e6 (by omega) (p) ) (cwV 1 hts gX8_alike_X8_isPerson rfl rfl rfl (by decide +kernel) ⟨Nat.le_of_ble_eq_true rfl, Nat.le_of_ble_eq_true rfl⟩) ⟨fun a U g mk q => ⟨q.1, q.2.1, va_K.moved (u := U) (U := U.calling g mk a) (Vm.Alike.refl U.vm) q.2.2⟩, va_recv hK hP (ci := 8) (q0 := 0) rfl rfl, fun U hU hW => ⟨rfl, by rw [hU]; exact hP, va_K.moved hW.alike hK⟩⟩ rfl rfl hl.1 rfl (lv_room (Nat.le_of_ble_eq_true rfl)) dX8_alike_2 ⟨Nat.le_of_ble_eq_true rfl, Nat.le_of_ble_eq_true rfl⟩)) (fun r hrc => ?_)
  have hrc : r = b2i (0 ≤ (p).toInt ∧ (p).toInt ≤ (k6 : Int) - 1) := hrc
  subst hrc
  refine lv_if_eq (tgt := 25) hx hb dX8_alike_5 (by decide) (fun c_1 => ?_) (fun c_1 => ?_)
  · skip
    have c_1 := b2i_0 c_1
    refine lv_bipush (v := (-101)) hx hb dX8_alike_25 (by decide +kernel) ?_
    exact W.iret (v := (-101)) hx hb hr (fun t ht hW => ⟨(-101), rfl, (by show (-101) = mAlike g k6 p q; first | (simp only [mAlike, if_neg c_1]; done) | (simp only [mAlike, if_neg c_1]; rfl) | rfl | (simp [mAlike, if_neg c_1]; done)), ht⟩) (fun _ h => by cases h) dX8_alike_27
  · skip
    have c_1 := b2i_1 c_1
    refine lv_aload_n hx hb dX8_alike_8 rfl (lv_at hl 0 rfl) ?_
    refine lv_iload_n hx hb dX8_alike_9 rfl (lv_at hl 2 rfl) ?_
    refine vp_callSi (va_Run.run (va_runV (As := [.int (q)]) (rest := []) ⟨hx, hb, hml, hown, hts⟩ (c8_isPerson l dC dI cI a o (f) (g) (h) e6 (by omega) (q) ) (cwV 1 hts gX8_alike_X8_isPerson rfl rfl rfl (by decide +kernel) ⟨Nat.le_of_ble_eq_true rfl, Nat.le_of_ble_eq_true rfl⟩) ⟨fun a U g mk q => ⟨q.1, q.2.1, va_K.moved (u := U) (U := U.calling g mk a) (Vm.Alike.refl U.vm) q.2.2⟩, va_recv hK hP (ci := 8) (q0 := 0) rfl rfl, fun U hU hW => ⟨rfl, by rw [hU]; exact hP, va_K.moved hW.alike hK⟩⟩ rfl rfl hl.1 rfl (lv_room (Nat.le_of_ble_eq_true rfl)) dX8_alike_10 ⟨Nat.le_of_ble_eq_true rfl, Nat.le_of_ble_eq_true rfl⟩)) (fun r hrc => ?_)
    have hrc : r = b2i (0 ≤ (q).toInt ∧ (q).toInt ≤ (k6 : Int) - 1) := hrc
    subst hrc
    refine lv_if_eq (tgt := 25) hx hb dX8_alike_13 (by decide) (fun c_2 => ?_) (fun c_2 => ?_)
    · skip
      have c_2 := b2i_0 c_2
      refine lv_bipush (v := (-101)) hx hb dX8_alike_25 (by decide +kernel) ?_
      exact W.iret (v := (-101)) hx hb hr (fun t ht hW => ⟨(-101), rfl, (by show (-101) = mAlike g k6 p q; first | (simp only [mAlike, if_pos c_1, if_neg c_2]; done) | (simp only [mAlike, if_pos c_1, if_neg c_2]; rfl) | rfl | (simp [mAlike, if_pos c_1, if_neg c_2]; done)), ht⟩) (fun _ h => by cases h) dX8_alike_27
    · skip
      have c_2 := b2i_1 c_2
      refine lv_aload_n hx hb dX8_alike_16 rfl (lv_at hl 0 rfl) ?_
      refine lv_iload_n hx hb dX8_alike_17 rfl (lv_at hl 1 rfl) ?_
      refine tv (ix_int (by omega)) ?_
      refine lv_iload_n hx hb dX8_alike_18 rfl (lv_at hl 2 rfl) ?_
      refine tv (ix_int (by omega)) ?_
      refine vp_callSi (va_Run.run (va_runV (As := [.int (nI (p.toInt.toNat)), .int (nI (q.toInt.toNat))]) (rest := []) ⟨hx, hb, hml, hown, hts⟩ (c8_alikeOf l dC dI cI a o (f) (g) (h)   (p.toInt.toNat) (q.toInt.toNat) (by omega) (by omega)) (cwV 2 hts gX8_alike_X8_alikeOf rfl rfl rfl (by decide +kernel) ⟨Nat.le_of_ble_eq_true rfl, Nat.le_of_ble_eq_true rfl⟩) ⟨fun a U g mk q => ⟨q.1, q.2.1, va_K.moved (u := U) (U := U.calling g mk a) (Vm.Alike.refl U.vm) q.2.2⟩, va_recv hK hP (ci := 8) (q0 := 0) rfl rfl, fun U hU hW => ⟨rfl, by rw [hU]; exact hP, va_K.moved hW.alike hK⟩⟩ rfl rfl hl.1 rfl (lv_room (Nat.le_of_ble_eq_true rfl)) dX8_alike_19 ⟨Nat.le_of_ble_eq_true rfl, Nat.le_of_ble_eq_true rfl⟩)) (fun r hrc => ?_)
      have hrc : r = mAo (g) (p.toInt.toNat) (q.toInt.toNat) := hrc
      subst hrc
      refine lv_goto (tgt := 27) hx hb dX8_alike_22 (by decide) ?_
      exact W.iret (v := mAo (g) (p.toInt.toNat) (q.toInt.toNat)) hx hb hr (fun t ht hW => ⟨mAo (g) (p.toInt.toNat) (q.toInt.toNat), rfl, (by show mAo (g) (p.toInt.toNat) (q.toInt.toNat) = mAlike g k6 p q; first | (simp only [mAlike, if_pos c_1, if_pos c_2]; done) | (simp only [mAlike, if_pos c_1, if_pos c_2]; rfl) | rfl | (simp [mAlike, if_pos c_1, if_pos c_2]; done)), ht⟩) (fun _ h => by cases h) dX8_alike_27
