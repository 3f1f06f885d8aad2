set_option maxHeartbeats 1200000 in
set_option maxRecDepth 100000 in
theorem c7_isHue (l : Launch) (x : Int32) : Met l yX7_isHue wsX7_isHue ({ frames := 0, cells := 0, slots := 0, locals := 0 } : Room) (va_Pc [.int (x)] (fun U => True)) (vp_Si (fun r => r = b2i (0 ≤ x.toInt ∧ x.toInt ≤ 7))) 0 0 (fun _ => False) := by
  refine Met.ofW (cc := cX7_isHue) (maxL := 1) (ret := (some .boolean)) (by decide) rfl ?_
  intro p_ e_ s m args below meth c_0 s₁ B hml hv
  obtain ⟨rfl, -⟩ := hv
  have hx := B.exec
  have hb := B.bytes
  have hr := B.returns
  have hts := atoms_spec (ws := wsX7_isHue) B.pre
  have hown : s.vm.findClass RX7 = some m.cls := findClass_of_methodNamed B.named
  have hlocks := B.notSynchronized
  have hl := lv_entry ([.int (x)]) (n := 1) (Nat.le_of_ble_eq_true rfl)
  rw [lg_entry_eq]
  generalize (lg_sl ([.int (x)]) ++ List.replicate (1 - (lg_sl ([.int (x)])).length) Slot.unset).toArray = ls at hl ⊢
  have hl : lv_has ls 1 [(0, .int (x))] := hl
  refine lv_iload_n hx hb dX7_isHue_0 rfl (lv_at hl 0 rfl) ?_
  refine lv_if_lt (tgt := 14) hx hb dX7_isHue_1 (by decide) (fun c_1 => ?_) (fun c_1 => ?_)
  · skip
    rw [lti, show (0 : Int32).toInt = 0 from rfl] at c_1
    refine lv_iconst (v := nI (0)) hx hb dX7_isHue_14 (by decide +kernel) ?_
    exact W.zret (ty := .boolean) (v := nI (0)) hx hb hr rfl (fun t ht hW => ⟨nI (0), rfl, (by show nI (0) = b2i (0 ≤ x.toInt ∧ x.toInt ≤ 7); exact b2i_f (by omega)), ht⟩) (fun _ h => by cases h) dX7_isHue_15
  · skip
    rw [lti, show (0 : Int32).toInt = 0 from rfl] at c_1
    refine lv_iload_n hx hb dX7_isHue_4 rfl (lv_at hl 0 rfl) ?_
    refine lv_bipush (v := nI (8)) hx hb dX7_isHue_5 (by decide +kernel) ?_
    refine lv_icmp_ge (tgt := 14) hx hb dX7_isHue_7 (by decide) (fun c_2 => ?_) (fun c_2 => ?_)
    · skip
      rw [lei, tn (n := 8) (by omega)] at c_2
      refine lv_iconst (v := nI (0)) hx hb dX7_isHue_14 (by decide +kernel) ?_
      exact W.zret (ty := .boolean) (v := nI (0)) hx hb hr rfl (fun t ht hW => ⟨nI (0), rfl, (by show nI (0) = b2i (0 ≤ x.toInt ∧ x.toInt ≤ 7); exact b2i_f (by omega)), ht⟩) (fun _ h => by cases h) dX7_isHue_15
    · skip
      rw [lei, tn (n := 8) (by omega)] at c_2
      refine lv_iconst (v := nI (1)) hx hb dX7_isHue_10 (by decide +kernel) ?_
      refine lv_goto (tgt := 15) hx hb dX7_isHue_11 (by decide) ?_
      exact W.zret (ty := .boolean) (v := nI (1)) hx hb hr rfl (fun t ht hW => ⟨nI (1), rfl, (by show nI (1) = b2i (0 ≤ x.toInt ∧ x.toInt ≤ 7); exact b2i_t ⟨by omega, by omega⟩), ht⟩) (fun _ h => by cases h) dX7_isHue_15

set_option maxHeartbeats 1200000 in
set_option maxRecDepth 100000 in
theorem c7_isKind (l : Launch) (x : Int32) : Met l yX7_isKind wsX7_isKind ({ frames := 0, cells := 0, slots := 0, locals := 0 } : Room) (va_Pc [.int (x)] (fun U => True)) (vp_Si (fun r => r = b2i (0 ≤ x.toInt ∧ x.toInt ≤ 4))) 0 0 (fun _ => False) := by
  refine Met.ofW (cc := cX7_isKind) (maxL := 1) (ret := (some .boolean)) (by decide) rfl ?_
  intro p_ e_ s m args below meth c_0 s₁ B hml hv
  obtain ⟨rfl, -⟩ := hv
  have hx := B.exec
  have hb := B.bytes
  have hr := B.returns
  have hts := atoms_spec (ws := wsX7_isKind) B.pre
  have hown : s.vm.findClass RX7 = some m.cls := findClass_of_methodNamed B.named
  have hlocks := B.notSynchronized
  have hl := lv_entry ([.int (x)]) (n := 1) (Nat.le_of_ble_eq_true rfl)
  rw [lg_entry_eq]
  generalize (lg_sl ([.int (x)]) ++ List.replicate (1 - (lg_sl ([.int (x)])).length) Slot.unset).toArray = ls at hl ⊢
  have hl : lv_has ls 1 [(0, .int (x))] := hl
  refine lv_iload_n hx hb dX7_isKind_0 rfl (lv_at hl 0 rfl) ?_
  refine lv_if_lt (tgt := 13) hx hb dX7_isKind_1 (by decide) (fun c_1 => ?_) (fun c_1 => ?_)
  · skip
    rw [lti, show (0 : Int32).toInt = 0 from rfl] at c_1
    refine lv_iconst (v := nI (0)) hx hb dX7_isKind_13 (by decide +kernel) ?_
    exact W.zret (ty := .boolean) (v := nI (0)) hx hb hr rfl (fun t ht hW => ⟨nI (0), rfl, (by show nI (0) = b2i (0 ≤ x.toInt ∧ x.toInt ≤ 4); exact b2i_f (by omega)), ht⟩) (fun _ h => by cases h) dX7_isKind_14
  · skip
    rw [lti, show (0 : Int32).toInt = 0 from rfl] at c_1
    refine lv_iload_n hx hb dX7_isKind_4 rfl (lv_at hl 0 rfl) ?_
    refine lv_iconst (v := nI (5)) hx hb dX7_isKind_5 (by decide +kernel) ?_
    refine lv_icmp_ge (tgt := 13) hx hb dX7_isKind_6 (by decide) (fun c_2 => ?_) (fun c_2 => ?_)
    · skip
      rw [lei, tn (n := 5) (by omega)] at c_2
      refine lv_iconst (v := nI (0)) hx hb dX7_isKind_13 (by decide +kernel) ?_
      exact W.zret (ty := .boolean) (v := nI (0)) hx hb hr rfl (fun t ht hW => ⟨nI (0), rfl, (by show nI (0) = b2i (0 ≤ x.toInt ∧ x.toInt ≤ 4); exact b2i_f (by omega)), ht⟩) (fun _ h => by cases h) dX7_isKind_14
    · skip
      rw [lei, tn (n := 5) (by omega)] at c_2
      refine lv_iconst (v := nI (1)) hx hb dX7_isKind_9 (by decide +kernel) ?_
      refine lv_goto (tgt := 14) hx hb dX7_isKind_10 (by decide) ?_
      exact W.zret (ty := .boolean) (v := nI (1)) hx hb hr rfl (fun t ht hW => ⟨nI (1), rfl, (by show nI (1) = b2i (0 ≤ x.toInt ∧ x.toInt ≤ 4); exact b2i_t ⟨by omega, by omega⟩), ht⟩) (fun _ h => by cases h) dX7_isKind_14

set_option maxHeartbeats 1200000 in
set_option maxRecDepth 100000 in
theorem c7_hueAt (l : Launch) (x : Int32) (k : Nat) : Met l yX7_hueAt wsX7_hueAt ({ frames := 0, cells := 0, slots := 0, locals := 0 } : Room) (va_Pc [.int (x), .int (nI (k))] (fun U => True)) (vp_Si (fun r => r = xHa x k)) 0 0 (fun _ => False) := by
  refine Met.ofW (cc := cX7_hueAt) (maxL := 2) (ret := (some .int)) (by decide) rfl ?_
  intro p_ e_ s m args below meth c_0 s₁ B hml hv
  obtain ⟨rfl, -⟩ := hv
  have hx := B.exec
  have hb := B.bytes
  have hr := B.returns
  have hts := atoms_spec (ws := wsX7_hueAt) B.pre
  have hown : s.vm.findClass RX7 = some m.cls := findClass_of_methodNamed B.named
  have hlocks := B.notSynchronized
  have hl := lv_entry ([.int (x), .int (nI (k))]) (n := 2) (Nat.le_of_ble_eq_true rfl)
  rw [lg_entry_eq]
  generalize (lg_sl ([.int (x), .int (nI (k))]) ++ List.replicate (2 - (lg_sl ([.int (x), .int (nI (k))])).length) Slot.unset).toArray = ls at hl ⊢
  have hl : lv_has ls 2 [(0, .int (x)), (1, .int (nI (k)))] := hl
  refine lv_iload_n hx hb dX7_hueAt_0 rfl (lv_at hl 0 rfl) ?_
  refine lv_iconst (v := nI (3)) hx hb dX7_hueAt_1 (by decide +kernel) ?_
  refine lv_iload_n hx hb dX7_hueAt_2 rfl (lv_at hl 1 rfl) ?_
  refine lv_imul hx hb dX7_hueAt_3 ?_
  refine tv (pk_mul (3) (k)) ?_
  refine lv_ishr hx hb dX7_hueAt_4 ?_
  refine lv_bipush (v := nI (7)) hx hb dX7_hueAt_5 (by decide +kernel) ?_
  refine lv_iand hx hb dX7_hueAt_7 ?_
  exact W.iret (v := ((x) >>> ((nI (3 * (k))) &&& 31)) &&& (nI (7))) hx hb hr (fun t ht hW => ⟨((x) >>> ((nI (3 * (k))) &&& 31)) &&& (nI (7)), rfl, (by show ((x) >>> ((nI (3 * (k))) &&& 31)) &&& (nI (7)) = xHa x k; rfl), ht⟩) (fun _ h => by cases h) dX7_hueAt_8

set_option maxHeartbeats 1200000 in
set_option maxRecDepth 100000 in
theorem c7_withHue (l : Launch) (x : Int32) (k : Nat) (y : Int32) : Met l yX7_withHue wsX7_withHue ({ frames := 0, cells := 0, slots := 0, locals := 0 } : Room) (va_Pc [.int (x), .int (nI (k)), .int (y)] (fun U => True)) (vp_Si (fun r => r = xWh x k y)) 0 0 (fun _ => False) := by
  refine Met.ofW (cc := cX7_withHue) (maxL := 4) (ret := (some .int)) (by decide) rfl ?_
  intro p_ e_ s m args below meth c_0 s₁ B hml hv
  obtain ⟨rfl, -⟩ := hv
  have hx := B.exec
  have hb := B.bytes
  have hr := B.returns
  have hts := atoms_spec (ws := wsX7_withHue) B.pre
  have hown : s.vm.findClass RX7 = some m.cls := findClass_of_methodNamed B.named
  have hlocks := B.notSynchronized
  have hl := lv_entry ([.int (x), .int (nI (k)), .int (y)]) (n := 4) (Nat.le_of_ble_eq_true rfl)
  rw [lg_entry_eq]
  generalize (lg_sl ([.int (x), .int (nI (k)), .int (y)]) ++ List.replicate (4 - (lg_sl ([.int (x), .int (nI (k)), .int (y)])).length) Slot.unset).toArray = ls at hl ⊢
  have hl : lv_has ls 4 [(0, .int (x)), (1, .int (nI (k))), (2, .int (y))] := hl
  refine lv_iconst (v := nI (3)) hx hb dX7_withHue_0 (by decide +kernel) ?_
  refine lv_iload_n hx hb dX7_withHue_1 rfl (lv_at hl 1 rfl) ?_
  refine lv_imul hx hb dX7_withHue_2 ?_
  refine tv (pk_mul (3) (k)) ?_
  refine lv_istore_n (lv' := [(3, .int (nI (3 * (k)))), (0, .int (x)), (1, .int (nI (k))), (2, .int (y))]) hx hb dX7_withHue_3 rfl hl (by decide) rfl (fun ls hl => ?_)
  refine lv_iload_n hx hb dX7_withHue_4 rfl (lv_at hl 1 rfl) ?_
  refine lv_bipush (v := nI (7)) hx hb dX7_withHue_5 (by decide +kernel) ?_
  refine lv_iload_n hx hb dX7_withHue_7 rfl (lv_at hl 0 rfl) ?_
  refine lv_ishl hx hb dX7_withHue_8 ?_
  refine lv_iconst (v := (-1)) hx hb dX7_withHue_9 (by decide +kernel) ?_
  refine lv_ixor hx hb dX7_withHue_10 ?_
  refine lv_iand hx hb dX7_withHue_11 ?_
  refine lv_iload_n hx hb dX7_withHue_12 rfl (lv_at hl 3 rfl) ?_
  refine lv_iload_n hx hb dX7_withHue_13 rfl (lv_at hl 0 rfl) ?_
  refine lv_ishl hx hb dX7_withHue_14 ?_
  refine lv_ior hx hb dX7_withHue_15 ?_
  exact W.iret (v := ((x) &&& (((nI (7)) <<< ((nI (3 * (k))) &&& 31)) ^^^ ((-1)))) ||| ((y) <<< ((nI (3 * (k))) &&& 31))) hx hb hr (fun t ht hW => ⟨((x) &&& (((nI (7)) <<< ((nI (3 * (k))) &&& 31)) ^^^ ((-1)))) ||| ((y) <<< ((nI (3 * (k))) &&& 31)), rfl, (by show ((x) &&& (((nI (7)) <<< ((nI (3 * (k))) &&& 31)) ^^^ ((-1)))) ||| ((y) <<< ((nI (3 * (k))) &&& 31)) = xWh x k y; rfl), ht⟩) (fun _ h => by cases h) dX7_withHue_16

set_option maxHeartbeats 1200000 in
set_option maxRecDepth 100000 in
theorem c7_holds (l : Launch) (x : Int32) (k : Nat) : Met l yX7_holds wsX7_holds ({ frames := 0, cells := 0, slots := 0, locals := 0 } : Room) (va_Pc [.int (x), .int (nI (k))] (fun U => True)) (vp_Si (fun r => r = b2i ((x >>> (nI k &&& 31)) &&& nI 1 = nI 1))) 0 0 (fun _ => False) := by
  refine Met.ofW (cc := cX7_holds) (maxL := 2) (ret := (some .boolean)) (by decide) rfl ?_
  intro p_ e_ s m args below meth c_0 s₁ B hml hv
  obtain ⟨rfl, -⟩ := hv
  have hx := B.exec
  have hb := B.bytes
  have hr := B.returns
  have hts := atoms_spec (ws := wsX7_holds) B.pre
  have hown : s.vm.findClass RX7 = some m.cls := findClass_of_methodNamed B.named
  have hlocks := B.notSynchronized
  have hl := lv_entry ([.int (x), .int (nI (k))]) (n := 2) (Nat.le_of_ble_eq_true rfl)
  rw [lg_entry_eq]
  generalize (lg_sl ([.int (x), .int (nI (k))]) ++ List.replicate (2 - (lg_sl ([.int (x), .int (nI (k))])).length) Slot.unset).toArray = ls at hl ⊢
  have hl : lv_has ls 2 [(0, .int (x)), (1, .int (nI (k)))] := hl
  refine lv_iload_n hx hb dX7_holds_0 rfl (lv_at hl 0 rfl) ?_
  refine lv_iload_n hx hb dX7_holds_1 rfl (lv_at hl 1 rfl) ?_
  refine lv_ishr hx hb dX7_holds_2 ?_
  refine lv_iconst (v := nI (1)) hx hb dX7_holds_3 (by decide +kernel) ?_
  refine lv_iand hx hb dX7_holds_4 ?_
  refine lv_iconst (v := nI (1)) hx hb dX7_holds_5 (by decide +kernel) ?_
  refine lv_icmp_ne (tgt := 13) hx hb dX7_holds_6 (by decide) (fun c_1 => ?_) (fun c_1 => ?_)
  · skip
    refine lv_iconst (v := nI (0)) hx hb dX7_holds_13 (by decide +kernel) ?_
    exact W.zret (ty := .boolean) (v := nI (0)) hx hb hr rfl (fun t ht hW => ⟨nI (0), rfl, (by show nI (0) = b2i ((x >>> (nI k &&& 31)) &&& nI 1 = nI 1); exact b2i_f c_1), ht⟩) (fun _ h => by cases h) dX7_holds_14
  · skip
    refine lv_iconst (v := nI (1)) hx hb dX7_holds_9 (by decide +kernel) ?_
    refine lv_goto (tgt := 14) hx hb dX7_holds_10 (by decide) ?_
    exact W.zret (ty := .boolean) (v := nI (1)) hx hb hr rfl (fun t ht hW => ⟨nI (1), rfl, (by show nI (1) = b2i ((x >>> (nI k &&& 31)) &&& nI 1 = nI 1); exact b2i_t c_1), ht⟩) (fun _ h => by cases h) dX7_holds_14

set_option maxHeartbeats 1200000 in
set_option maxRecDepth 100000 in
theorem c7_nextSeed (l : Launch) (x : Int32) : Met l yX7_nextSeed wsX7_nextSeed ({ frames := 0, cells := 0, slots := 0, locals := 0 } : Room) (va_Pc [.int (x)] (fun U => True)) (vp_Si (fun r => r = nxs x)) 0 0 (fun _ => False) := by
  refine Met.ofW (cc := cX7_nextSeed) (maxL := 1) (ret := (some .int)) (by decide) rfl ?_
  intro p_ e_ s m args below meth c_0 s₁ B hml hv
  obtain ⟨rfl, -⟩ := hv
  have hx := B.exec
  have hb := B.bytes
  have hr := B.returns
  have hts := atoms_spec (ws := wsX7_nextSeed) B.pre
  have hown : s.vm.findClass RX7 = some m.cls := findClass_of_methodNamed B.named
  have hlocks := B.notSynchronized
  have hl := lv_entry ([.int (x)]) (n := 1) (Nat.le_of_ble_eq_true rfl)
  rw [lg_entry_eq]
  generalize (lg_sl ([.int (x)]) ++ List.replicate (1 - (lg_sl ([.int (x)])).length) Slot.unset).toArray = ls at hl ⊢
  have hl : lv_has ls 1 [(0, .int (x))] := hl
  have hW0 := hts (.constantLong RX7 253 (1103515245)) (by decide +kernel)
  have hW1 := hts (.constantLong RX7 255 (12345)) (by decide +kernel)
  have hW2 := hts (.constantLong RX7 257 (2147483647)) (by decide +kernel)
  refine lv_ldc2 (v := 1103515245) hx hb hown hW0 dX7_nextSeed_0 ?_
  refine lv_iload_n hx hb dX7_nextSeed_3 rfl (lv_at hl 0 rfl) ?_
  refine lv_i2l hx hb dX7_nextSeed_4 rfl ?_
  refine lv_lmul hx hb dX7_nextSeed_5 ?_
  refine lv_ldc2 (v := 12345) hx hb hown hW1 dX7_nextSeed_6 ?_
  refine lv_ladd hx hb dX7_nextSeed_9 ?_
  refine lv_ldc2 (v := 2147483647) hx hb hown hW2 dX7_nextSeed_10 ?_
  refine lv_land hx hb dX7_nextSeed_13 ?_
  refine lv_l2i hx hb dX7_nextSeed_14 rfl ?_
  exact W.iret (v := ((((1103515245) * ((x).toInt64)) + (12345)) &&& (2147483647)).toInt32) hx hb hr (fun t ht hW => ⟨((((1103515245) * ((x).toInt64)) + (12345)) &&& (2147483647)).toInt32, rfl, (by show ((((1103515245) * ((x).toInt64)) + (12345)) &&& (2147483647)).toInt32 = nxs x; rfl), ht⟩) (fun _ h => by cases h) dX7_nextSeed_15

set_option maxHeartbeats 1200000 in
set_option maxRecDepth 100000 in
theorem c7_drawn (l : Launch) (x : Int32) (k : Nat) : Met l yX7_drawn wsX7_drawn ({ frames := 0, cells := 0, slots := 0, locals := 0 } : Room) (va_Pc [.int (x), .int (nI (k))] (fun U => True)) (vp_Si (fun r => r = (x >>> (nI 16 &&& 31)) &&& (nI k - nI 1))) 0 0 (fun _ => False) := by
  refine Met.ofW (cc := cX7_drawn) (maxL := 2) (ret := (some .int)) (by decide) rfl ?_
  intro p_ e_ s m args below meth c_0 s₁ B hml hv
  obtain ⟨rfl, -⟩ := hv
  have hx := B.exec
  have hb := B.bytes
  have hr := B.returns
  have hts := atoms_spec (ws := wsX7_drawn) B.pre
  have hown : s.vm.findClass RX7 = some m.cls := findClass_of_methodNamed B.named
  have hlocks := B.notSynchronized
  have hl := lv_entry ([.int (x), .int (nI (k))]) (n := 2) (Nat.le_of_ble_eq_true rfl)
  rw [lg_entry_eq]
  generalize (lg_sl ([.int (x), .int (nI (k))]) ++ List.replicate (2 - (lg_sl ([.int (x), .int (nI (k))])).length) Slot.unset).toArray = ls at hl ⊢
  have hl : lv_has ls 2 [(0, .int (x)), (1, .int (nI (k)))] := hl
  refine lv_iload_n hx hb dX7_drawn_0 rfl (lv_at hl 0 rfl) ?_
  refine lv_bipush (v := nI (16)) hx hb dX7_drawn_1 (by decide +kernel) ?_
  refine lv_ishr hx hb dX7_drawn_3 ?_
  refine lv_iload_n hx hb dX7_drawn_4 rfl (lv_at hl 1 rfl) ?_
  refine lv_iconst (v := nI (1)) hx hb dX7_drawn_5 (by decide +kernel) ?_
  refine lv_isub hx hb dX7_drawn_6 ?_
  refine tv (y := nI (k) - nI 1) rfl ?_
  refine lv_iand hx hb dX7_drawn_7 ?_
  exact W.iret (v := ((x) >>> ((nI (16)) &&& 31)) &&& (nI (k) - nI 1)) hx hb hr (fun t ht hW => ⟨((x) >>> ((nI (16)) &&& 31)) &&& (nI (k) - nI 1), rfl, (by show ((x) >>> ((nI (16)) &&& 31)) &&& (nI (k) - nI 1) = (x >>> (nI 16 &&& 31)) &&& (nI k - nI 1); rfl), ht⟩) (fun _ h => by cases h) dX7_drawn_8

set_option maxHeartbeats 1200000 in
set_option maxRecDepth 100000 in
theorem c4_glimpse (l : Launch) (dC : Nat → ClassId) (dI : Nat → Nat → Nat) (tys : List (ClassId × FieldType)) (ws : va_W) (q0 b : Nat) (v : Nat → Int32) (he : ws[q0]? = some (b, .inr (4, pF v))) (x : Int32) : Met l yX4_glimpse wsX4_glimpse ({ frames := 0, cells := 0, slots := 0, locals := 0 } : Room) (va_Pc [.ref (b), .int (x)] (fun U => va_P (dC, dI) vwCl ws U.heap ∧ va_K (dC, dI) vwCl tys U)) (vp_Si (fun r => r = see (nI 0) (v 0) (v 1) x)) 0 0 (fun _ => False) := by
  refine Met.ofW (cc := cX4_glimpse) (maxL := 2) (ret := (some .int)) (by decide) rfl ?_
  intro p_ e_ s m args below meth c_0 s₁ B hml hv
  obtain ⟨rfl, hP, hK⟩ := hv
  have hx := B.exec
  have hb := B.bytes
  have hr := B.returns
  have hts := atoms_spec (ws := wsX4_glimpse) B.pre
  have hown : s.vm.findClass RX4 = some m.cls := findClass_of_methodNamed B.named
  have hlocks := B.notSynchronized
  have hP : va_P (dC, dI) vwCl (ws) s.heap := hP
  have hl := lv_entry ([.ref (b), .int (x)]) (n := 2) (Nat.le_of_ble_eq_true rfl)
  rw [lg_entry_eq]
  generalize (lg_sl ([.ref (b), .int (x)]) ++ List.replicate (2 - (lg_sl ([.ref (b), .int (x)])).length) Slot.unset).toArray = ls at hl ⊢
  have hl : lv_has ls 2 [(0, .ref (b)), (1, .int (x))] := hl
  have hin4 : ∀ w ∈ wsX40, w ∈ wsX4_glimpse := fun _ h => List.mem_cons_of_mem _ (List.mem_append_left _ (List.mem_append_left _ (List.mem_append_right _ h)))
  have hW0 := hts (.fieldLink RX4 18 "EachEye$Person" "left" "I") (by decide +kernel)
  have hW1 := hts (.fieldLink RX4 21 "EachEye$Person" "right" "I") (by decide +kernel)
  refine lv_iload_n hx hb dX4_glimpse_0 rfl (lv_at hl 1 rfl) ?_
  refine lv_aload_n hx hb dX4_glimpse_1 rfl (lv_at hl 0 rfl) ?_
  refine va_get (D := (dC, dI)) (ci := 4) (v := .int (v 0)) (C := RX4) (T := TX4) (N := 6) hx hb hts hin4 hown hK hP q0 he rfl 0 (by decide) hW0 (fun _ h9 => h9) rfl dX4_glimpse_2 ?_
  refine lv_aload_n hx hb dX4_glimpse_5 rfl (lv_at hl 0 rfl) ?_
  refine va_get (D := (dC, dI)) (ci := 4) (v := .int (v 1)) (C := RX4) (T := TX4) (N := 6) hx hb hts hin4 hown hK hP q0 he rfl 1 (by decide) hW1 (fun _ h9 => h9) rfl dX4_glimpse_6 ?_
  refine lv_ior hx hb dX4_glimpse_9 ?_
  refine lv_iand hx hb dX4_glimpse_10 ?_
  exact W.iret (v := (x) &&& ((v 0) ||| (v 1))) hx hb hr (fun t ht hW => ⟨(x) &&& ((v 0) ||| (v 1)), rfl, (by show (x) &&& ((v 0) ||| (v 1)) = see (nI 0) (v 0) (v 1) x; rw [see_0, and_or32]), ht⟩) (fun _ h => by cases h) dX4_glimpse_11

set_option maxHeartbeats 1200000 in
set_option maxRecDepth 100000 in
theorem c0_glimpse (l : Launch) (dC : Nat → ClassId) (dI : Nat → Nat → Nat) (tys : List (ClassId × FieldType)) (ws : va_W) (q0 b : Nat) (v : Nat → Int32) (he : ws[q0]? = some (b, .inr (0, pF v))) (x : Int32) : Met l yX0_glimpse wsX0_glimpse ({ frames := 0, cells := 0, slots := 0, locals := 0 } : Room) (va_Pc [.ref (b), .int (x)] (fun U => va_P (dC, dI) vwCl ws U.heap ∧ va_K (dC, dI) vwCl tys U)) (vp_Si (fun r => r = see (nI 1) (v 0) (v 1) x)) 0 0 (fun _ => False) := by
  refine Met.ofW (cc := cX0_glimpse) (maxL := 2) (ret := (some .int)) (by decide) rfl ?_
  intro p_ e_ s m args below meth c_0 s₁ B hml hv
  obtain ⟨rfl, hP, hK⟩ := hv
  have hx := B.exec
  have hb := B.bytes
  have hr := B.returns
  have hts := atoms_spec (ws := wsX0_glimpse) B.pre
  have hown : s.vm.findClass RX0 = some m.cls := findClass_of_methodNamed B.named
  have hlocks := B.notSynchronized
  have hP : va_P (dC, dI) vwCl (ws) s.heap := hP
  have hl := lv_entry ([.ref (b), .int (x)]) (n := 2) (Nat.le_of_ble_eq_true rfl)
  rw [lg_entry_eq]
  generalize (lg_sl ([.ref (b), .int (x)]) ++ List.replicate (2 - (lg_sl ([.ref (b), .int (x)])).length) Slot.unset).toArray = ls at hl ⊢
  have hl : lv_has ls 2 [(0, .ref (b)), (1, .int (x))] := hl
  have hin0 : ∀ w ∈ wsX00, w ∈ wsX0_glimpse := fun _ h => List.mem_cons_of_mem _ (List.mem_append_left _ (List.mem_append_left _ (List.mem_append_left _ (List.mem_append_left _ (List.mem_append_right _ h)))))
  have hW0 := hts (.fieldLink RX0 9 "EachEye$Arguer" "left" "I") (by decide +kernel)
  have hW1 := hts (.sameField "EachEye$Arguer" "EachEye$Person" "left" "I") (by decide +kernel)
  have hW2 := hts (.fieldLink RX0 15 "EachEye$Arguer" "right" "I") (by decide +kernel)
  have hW3 := hts (.sameField "EachEye$Arguer" "EachEye$Person" "right" "I") (by decide +kernel)
  refine lv_iload_n hx hb dX0_glimpse_0 rfl (lv_at hl 1 rfl) ?_
  refine lv_aload_n hx hb dX0_glimpse_1 rfl (lv_at hl 0 rfl) ?_
  refine va_get (D := (dC, dI)) (ci := 0) (v := .int (v 0)) (C := RX0) (T := TX0) (N := 6) hx hb hts hin0 hown hK hP q0 he rfl 0 (by decide) hW0 (fun x9 h9 => u_same hW1 x9 h9) rfl dX0_glimpse_2 ?_
  refine lv_aload_n hx hb dX0_glimpse_5 rfl (lv_at hl 0 rfl) ?_
  refine va_get (D := (dC, dI)) (ci := 0) (v := .int (v 1)) (C := RX0) (T := TX0) (N := 6) hx hb hts hin0 hown hK hP q0 he rfl 1 (by decide) hW2 (fun x9 h9 => u_same hW3 x9 h9) rfl dX0_glimpse_6 ?_
  refine lv_ixor hx hb dX0_glimpse_9 ?_
  refine lv_iand hx hb dX0_glimpse_10 ?_
  exact W.iret (v := (x) &&& ((v 0) ^^^ (v 1))) hx hb hr (fun t ht hW => ⟨(x) &&& ((v 0) ^^^ (v 1)), rfl, (by show (x) &&& ((v 0) ^^^ (v 1)) = see (nI 1) (v 0) (v 1) x; rw [see_1, and_xor32]), ht⟩) (fun _ h => by cases h) dX0_glimpse_11

set_option maxHeartbeats 1200000 in
set_option maxRecDepth 100000 in
theorem c2_glimpse (l : Launch) (dC : Nat → ClassId) (dI : Nat → Nat → Nat) (tys : List (ClassId × FieldType)) (ws : va_W) (q0 b : Nat) (v : Nat → Int32) (he : ws[q0]? = some (b, .inr (2, pF v))) (x : Int32) : Met l yX2_glimpse wsX2_glimpse ({ frames := 0, cells := 0, slots := 0, locals := 0 } : Room) (va_Pc [.ref (b), .int (x)] (fun U => va_P (dC, dI) vwCl ws U.heap ∧ va_K (dC, dI) vwCl tys U)) (vp_Si (fun r => r = see (nI 2) (v 0) (v 1) x)) 0 0 (fun _ => False) := by
  refine Met.ofW (cc := cX2_glimpse) (maxL := 2) (ret := (some .int)) (by decide) rfl ?_
  intro p_ e_ s m args below meth c_0 s₁ B hml hv
  obtain ⟨rfl, hP, hK⟩ := hv
  have hx := B.exec
  have hb := B.bytes
  have hr := B.returns
  have hts := atoms_spec (ws := wsX2_glimpse) B.pre
  have hown : s.vm.findClass RX2 = some m.cls := findClass_of_methodNamed B.named
  have hlocks := B.notSynchronized
  have hP : va_P (dC, dI) vwCl (ws) s.heap := hP
  have hl := lv_entry ([.ref (b), .int (x)]) (n := 2) (Nat.le_of_ble_eq_true rfl)
  rw [lg_entry_eq]
  generalize (lg_sl ([.ref (b), .int (x)]) ++ List.replicate (2 - (lg_sl ([.ref (b), .int (x)])).length) Slot.unset).toArray = ls at hl ⊢
  have hl : lv_has ls 2 [(0, .ref (b)), (1, .int (x))] := hl
  have hin2 : ∀ w ∈ wsX20, w ∈ wsX2_glimpse := fun _ h => List.mem_cons_of_mem _ (List.mem_append_left _ (List.mem_append_left _ (List.mem_append_left _ (List.mem_append_right _ h))))
  have hW0 := hts (.fieldLink RX2 9 "EachEye$Old" "left" "I") (by decide +kernel)
  have hW1 := hts (.sameField "EachEye$Old" "EachEye$Person" "left" "I") (by decide +kernel)
  have hW2 := hts (.fieldLink RX2 15 "EachEye$Old" "right" "I") (by decide +kernel)
  have hW3 := hts (.sameField "EachEye$Old" "EachEye$Person" "right" "I") (by decide +kernel)
  refine lv_iload_n hx hb dX2_glimpse_0 rfl (lv_at hl 1 rfl) ?_
  refine lv_aload_n hx hb dX2_glimpse_1 rfl (lv_at hl 0 rfl) ?_
  refine va_get (D := (dC, dI)) (ci := 2) (v := .int (v 0)) (C := RX2) (T := TX2) (N := 6) hx hb hts hin2 hown hK hP q0 he rfl 0 (by decide) hW0 (fun x9 h9 => u_same hW1 x9 h9) rfl dX2_glimpse_2 ?_
  refine lv_iand hx hb dX2_glimpse_5 ?_
  refine lv_aload_n hx hb dX2_glimpse_6 rfl (lv_at hl 0 rfl) ?_
  refine va_get (D := (dC, dI)) (ci := 2) (v := .int (v 1)) (C := RX2) (T := TX2) (N := 6) hx hb hts hin2 hown hK hP q0 he rfl 1 (by decide) hW2 (fun x9 h9 => u_same hW3 x9 h9) rfl dX2_glimpse_7 ?_
  refine lv_iand hx hb dX2_glimpse_10 ?_
  exact W.iret (v := ((x) &&& (v 0)) &&& (v 1)) hx hb hr (fun t ht hW => ⟨((x) &&& (v 0)) &&& (v 1), rfl, (by show ((x) &&& (v 0)) &&& (v 1) = see (nI 2) (v 0) (v 1) x; rw [see_2, and_and32]), ht⟩) (fun _ h => by cases h) dX2_glimpse_11

set_option maxHeartbeats 1200000 in
set_option maxRecDepth 100000 in
theorem c6_glimpse (l : Launch) (dC : Nat → ClassId) (dI : Nat → Nat → Nat) (tys : List (ClassId × FieldType)) (ws : va_W) (q0 b : Nat) (v : Nat → Int32) (he : ws[q0]? = some (b, .inr (6, pF v))) (x : Int32) : Met l yX6_glimpse wsX6_glimpse ({ frames := 0, cells := 0, slots := 0, locals := 0 } : Room) (va_Pc [.ref (b), .int (x)] (fun U => va_P (dC, dI) vwCl ws U.heap ∧ va_K (dC, dI) vwCl tys U)) (vp_Si (fun r => r = see (nI 3) (v 0) (v 1) x)) 0 0 (fun _ => False) := by
  refine Met.ofW (cc := cX6_glimpse) (maxL := 3) (ret := (some .int)) (by decide) rfl ?_
  intro p_ e_ s m args below meth c_0 s₁ B hml hv
  obtain ⟨rfl, hP, hK⟩ := hv
  have hx := B.exec
  have hb := B.bytes
  have hr := B.returns
  have hts := atoms_spec (ws := wsX6_glimpse) B.pre
  have hown : s.vm.findClass RX6 = some m.cls := findClass_of_methodNamed B.named
  have hlocks := B.notSynchronized
  have hP : va_P (dC, dI) vwCl (ws) s.heap := hP
  have hl := lv_entry ([.ref (b), .int (x)]) (n := 3) (Nat.le_of_ble_eq_true rfl)
  rw [lg_entry_eq]
  generalize (lg_sl ([.ref (b), .int (x)]) ++ List.replicate (3 - (lg_sl ([.ref (b), .int (x)])).length) Slot.unset).toArray = ls at hl ⊢
  have hl : lv_has ls 3 [(0, .ref (b)), (1, .int (x))] := hl
  have hin6 : ∀ w ∈ wsX60, w ∈ wsX6_glimpse := fun _ h => List.mem_cons_of_mem _ (List.mem_append_right _ h)
  have hW0 := hts (.fieldLink RX6 9 "EachEye$Winker" "left" "I") (by decide +kernel)
  have hW1 := hts (.sameField "EachEye$Winker" "EachEye$Person" "left" "I") (by decide +kernel)
  have hW2 := hts (.fieldLink RX6 15 "EachEye$Winker" "right" "I") (by decide +kernel)
  have hW3 := hts (.sameField "EachEye$Winker" "EachEye$Person" "right" "I") (by decide +kernel)
  refine lv_iload_n hx hb dX6_glimpse_0 rfl (lv_at hl 1 rfl) ?_
  refine lv_aload_n hx hb dX6_glimpse_1 rfl (lv_at hl 0 rfl) ?_
  refine va_get (D := (dC, dI)) (ci := 6) (v := .int (v 0)) (C := RX6) (T := TX6) (N := 6) hx hb hts hin6 hown hK hP q0 he rfl 0 (by decide) hW0 (fun x9 h9 => u_same hW1 x9 h9) rfl dX6_glimpse_2 ?_
  refine lv_iand hx hb dX6_glimpse_5 ?_
  refine lv_istore_n (lv' := [(2, .int ((x) &&& (v 0))), (0, .ref (b)), (1, .int (x))]) hx hb dX6_glimpse_6 rfl hl (by decide) rfl (fun ls hl => ?_)
  refine lv_iload_n hx hb dX6_glimpse_7 rfl (lv_at hl 0 rfl) ?_
  refine lv_if_eq (tgt := 15) hx hb dX6_glimpse_8 (by decide) (fun c_1 => ?_) (fun c_1 => ?_)
  · skip
    have c_1 : ((x) &&& (v 0)) = nI 0 := c_1
    refine lv_iload_n hx hb dX6_glimpse_15 rfl (lv_at hl 2 rfl) ?_
    refine lv_aload_n hx hb dX6_glimpse_16 rfl (lv_at hl 1 rfl) ?_
    refine va_get (D := (dC, dI)) (ci := 6) (v := .int (v 1)) (C := RX6) (T := TX6) (N := 6) hx hb hts hin6 hown hK hP q0 he rfl 1 (by decide) hW2 (fun x9 h9 => u_same hW3 x9 h9) rfl dX6_glimpse_17 ?_
    refine lv_iand hx hb dX6_glimpse_20 ?_
    exact W.iret (v := (x) &&& (v 1)) hx hb hr (fun t ht hW => ⟨(x) &&& (v 1), rfl, (by show (x) &&& (v 1) = see (nI 3) (v 0) (v 1) x; rw [see_3]; first | (rw [if_pos c_1]; done) | (rw [if_neg c_1]; done)), ht⟩) (fun _ h => by cases h) dX6_glimpse_21
  · skip
    have c_1 : ¬ ((x) &&& (v 0)) = nI 0 := c_1
    refine lv_iload_n hx hb dX6_glimpse_11 rfl (lv_at hl 0 rfl) ?_
    refine lv_goto (tgt := 21) hx hb dX6_glimpse_12 (by decide) ?_
    exact W.iret (v := (x) &&& (v 0)) hx hb hr (fun t ht hW => ⟨(x) &&& (v 0), rfl, (by show (x) &&& (v 0) = see (nI 3) (v 0) (v 1) x; rw [see_3]; first | (rw [if_pos c_1]; done) | (rw [if_neg c_1]; done)), ht⟩) (fun _ h => by cases h) dX6_glimpse_21

set_option maxHeartbeats 1200000 in
set_option maxRecDepth 100000 in
theorem c5_glimpse (l : Launch) (dC : Nat → ClassId) (dI : Nat → Nat → Nat) (tys : List (ClassId × FieldType)) (ws : va_W) (q0 b : Nat) (v : Nat → Int32) (he : ws[q0]? = some (b, .inr (5, pF v))) (x : Int32) : Met l yX5_glimpse wsX5_glimpse ({ frames := 0, cells := 0, slots := 0, locals := 0 } : Room) (va_Pc [.ref (b), .int (x)] (fun U => va_P (dC, dI) vwCl ws U.heap ∧ va_K (dC, dI) vwCl tys U)) (vp_Si (fun r => r = see (nI 4) (v 0) (v 1) x)) 0 0 (fun _ => False) := by
  refine Met.ofW (cc := cX5_glimpse) (maxL := 2) (ret := (some .int)) (by decide) rfl ?_
  intro p_ e_ s m args below meth c_0 s₁ B hml hv
  obtain ⟨rfl, hP, hK⟩ := hv
  have hx := B.exec
  have hb := B.bytes
  have hr := B.returns
  have hts := atoms_spec (ws := wsX5_glimpse) B.pre
  have hown : s.vm.findClass RX5 = some m.cls := findClass_of_methodNamed B.named
  have hlocks := B.notSynchronized
  have hP : va_P (dC, dI) vwCl (ws) s.heap := hP
  have hl := lv_entry ([.ref (b), .int (x)]) (n := 2) (Nat.le_of_ble_eq_true rfl)
  rw [lg_entry_eq]
  generalize (lg_sl ([.ref (b), .int (x)]) ++ List.replicate (2 - (lg_sl ([.ref (b), .int (x)])).length) Slot.unset).toArray = ls at hl ⊢
  have hl : lv_has ls 2 [(0, .ref (b)), (1, .int (x))] := hl
  have hin5 : ∀ w ∈ wsX50, w ∈ wsX5_glimpse := fun _ h => List.mem_cons_of_mem _ (List.mem_append_left _ (List.mem_append_right _ h))
  have hW0 := hts (.fieldLink RX5 9 "EachEye$Spy" "right" "I") (by decide +kernel)
  have hW1 := hts (.sameField "EachEye$Spy" "EachEye$Person" "right" "I") (by decide +kernel)
  refine lv_iload_n hx hb dX5_glimpse_0 rfl (lv_at hl 1 rfl) ?_
  refine lv_aload_n hx hb dX5_glimpse_1 rfl (lv_at hl 0 rfl) ?_
  refine va_get (D := (dC, dI)) (ci := 5) (v := .int (v 1)) (C := RX5) (T := TX5) (N := 6) hx hb hts hin5 hown hK hP q0 he rfl 1 (by decide) hW0 (fun x9 h9 => u_same hW1 x9 h9) rfl dX5_glimpse_2 ?_
  refine lv_iand hx hb dX5_glimpse_5 ?_
  exact W.iret (v := (x) &&& (v 1)) hx hb hr (fun t ht hW => ⟨(x) &&& (v 1), rfl, (by show (x) &&& (v 1) = see (nI 4) (v 0) (v 1) x; rw [see_4]), ht⟩) (fun _ h => by cases h) dX5_glimpse_6

set_option maxHeartbeats 1200000 in
set_option maxRecDepth 100000 in
theorem c4_kind (l : Launch) (dC : Nat → ClassId) (dI : Nat → Nat → Nat) (tys : List (ClassId × FieldType)) (ws : va_W) (q0 b : Nat) (v : Nat → Int32) (he : ws[q0]? = some (b, .inr (4, pF v))) : Met l yX4_kind wsX4_kind ({ frames := 0, cells := 0, slots := 0, locals := 0 } : Room) (va_Pc [.ref (b)] (fun U => va_P (dC, dI) vwCl ws U.heap ∧ va_K (dC, dI) vwCl tys U)) (vp_Si (fun r => r = nI 0)) 0 0 (fun _ => False) := by
  refine Met.ofW (cc := cX4_kind) (maxL := 1) (ret := (some .int)) (by decide) rfl ?_
  intro p_ e_ s m args below meth c_0 s₁ B hml hv
  obtain ⟨rfl, hP, hK⟩ := hv
  have hx := B.exec
  have hb := B.bytes
  have hr := B.returns
  have hts := atoms_spec (ws := wsX4_kind) B.pre
  have hown : s.vm.findClass RX4 = some m.cls := findClass_of_methodNamed B.named
  have hlocks := B.notSynchronized
  have hP : va_P (dC, dI) vwCl (ws) s.heap := hP
  have hl := lv_entry ([.ref (b)]) (n := 1) (Nat.le_of_ble_eq_true rfl)
  rw [lg_entry_eq]
  generalize (lg_sl ([.ref (b)]) ++ List.replicate (1 - (lg_sl ([.ref (b)])).length) Slot.unset).toArray = ls at hl ⊢
  have hl : lv_has ls 1 [(0, .ref (b))] := hl
  refine lv_iconst (v := nI (0)) hx hb dX4_kind_0 (by decide +kernel) ?_
  exact W.iret (v := nI (0)) hx hb hr (fun t ht hW => ⟨nI (0), rfl, (by show nI (0) = nI 0; rfl), ht⟩) (fun _ h => by cases h) dX4_kind_1

set_option maxHeartbeats 1200000 in
set_option maxRecDepth 100000 in
theorem c0_kind (l : Launch) (dC : Nat → ClassId) (dI : Nat → Nat → Nat) (tys : List (ClassId × FieldType)) (ws : va_W) (q0 b : Nat) (v : Nat → Int32) (he : ws[q0]? = some (b, .inr (0, pF v))) : Met l yX0_kind wsX0_kind ({ frames := 0, cells := 0, slots := 0, locals := 0 } : Room) (va_Pc [.ref (b)] (fun U => va_P (dC, dI) vwCl ws U.heap ∧ va_K (dC, dI) vwCl tys U)) (vp_Si (fun r => r = nI 1)) 0 0 (fun _ => False) := by
  refine Met.ofW (cc := cX0_kind) (maxL := 1) (ret := (some .int)) (by decide) rfl ?_
  intro p_ e_ s m args below meth c_0 s₁ B hml hv
  obtain ⟨rfl, hP, hK⟩ := hv
  have hx := B.exec
  have hb := B.bytes
  have hr := B.returns
  have hts := atoms_spec (ws := wsX0_kind) B.pre
  have hown : s.vm.findClass RX0 = some m.cls := findClass_of_methodNamed B.named
  have hlocks := B.notSynchronized
  have hP : va_P (dC, dI) vwCl (ws) s.heap := hP
  have hl := lv_entry ([.ref (b)]) (n := 1) (Nat.le_of_ble_eq_true rfl)
  rw [lg_entry_eq]
  generalize (lg_sl ([.ref (b)]) ++ List.replicate (1 - (lg_sl ([.ref (b)])).length) Slot.unset).toArray = ls at hl ⊢
  have hl : lv_has ls 1 [(0, .ref (b))] := hl
  refine lv_iconst (v := nI (1)) hx hb dX0_kind_0 (by decide +kernel) ?_
  exact W.iret (v := nI (1)) hx hb hr (fun t ht hW => ⟨nI (1), rfl, (by show nI (1) = nI 1; rfl), ht⟩) (fun _ h => by cases h) dX0_kind_1

set_option maxHeartbeats 1200000 in
set_option maxRecDepth 100000 in
theorem c2_kind (l : Launch) (dC : Nat → ClassId) (dI : Nat → Nat → Nat) (tys : List (ClassId × FieldType)) (ws : va_W) (q0 b : Nat) (v : Nat → Int32) (he : ws[q0]? = some (b, .inr (2, pF v))) : Met l yX2_kind wsX2_kind ({ frames := 0, cells := 0, slots := 0, locals := 0 } : Room) (va_Pc [.ref (b)] (fun U => va_P (dC, dI) vwCl ws U.heap ∧ va_K (dC, dI) vwCl tys U)) (vp_Si (fun r => r = nI 2)) 0 0 (fun _ => False) := by
  refine Met.ofW (cc := cX2_kind) (maxL := 1) (ret := (some .int)) (by decide) rfl ?_
  intro p_ e_ s m args below meth c_0 s₁ B hml hv
  obtain ⟨rfl, hP, hK⟩ := hv
  have hx := B.exec
  have hb := B.bytes
  have hr := B.returns
  have hts := atoms_spec (ws := wsX2_kind) B.pre
  have hown : s.vm.findClass RX2 = some m.cls := findClass_of_methodNamed B.named
  have hlocks := B.notSynchronized
  have hP : va_P (dC, dI) vwCl (ws) s.heap := hP
  have hl := lv_entry ([.ref (b)]) (n := 1) (Nat.le_of_ble_eq_true rfl)
  rw [lg_entry_eq]
  generalize (lg_sl ([.ref (b)]) ++ List.replicate (1 - (lg_sl ([.ref (b)])).length) Slot.unset).toArray = ls at hl ⊢
  have hl : lv_has ls 1 [(0, .ref (b))] := hl
  refine lv_iconst (v := nI (2)) hx hb dX2_kind_0 (by decide +kernel) ?_
  exact W.iret (v := nI (2)) hx hb hr (fun t ht hW => ⟨nI (2), rfl, (by show nI (2) = nI 2; rfl), ht⟩) (fun _ h => by cases h) dX2_kind_1

set_option maxHeartbeats 1200000 in
set_option maxRecDepth 100000 in
theorem c6_kind (l : Launch) (dC : Nat → ClassId) (dI : Nat → Nat → Nat) (tys : List (ClassId × FieldType)) (ws : va_W) (q0 b : Nat) (v : Nat → Int32) (he : ws[q0]? = some (b, .inr (6, pF v))) : Met l yX6_kind wsX6_kind ({ frames := 0, cells := 0, slots := 0, locals := 0 } : Room) (va_Pc [.ref (b)] (fun U => va_P (dC, dI) vwCl ws U.heap ∧ va_K (dC, dI) vwCl tys U)) (vp_Si (fun r => r = nI 3)) 0 0 (fun _ => False) := by
  refine Met.ofW (cc := cX6_kind) (maxL := 1) (ret := (some .int)) (by decide) rfl ?_
  intro p_ e_ s m args below meth c_0 s₁ B hml hv
  obtain ⟨rfl, hP, hK⟩ := hv
  have hx := B.exec
  have hb := B.bytes
  have hr := B.returns
  have hts := atoms_spec (ws := wsX6_kind) B.pre
  have hown : s.vm.findClass RX6 = some m.cls := findClass_of_methodNamed B.named
  have hlocks := B.notSynchronized
  have hP : va_P (dC, dI) vwCl (ws) s.heap := hP
  have hl := lv_entry ([.ref (b)]) (n := 1) (Nat.le_of_ble_eq_true rfl)
  rw [lg_entry_eq]
  generalize (lg_sl ([.ref (b)]) ++ List.replicate (1 - (lg_sl ([.ref (b)])).length) Slot.unset).toArray = ls at hl ⊢
  have hl : lv_has ls 1 [(0, .ref (b))] := hl
  refine lv_iconst (v := nI (3)) hx hb dX6_kind_0 (by decide +kernel) ?_
  exact W.iret (v := nI (3)) hx hb hr (fun t ht hW => ⟨nI (3), rfl, (by show nI (3) = nI 3; rfl), ht⟩) (fun _ h => by cases h) dX6_kind_1

set_option maxHeartbeats 1200000 in
set_option maxRecDepth 100000 in
theorem c5_kind (l : Launch) (dC : Nat → ClassId) (dI : Nat → Nat → Nat) (tys : List (ClassId × FieldType)) (ws : va_W) (q0 b : Nat) (v : Nat → Int32) (he : ws[q0]? = some (b, .inr (5, pF v))) : Met l yX5_kind wsX5_kind ({ frames := 0, cells := 0, slots := 0, locals := 0 } : Room) (va_Pc [.ref (b)] (fun U => va_P (dC, dI) vwCl ws U.heap ∧ va_K (dC, dI) vwCl tys U)) (vp_Si (fun r => r = nI 4)) 0 0 (fun _ => False) := by
  refine Met.ofW (cc := cX5_kind) (maxL := 1) (ret := (some .int)) (by decide) rfl ?_
  intro p_ e_ s m args below meth c_0 s₁ B hml hv
  obtain ⟨rfl, hP, hK⟩ := hv
  have hx := B.exec
  have hb := B.bytes
  have hr := B.returns
  have hts := atoms_spec (ws := wsX5_kind) B.pre
  have hown : s.vm.findClass RX5 = some m.cls := findClass_of_methodNamed B.named
  have hlocks := B.notSynchronized
  have hP : va_P (dC, dI) vwCl (ws) s.heap := hP
  have hl := lv_entry ([.ref (b)]) (n := 1) (Nat.le_of_ble_eq_true rfl)
  rw [lg_entry_eq]
  generalize (lg_sl ([.ref (b)]) ++ List.replicate (1 - (lg_sl ([.ref (b)])).length) Slot.unset).toArray = ls at hl ⊢
  have hl : lv_has ls 1 [(0, .ref (b))] := hl
  refine lv_iconst (v := nI (4)) hx hb dX5_kind_0 (by decide +kernel) ?_
  exact W.iret (v := nI (4)) hx hb hr (fun t ht hW => ⟨nI (4), rfl, (by show nI (4) = nI 4; rfl), ht⟩) (fun _ h => by cases h) dX5_kind_1
