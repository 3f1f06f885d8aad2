set_option maxHeartbeats 1200000 in
set_option maxRecDepth 100000 in
theorem c8_in (l : Launch) (x : Int32) (L_ H_ : Int64) (lo_ hi_ : Int) (hL : L_.toInt = lo_) (hH : H_.toInt = hi_) : Met l yX8_in wsX8_in ({ frames := 0, cells := 0, slots := 0, locals := 0 } : Room) (va_Pc [.long ((x).toInt64), .long (L_), .long (H_)] (fun U => True)) (vp_Si (fun r => r = b2i (lo_ ≤ x.toInt ∧ x.toInt ≤ hi_))) 0 0 (fun _ => False) := by
  refine Met.ofW (cc := cX8_in) (maxL := 6) (ret := (some .boolean)) (by decide) rfl ?_
  intro p_ e_ s m args below meth c_0 s₁ B hml hv
  obtain ⟨rfl, -⟩ := hv
  have hx := B.exec
  have hb := B.bytes
  have hr := B.returns
  have hts := atoms_spec (ws := wsX8_in) B.pre
  have hown : s.vm.findClass RX8 = some m.cls := findClass_of_methodNamed B.named
  have hlocks := B.notSynchronized
  have hl := lv_entry ([.long ((x).toInt64), .long (L_), .long (H_)]) (n := 6) (Nat.le_of_ble_eq_true rfl)
  rw [lg_entry_eq]
  generalize (lg_sl ([.long ((x).toInt64), .long (L_), .long (H_)]) ++ List.replicate (6 - (lg_sl ([.long ((x).toInt64), .long (L_), .long (H_)])).length) Slot.unset).toArray = ls at hl ⊢
  have hl : lv_has ls 6 [(0, .long ((x).toInt64)), (2, .long (L_)), (4, .long (H_))] := hl
  refine lv_lload_n hx hb dX8_in_0 rfl (lv_at hl 0 rfl) ?_
  refine lv_lload_n hx hb dX8_in_1 rfl (lv_at hl 1 rfl) ?_
  refine W.lcmp hx hb dX8_in_2 ?_
  refine lv_if_lt (tgt := 17) hx hb dX8_in_3 (by decide) (fun c_1 => ?_) (fun c_1 => ?_)
  · skip
    have c_1 : _ := (lg_lt0 _ _).mp c_1
    refine lv_iconst (v := nI (0)) hx hb dX8_in_17 (by decide +kernel) ?_
    exact W.zret (ty := .boolean) (v := nI (0)) hx hb hr rfl (fun t ht hW => ⟨nI (0), rfl, (by show nI (0) = b2i (lo_ ≤ x.toInt ∧ x.toInt ≤ hi_); rw [Int32.toInt_toInt64, hL] at c_1; exact b2i_f (by omega)), ht⟩) (fun _ h => by cases h) dX8_in_18
  · skip
    have c_1 : ¬ _ := fun z => c_1 ((lg_lt0 _ _).mpr z)
    refine lv_lload_n hx hb dX8_in_6 rfl (lv_at hl 0 rfl) ?_
    refine lv_lload hx hb dX8_in_7 (lv_at hl 2 rfl) ?_
    refine W.lcmp hx hb dX8_in_9 ?_
    refine lv_if_gt (tgt := 17) hx hb dX8_in_10 (by decide) (fun c_2 => ?_) (fun c_2 => ?_)
    · skip
      have c_2 : _ := (lg_gt0 _ _).mp c_2
      refine lv_iconst (v := nI (0)) hx hb dX8_in_17 (by decide +kernel) ?_
      exact W.zret (ty := .boolean) (v := nI (0)) hx hb hr rfl (fun t ht hW => ⟨nI (0), rfl, (by show nI (0) = b2i (lo_ ≤ x.toInt ∧ x.toInt ≤ hi_); rw [Int32.toInt_toInt64, hL] at c_1; rw [Int32.toInt_toInt64, hH] at c_2; exact b2i_f (by omega)), ht⟩) (fun _ h => by cases h) dX8_in_18
    · skip
      have c_2 : ¬ _ := fun z => c_2 ((lg_gt0 _ _).mpr z)
      refine lv_iconst (v := nI (1)) hx hb dX8_in_13 (by decide +kernel) ?_
      refine lv_goto (tgt := 18) hx hb dX8_in_14 (by decide) ?_
      exact W.zret (ty := .boolean) (v := nI (1)) hx hb hr rfl (fun t ht hW => ⟨nI (1), rfl, (by show nI (1) = b2i (lo_ ≤ x.toInt ∧ x.toInt ≤ hi_); rw [Int32.toInt_toInt64, hL] at c_1; rw [Int32.toInt_toInt64, hH] at c_2; exact b2i_t ⟨by omega, by omega⟩), ht⟩) (fun _ h => by cases h) dX8_in_18

set_option maxHeartbeats 1200000 in
set_option maxRecDepth 100000 in
theorem c8_isHue (l : Launch) (x : Int32) : Met l yX8_isHue wsX8_isHue ({ frames := 1, cells := 0, slots := 0, locals := 25 } : Room) (va_Pc [.int (x)] (fun U => True)) (vp_Si (fun r => r = b2i (0 ≤ x.toInt ∧ x.toInt ≤ 7))) 0 0 (fun _ => False) := by
  refine Met.ofW (cc := cX8_isHue) (maxL := 1) (ret := (some .boolean)) (by decide) rfl ?_
  intro p_ e_ s m args below meth c_0 s₁ B hml hv
  obtain ⟨rfl, -⟩ := hv
  have hx := B.exec
  have hb := B.bytes
  have hr := B.returns
  have hts := atoms_spec (ws := wsX8_isHue) B.pre
  have hown : s.vm.findClass RX8 = some m.cls := findClass_of_methodNamed B.named
  have hlocks := B.notSynchronized
  have hl := lv_entry ([.int (x)]) (n := 1) (Nat.le_of_ble_eq_true rfl)
  rw [lg_entry_eq]
  generalize (lg_sl ([.int (x)]) ++ List.replicate (1 - (lg_sl ([.int (x)])).length) Slot.unset).toArray = ls at hl ⊢
  have hl : lv_has ls 1 [(0, .int (x))] := hl
  have hW0 := hts (.constantLong RX8 44 (7)) (by decide +kernel)
  refine lv_iload_n hx hb dX8_isHue_0 rfl (lv_at hl 0 rfl) ?_
  refine lv_i2l hx hb dX8_isHue_1 rfl ?_
  refine lv_lconst (v := 0) hx hb dX8_isHue_2 (by decide +kernel) ?_
  refine lv_ldc2 (v := 7) hx hb hown hW0 dX8_isHue_3 ?_
  refine vp_callSi (va_Run.run (va_runS (As := [.long ((x).toInt64), .long (0), .long (7)]) (rest := []) ⟨hx, hb, hml, hown, hts⟩ (c8_in l (x) (0) (7) (0) (7) rfl rfl) (va_cwS 3 hts gX8_isHue_X8_in rfl rfl rfl (by decide +kernel) ⟨Nat.le_of_ble_eq_true rfl, Nat.le_of_ble_eq_true rfl⟩) ⟨fun _ _ _ _ q => q, fun U hU hW => ⟨rfl, trivial⟩⟩ rfl rfl hl.1 rfl (lv_room (Nat.le_of_ble_eq_true rfl)) dX8_isHue_6 ⟨Nat.le_of_ble_eq_true rfl, Nat.le_of_ble_eq_true rfl⟩)) (fun r hrc => ?_)
  have hrc : r = b2i ((0) ≤ (x).toInt ∧ (x).toInt ≤ (7)) := hrc
  subst hrc
  exact W.zret (ty := .boolean) (v := b2i ((0) ≤ (x).toInt ∧ (x).toInt ≤ (7))) hx hb hr nar_b2i (fun t ht hW => ⟨b2i ((0) ≤ (x).toInt ∧ (x).toInt ≤ (7)), rfl, (by show b2i ((0) ≤ (x).toInt ∧ (x).toInt ≤ (7)) = b2i (0 ≤ x.toInt ∧ x.toInt ≤ 7); rfl), ht⟩) (fun _ h => by cases h) dX8_isHue_9

set_option maxHeartbeats 1200000 in
set_option maxRecDepth 100000 in
theorem c8_seenBy (l : Launch) (k v1 v2 v3 : Int32) : Met l yX8_seenBy wsX8_seenBy ({ frames := 0, cells := 0, slots := 0, locals := 0 } : Room) (va_Pc [.int (k), .int (v1), .int (v2), .int (v3)] (fun U => True)) (vp_Si (fun r => r = see k v1 v2 v3)) 0 0 (fun _ => False) := by
  refine Met.ofW (cc := cX8_seenBy) (maxL := 6) (ret := (some .int)) (by decide) rfl ?_
  intro p_ e_ s m args below meth c_0 s₁ B hml hv
  obtain ⟨rfl, -⟩ := hv
  have hx := B.exec
  have hb := B.bytes
  have hr := B.returns
  have hts := atoms_spec (ws := wsX8_seenBy) B.pre
  have hown : s.vm.findClass RX8 = some m.cls := findClass_of_methodNamed B.named
  have hlocks := B.notSynchronized
  have hl := lv_entry ([.int (k), .int (v1), .int (v2), .int (v3)]) (n := 6) (Nat.le_of_ble_eq_true rfl)
  rw [lg_entry_eq]
  generalize (lg_sl ([.int (k), .int (v1), .int (v2), .int (v3)]) ++ List.replicate (6 - (lg_sl ([.int (k), .int (v1), .int (v2), .int (v3)])).length) Slot.unset).toArray = ls at hl ⊢
  have hl : lv_has ls 6 [(0, .int (k)), (1, .int (v1)), (2, .int (v2)), (3, .int (v3))] := hl
  refine lv_iload_n hx hb dX8_seenBy_0 rfl (lv_at hl 3 rfl) ?_
  refine lv_iload_n hx hb dX8_seenBy_1 rfl (lv_at hl 1 rfl) ?_
  refine lv_iand hx hb dX8_seenBy_2 ?_
  refine lv_istore (lv' := [(4, .int ((v3) &&& (v1))), (0, .int (k)), (1, .int (v1)), (2, .int (v2)), (3, .int (v3))]) hx hb dX8_seenBy_3 hl (by decide) rfl (fun ls hl => ?_)
  refine lv_iload_n hx hb dX8_seenBy_5 rfl (lv_at hl 4 rfl) ?_
  refine lv_iload_n hx hb dX8_seenBy_6 rfl (lv_at hl 3 rfl) ?_
  refine lv_iand hx hb dX8_seenBy_7 ?_
  refine lv_istore (lv' := [(5, .int ((v3) &&& (v2))), (4, .int ((v3) &&& (v1))), (0, .int (k)), (1, .int (v1)), (2, .int (v2)), (3, .int (v3))]) hx hb dX8_seenBy_8 hl (by decide) rfl (fun ls hl => ?_)
  refine lv_iload_n hx hb dX8_seenBy_10 rfl (lv_at hl 2 rfl) ?_
  by_cases c_1 : (k).toInt = 0
  · skip
    refine lv_tableIn (tgt := 40) hx hb dX8_seenBy_11 (by omega) (by omega) (by rw [c_1]; rfl) (by decide) ?_
    refine lv_iload hx hb dX8_seenBy_40 (lv_at hl 1 rfl) ?_
    refine lv_iload hx hb dX8_seenBy_42 (lv_at hl 0 rfl) ?_
    refine lv_ior hx hb dX8_seenBy_44 ?_
    exact W.iret (v := ((v3) &&& (v1)) ||| ((v3) &&& (v2))) hx hb hr (fun t ht hW => ⟨((v3) &&& (v1)) ||| ((v3) &&& (v2)), rfl, (by show ((v3) &&& (v1)) ||| ((v3) &&& (v2)) = see k v1 v2 v3; first | (simp only [see, if_pos c_1]; done) | (simp only [see, if_pos c_1]; rfl) | rfl | (simp [see, if_pos c_1]; done)), ht⟩) (fun _ h => by cases h) dX8_seenBy_45
  · skip
    by_cases c_2 : (k).toInt = 1
    · skip
      refine lv_tableIn (tgt := 46) hx hb dX8_seenBy_11 (by omega) (by omega) (by rw [c_2]; rfl) (by decide) ?_
      refine lv_iload hx hb dX8_seenBy_46 (lv_at hl 1 rfl) ?_
      refine lv_iload hx hb dX8_seenBy_48 (lv_at hl 0 rfl) ?_
      refine lv_ixor hx hb dX8_seenBy_50 ?_
      exact W.iret (v := ((v3) &&& (v1)) ^^^ ((v3) &&& (v2))) hx hb hr (fun t ht hW => ⟨((v3) &&& (v1)) ^^^ ((v3) &&& (v2)), rfl, (by show ((v3) &&& (v1)) ^^^ ((v3) &&& (v2)) = see k v1 v2 v3; first | (simp only [see, if_neg c_1, if_pos c_2]; done) | (simp only [see, if_neg c_1, if_pos c_2]; rfl) | rfl | (simp [see, if_neg c_1, if_pos c_2]; done)), ht⟩) (fun _ h => by cases h) dX8_seenBy_51
    · skip
      by_cases c_3 : (k).toInt = 2
      · skip
        refine lv_tableIn (tgt := 52) hx hb dX8_seenBy_11 (by omega) (by omega) (by rw [c_3]; rfl) (by decide) ?_
        refine lv_iload hx hb dX8_seenBy_52 (lv_at hl 1 rfl) ?_
        refine lv_iload hx hb dX8_seenBy_54 (lv_at hl 0 rfl) ?_
        refine lv_iand hx hb dX8_seenBy_56 ?_
        exact W.iret (v := ((v3) &&& (v1)) &&& ((v3) &&& (v2))) hx hb hr (fun t ht hW => ⟨((v3) &&& (v1)) &&& ((v3) &&& (v2)), rfl, (by show ((v3) &&& (v1)) &&& ((v3) &&& (v2)) = see k v1 v2 v3; first | (simp only [see, if_neg c_1, if_neg c_2, if_pos c_3]; done) | (simp only [see, if_neg c_1, if_neg c_2, if_pos c_3]; rfl) | rfl | (simp [see, if_neg c_1, if_neg c_2, if_pos c_3]; done)), ht⟩) (fun _ h => by cases h) dX8_seenBy_57
      · skip
        by_cases c_4 : (k).toInt = 3
        · skip
          refine lv_tableIn (tgt := 58) hx hb dX8_seenBy_11 (by omega) (by omega) (by rw [c_4]; rfl) (by decide) ?_
          refine lv_iload hx hb dX8_seenBy_58 (lv_at hl 1 rfl) ?_
          refine lv_if_ne (tgt := 68) hx hb dX8_seenBy_60 (by decide) (fun c_5 => ?_) (fun c_5 => ?_)
          · skip
            have c_5 : ¬ ((v3) &&& (v1)) = nI 0 := c_5
            refine lv_iload hx hb dX8_seenBy_68 (lv_at hl 1 rfl) ?_
            exact W.iret (v := (v3) &&& (v1)) hx hb hr (fun t ht hW => ⟨(v3) &&& (v1), rfl, (by show (v3) &&& (v1) = see k v1 v2 v3; first | (simp only [see, if_neg c_1, if_neg c_2, if_neg c_3, if_pos c_4, if_neg c_5]; done) | (simp only [see, if_neg c_1, if_neg c_2, if_neg c_3, if_pos c_4, if_neg c_5]; rfl) | rfl | (simp [see, if_neg c_1, if_neg c_2, if_neg c_3, if_pos c_4, if_neg c_5]; done)), ht⟩) (fun _ h => by cases h) dX8_seenBy_70
          · skip
            have c_5 : ((v3) &&& (v1)) = nI 0 := c_5
            refine lv_iload hx hb dX8_seenBy_63 (lv_at hl 0 rfl) ?_
            refine lv_goto (tgt := 70) hx hb dX8_seenBy_65 (by decide) ?_
            exact W.iret (v := (v3) &&& (v2)) hx hb hr (fun t ht hW => ⟨(v3) &&& (v2), rfl, (by show (v3) &&& (v2) = see k v1 v2 v3; first | (simp only [see, if_neg c_1, if_neg c_2, if_neg c_3, if_pos c_4, if_pos c_5]; done) | (simp only [see, if_neg c_1, if_neg c_2, if_neg c_3, if_pos c_4, if_pos c_5]; rfl) | rfl | (simp [see, if_neg c_1, if_neg c_2, if_neg c_3, if_pos c_4, if_pos c_5]; done)), ht⟩) (fun _ h => by cases h) dX8_seenBy_70
        · skip
          refine lv_tableOut (tgt := 71) hx hb dX8_seenBy_11 (by omega) (by decide) ?_
          refine lv_iload hx hb dX8_seenBy_71 (lv_at hl 0 rfl) ?_
          exact W.iret (v := (v3) &&& (v2)) hx hb hr (fun t ht hW => ⟨(v3) &&& (v2), rfl, (by show (v3) &&& (v2) = see k v1 v2 v3; first | (simp only [see, if_neg c_1, if_neg c_2, if_neg c_3, if_neg c_4]; done) | (simp only [see, if_neg c_1, if_neg c_2, if_neg c_3, if_neg c_4]; rfl) | rfl | (simp [see, if_neg c_1, if_neg c_2, if_neg c_3, if_neg c_4]; done)), ht⟩) (fun _ h => by cases h) dX8_seenBy_73

set_option maxHeartbeats 1200000 in
set_option maxRecDepth 100000 in
theorem c8_ones (l : Launch) (x : Int32) : Met l yX8_ones wsX8_ones ({ frames := 0, cells := 0, slots := 0, locals := 0 } : Room) (va_Pc [.int (x)] (fun U => True)) (vp_Si (fun r => r = sm (fun j => (x >>> (nI j &&& 31)) &&& 1) 5)) 0 0 (fun _ => False) := by
  refine Met.ofW (cc := cX8_ones) (maxL := 3) (ret := (some .int)) (by decide) rfl ?_
  intro p_ e_ s m args below meth c_0 s₁ B hml hv
  obtain ⟨rfl, -⟩ := hv
  have hx := B.exec
  have hb := B.bytes
  have hr := B.returns
  have hts := atoms_spec (ws := wsX8_ones) B.pre
  have hown : s.vm.findClass RX8 = some m.cls := findClass_of_methodNamed B.named
  have hlocks := B.notSynchronized
  have hl := lv_entry ([.int (x)]) (n := 3) (Nat.le_of_ble_eq_true rfl)
  rw [lg_entry_eq]
  generalize (lg_sl ([.int (x)]) ++ List.replicate (3 - (lg_sl ([.int (x)])).length) Slot.unset).toArray = ls at hl ⊢
  have hl : lv_has ls 3 [(0, .int (x))] := hl
  refine lv_iconst (v := nI (0)) hx hb dX8_ones_0 (by decide +kernel) ?_
  refine lv_istore_n (lv' := [(1, .int (nI (0))), (0, .int (x))]) hx hb dX8_ones_1 rfl hl (by decide) rfl (fun ls hl => ?_)
  refine lv_iconst (v := nI (0)) hx hb dX8_ones_2 (by decide +kernel) ?_
  refine lv_istore_n (lv' := [(2, .int (nI (0))), (1, .int (nI (0))), (0, .int (x))]) hx hb dX8_ones_3 rfl hl (by decide) rfl (fun ls hl => ?_)
  have e0_1 : (nI (0)) = sm (fun j => (x >>> (nI j &&& 31)) &&& 1) 0 := rfl
  refine lp_ro (fun k : Nat => 5 - k) (fun k : Nat => k ≤ 5) (fun k : Nat => [(0, .int (x)), (1, .int (sm (fun j => (x >>> (nI j &&& 31)) &&& 1) k)), (2, .int (nI (k)))]) (0) (by omega) (by show lv_has ls 3 [(0, .int (x)), (1, .int (sm (fun j => (x >>> (nI j &&& 31)) &&& 1) 0)), (2, .int (nI (0)))]; rw [← e0_1]; exact lv_sub hl [2, 1, 0] rfl) (fun k hI ih_4 ls hl => ?_)
  have hI : k ≤ 5 := hI
  have hl : lv_has ls 3 [(0, .int (x)), (1, .int (sm (fun j => (x >>> (nI j &&& 31)) &&& 1) k)), (2, .int (nI (k)))] := hl
  refine lv_iload_n hx hb dX8_ones_4 rfl (lv_at hl 2 rfl) ?_
  refine lv_iconst (v := nI (5)) hx hb dX8_ones_5 (by decide +kernel) ?_
  refine lv_icmp_ge (tgt := 23) hx hb dX8_ones_6 (by decide) (fun c_1 => ?_) (fun c_1 => ?_)
  · skip
    rw [nI_leI (a := 5) (b := k) (by omega) (by omega)] at c_1
    have hE : 5 = k := by omega
    subst hE
    refine lv_iload_n hx hb dX8_ones_23 rfl (lv_at hl 1 rfl) ?_
    exact W.iret (v := sm (fun j => (x >>> (nI j &&& 31)) &&& 1) 5) hx hb hr (fun t ht hW => ⟨sm (fun j => (x >>> (nI j &&& 31)) &&& 1) 5, rfl, (by show sm (fun j => (x >>> (nI j &&& 31)) &&& 1) 5 = sm (fun j => (x >>> (nI j &&& 31)) &&& 1) 5; first | (simp only [if_pos c_1]; done) | (simp only [if_pos c_1]; rfl) | rfl | (simp [if_pos c_1]; done)), ht⟩) (fun _ h => by cases h) dX8_ones_24
  · skip
    rw [nI_leI (a := 5) (b := k) (by omega) (by omega)] at c_1
    refine lv_iload_n hx hb dX8_ones_9 rfl (lv_at hl 1 rfl) ?_
    refine lv_iload_n hx hb dX8_ones_10 rfl (lv_at hl 0 rfl) ?_
    refine lv_iload_n hx hb dX8_ones_11 rfl (lv_at hl 2 rfl) ?_
    refine lv_ishr hx hb dX8_ones_12 ?_
    refine lv_iconst (v := nI (1)) hx hb dX8_ones_13 (by decide +kernel) ?_
    refine lv_iand hx hb dX8_ones_14 ?_
    refine lv_iadd hx hb dX8_ones_15 ?_
    refine lv_istore_n (lv' := [(1, .int ((sm (fun j => (x >>> (nI j &&& 31)) &&& 1) k) + (((x) >>> ((nI (k)) &&& 31)) &&& (nI (1))))), (0, .int (x)), (2, .int (nI (k)))]) hx hb dX8_ones_16 rfl hl (by decide) rfl (fun ls hl => ?_)
    refine lv_iinc (v := nI (k + 1)) (lv' := [(2, .int (nI (k + 1))), (1, .int ((sm (fun j => (x >>> (nI j &&& 31)) &&& 1) k) + (((x) >>> ((nI (k)) &&& 31)) &&& (nI (1))))), (0, .int (x))]) hx hb dX8_ones_17 hl (k := 2) rfl (nI_1 _) (by decide) rfl (fun ls hl => ?_)
    refine lv_goto (tgt := 4) hx hb dX8_ones_20 (by decide) ?_
    have e1_1 : ((sm (fun j => (x >>> (nI j &&& 31)) &&& 1) k) + (((x) >>> ((nI (k)) &&& 31)) &&& (nI (1)))) = sm (fun j => (x >>> (nI j &&& 31)) &&& 1) (k + 1) := by first | rfl | (simp only [sm, alB, if_neg c_1]; done) | (simp only [sm, alB, if_neg c_1]; rfl) | (simp [sm, alB, if_neg c_1]; done)
    exact ih_4 (k + 1) ls (by show _ < _; omega) (by show _; omega) (by show lv_has ls 3 [(0, .int (x)), (1, .int (sm (fun j => (x >>> (nI j &&& 31)) &&& 1) (k + 1))), (2, .int (nI ((k + 1))))]; rw [← e1_1]; exact lv_sub hl [2, 1, 0] rfl)

set_option maxHeartbeats 1200000 in
set_option maxRecDepth 100000 in
theorem c8_parts (l : Launch) (x : Int32) : Met l yX8_parts wsX8_parts ({ frames := 0, cells := 0, slots := 0, locals := 0 } : Room) (va_Pc [.int (x)] (fun U => True)) (vp_Si (fun r => r = ((x &&& 1) + ((x >>> ((1 : Int32) &&& 31)) &&& 1)) + ((x >>> ((2 : Int32) &&& 31)) &&& 1))) 0 0 (fun _ => False) := by
  refine Met.ofW (cc := cX8_parts) (maxL := 1) (ret := (some .int)) (by decide) rfl ?_
  intro p_ e_ s m args below meth c_0 s₁ B hml hv
  obtain ⟨rfl, -⟩ := hv
  have hx := B.exec
  have hb := B.bytes
  have hr := B.returns
  have hts := atoms_spec (ws := wsX8_parts) B.pre
  have hown : s.vm.findClass RX8 = some m.cls := findClass_of_methodNamed B.named
  have hlocks := B.notSynchronized
  have hl := lv_entry ([.int (x)]) (n := 1) (Nat.le_of_ble_eq_true rfl)
  rw [lg_entry_eq]
  generalize (lg_sl ([.int (x)]) ++ List.replicate (1 - (lg_sl ([.int (x)])).length) Slot.unset).toArray = ls at hl ⊢
  have hl : lv_has ls 1 [(0, .int (x))] := hl
  refine lv_iload_n hx hb dX8_parts_0 rfl (lv_at hl 0 rfl) ?_
  refine lv_iconst (v := nI (1)) hx hb dX8_parts_1 (by decide +kernel) ?_
  refine lv_iand hx hb dX8_parts_2 ?_
  refine lv_iload_n hx hb dX8_parts_3 rfl (lv_at hl 0 rfl) ?_
  refine lv_iconst (v := nI (1)) hx hb dX8_parts_4 (by decide +kernel) ?_
  refine lv_ishr hx hb dX8_parts_5 ?_
  refine lv_iconst (v := nI (1)) hx hb dX8_parts_6 (by decide +kernel) ?_
  refine lv_iand hx hb dX8_parts_7 ?_
  refine lv_iadd hx hb dX8_parts_8 ?_
  refine lv_iload_n hx hb dX8_parts_9 rfl (lv_at hl 0 rfl) ?_
  refine lv_iconst (v := nI (2)) hx hb dX8_parts_10 (by decide +kernel) ?_
  refine lv_ishr hx hb dX8_parts_11 ?_
  refine lv_iconst (v := nI (1)) hx hb dX8_parts_12 (by decide +kernel) ?_
  refine lv_iand hx hb dX8_parts_13 ?_
  refine lv_iadd hx hb dX8_parts_14 ?_
  exact W.iret (v := (((x) &&& (nI (1))) + (((x) >>> ((nI (1)) &&& 31)) &&& (nI (1)))) + (((x) >>> ((nI (2)) &&& 31)) &&& (nI (1)))) hx hb hr (fun t ht hW => ⟨(((x) &&& (nI (1))) + (((x) >>> ((nI (1)) &&& 31)) &&& (nI (1)))) + (((x) >>> ((nI (2)) &&& 31)) &&& (nI (1))), rfl, (by show (((x) &&& (nI (1))) + (((x) >>> ((nI (1)) &&& 31)) &&& (nI (1)))) + (((x) >>> ((nI (2)) &&& 31)) &&& (nI (1))) = ((x &&& 1) + ((x >>> ((1 : Int32) &&& 31)) &&& 1)) + ((x >>> ((2 : Int32) &&& 31)) &&& 1); rfl), ht⟩) (fun _ h => by cases h) dX8_parts_15

set_option maxHeartbeats 1200000 in
set_option maxRecDepth 100000 in
theorem c8_seenByCode (l : Launch) (k : Nat) (hk : k < 320) (x : Int32) : Met l yX8_seenByCode wsX8_seenByCode ({ frames := 1, cells := 0, slots := 0, locals := 25 } : Room) (va_Pc [.int (nI (k)), .int (x)] (fun U => True)) (vp_Si (fun r => r = see (nI (k / 64)) (nI (k / 8 % 8)) (nI (k % 8)) x)) 0 0 (fun _ => False) := by
  refine Met.ofW (cc := cX8_seenByCode) (maxL := 2) (ret := (some .int)) (by decide) rfl ?_
  intro p_ e_ s m args below meth c_0 s₁ B hml hv
  obtain ⟨rfl, -⟩ := hv
  have hx := B.exec
  have hb := B.bytes
  have hr := B.returns
  have hts := atoms_spec (ws := wsX8_seenByCode) B.pre
  have hown : s.vm.findClass RX8 = some m.cls := findClass_of_methodNamed B.named
  have hlocks := B.notSynchronized
  have hl := lv_entry ([.int (nI (k)), .int (x)]) (n := 2) (Nat.le_of_ble_eq_true rfl)
  rw [lg_entry_eq]
  generalize (lg_sl ([.int (nI (k)), .int (x)]) ++ List.replicate (2 - (lg_sl ([.int (nI (k)), .int (x)])).length) Slot.unset).toArray = ls at hl ⊢
  have hl : lv_has ls 2 [(0, .int (nI (k))), (1, .int (x))] := hl
  refine lv_iload_n hx hb dX8_seenByCode_0 rfl (lv_at hl 0 rfl) ?_
  refine lv_bipush (v := nI (64)) hx hb dX8_seenByCode_1 (by decide +kernel) ?_
  refine lv_idiv hx hb dX8_seenByCode_3 (by decide +kernel) ?_
  refine tv (pk_div (a := k) (d := 64) (by omega) (by decide) (by decide)) ?_
  refine lv_iload_n hx hb dX8_seenByCode_4 rfl (lv_at hl 0 rfl) ?_
  refine lv_bipush (v := nI (8)) hx hb dX8_seenByCode_5 (by decide +kernel) ?_
  refine lv_idiv hx hb dX8_seenByCode_7 (by decide +kernel) ?_
  refine tv (pk_div (a := k) (d := 8) (by omega) (by decide) (by decide)) ?_
  refine lv_bipush (v := nI (8)) hx hb dX8_seenByCode_8 (by decide +kernel) ?_
  refine lv_irem hx hb dX8_seenByCode_10 (by decide +kernel) ?_
  refine tv (pk_rem (a := (k) / 8) (d := 8) (by omega) (by decide) (by decide)) ?_
  refine lv_iload_n hx hb dX8_seenByCode_11 rfl (lv_at hl 0 rfl) ?_
  refine lv_bipush (v := nI (8)) hx hb dX8_seenByCode_12 (by decide +kernel) ?_
  refine lv_irem hx hb dX8_seenByCode_14 (by decide +kernel) ?_
  refine tv (pk_rem (a := k) (d := 8) (by omega) (by decide) (by decide)) ?_
  refine lv_iload_n hx hb dX8_seenByCode_15 rfl (lv_at hl 1 rfl) ?_
  refine vp_callSi (va_Run.run (va_runS (As := [.int (nI ((k) / 64)), .int (nI (((k) / 8) % 8)), .int (nI ((k) % 8)), .int (x)]) (rest := []) ⟨hx, hb, hml, hown, hts⟩ (c8_seenBy l (nI ((k) / 64)) (nI (((k) / 8) % 8)) (nI ((k) % 8)) (x)) (va_cwS 4 hts gX8_seenByCode_X8_seenBy rfl rfl rfl (by decide +kernel) ⟨Nat.le_of_ble_eq_true rfl, Nat.le_of_ble_eq_true rfl⟩) ⟨fun _ _ _ _ q => q, fun U hU hW => ⟨rfl, trivial⟩⟩ rfl rfl hl.1 rfl (lv_room (Nat.le_of_ble_eq_true rfl)) dX8_seenByCode_16 ⟨Nat.le_of_ble_eq_true rfl, Nat.le_of_ble_eq_true rfl⟩)) (fun r hrc => ?_)
  have hrc : r = see (nI ((k) / 64)) (nI (((k) / 8) % 8)) (nI ((k) % 8)) (x) := hrc
  subst hrc
  exact W.iret (v := see (nI ((k) / 64)) (nI (((k) / 8) % 8)) (nI ((k) % 8)) (x)) hx hb hr (fun t ht hW => ⟨see (nI ((k) / 64)) (nI (((k) / 8) % 8)) (nI ((k) % 8)) (x), rfl, (by show see (nI ((k) / 64)) (nI (((k) / 8) % 8)) (nI ((k) % 8)) (x) = see (nI (k / 64)) (nI (k / 8 % 8)) (nI (k % 8)) x; rfl), ht⟩) (fun _ h => by cases h) dX8_seenByCode_19
