set_option maxHeartbeats 1200000 in
set_option maxRecDepth 100000 in
theorem c8_isReadAt (l : Launch) (dC : Nat → ClassId) (dI : Nat → Nat → Nat) (cI : ClassId) (a : Nat) (o : Nat → Nat) (f : Nat → Int32) (g : Nat → Nat → Int32) (h : Int64) {k6 : Nat} (e6 : f 6 = nI k6) (b6 : k6 ≤ 4) (x : Int32) (c : Nat) (hc : c < 6) : Met l yX8_isReadAt wsX8_isReadAt ({ frames := 2, cells := 0, slots := 0, locals := 47 } : Room) (va_Pc [.ref (a), .int (nI (c)), .int (x)] (fun U => va_P (dC, dI) vwCl (mW cI a o f g h) U.heap ∧ va_K (dC, dI) vwCl [(cI, .int)] U)) (vp_Si (fun r => r = b2i (mRead g k6 c x = true))) 0 0 (fun _ => False) := by
  refine Met.ofW (cc := cX8_isReadAt) (maxL := 5) (ret := (some .boolean)) (by decide) rfl ?_
  intro p_ e_ s m args below meth c_0 s₁ B hml hv
  obtain ⟨rfl, hP, hK⟩ := hv
  have hx := B.exec
  have hb := B.bytes
  have hr := B.returns
  have hts := atoms_spec (ws := wsX8_isReadAt) B.pre
  have hown : s.vm.findClass RX8 = some m.cls := findClass_of_methodNamed B.named
  have hlocks := B.notSynchronized
  have hP : va_P (dC, dI) vwCl (mW cI a o f g h) s.heap := hP
  have hl := lv_entry ([.ref (a), .int (nI (c)), .int (x)]) (n := 5) (Nat.le_of_ble_eq_true rfl)
  rw [lg_entry_eq]
  generalize (lg_sl ([.ref (a), .int (nI (c)), .int (x)]) ++ List.replicate (5 - (lg_sl ([.ref (a), .int (nI (c)), .int (x)])).length) Slot.unset).toArray = ls at hl ⊢
  have hl : lv_has ls 5 [(0, .ref (a)), (1, .int (nI (c))), (2, .int (x))] := hl
  have hin8 : ∀ w ∈ wsX80, w ∈ wsX8_isReadAt := fun _ h => List.mem_cons_of_mem _ (List.mem_append_right _ h)
  have hW0 := hts (.fieldLink RX8 71 "EachEyeModel" "people" "I") (by decide +kernel)
  have hW1 := hts (.fieldLink RX8 16 "EachEyeModel" "rows" "[I") (by decide +kernel)
  refine lv_iconst (v := nI (1)) hx hb dX8_isReadAt_0 (by decide +kernel) ?_
  refine lv_istore_n (lv' := [(3, .int (nI (1))), (0, .ref (a)), (1, .int (nI (c))), (2, .int (x))]) hx hb dX8_isReadAt_1 rfl hl (by decide) rfl (fun ls hl => ?_)
  refine lv_iconst (v := nI (0)) hx hb dX8_isReadAt_2 (by decide +kernel) ?_
  refine lv_istore (lv' := [(4, .int (nI (0))), (3, .int (nI (1))), (0, .ref (a)), (1, .int (nI (c))), (2, .int (x))]) hx hb dX8_isReadAt_3 hl (by decide) rfl (fun ls hl => ?_)
  have e0_3 : (nI (1)) = b2i (alB (mRd g c x) 0 = true) := b2i_t rfl
  refine lp_ro (fun k : Nat => k6 - k) (fun k : Nat => k ≤ k6) (fun k : Nat => [(0, .ref (a)), (1, .int (nI (c))), (2, .int (x)), (3, .int (b2i (alB (mRd g c x) k = true))), (4, .int (nI (k)))]) (0) (by omega) (by show lv_has ls 5 [(0, .ref (a)), (1, .int (nI (c))), (2, .int (x)), (3, .int (b2i (alB (mRd g c x) 0 = true))), (4, .int (nI (0)))]; rw [← e0_3]; exact lv_sub hl [2, 3, 4, 1, 0] rfl) (fun k hI ih_5 ls hl => ?_)
  have hI : k ≤ k6 := hI
  have hl : lv_has ls 5 [(0, .ref (a)), (1, .int (nI (c))), (2, .int (x)), (3, .int (b2i (alB (mRd g c x) k = true))), (4, .int (nI (k)))] := hl
  refine lv_iload hx hb dX8_isReadAt_5 (lv_at hl 4 rfl) ?_
  refine lv_aload_n hx hb dX8_isReadAt_7 rfl (lv_at hl 0 rfl) ?_
  refine va_get (D := (dC, dI)) (ci := 8) (v := .int (nI (k6))) (C := RX8) (T := TX8) (N := 25) hx hb hts hin8 hown hK hP 0 rfl rfl 6 (by decide) hW0 (fun _ h9 => h9) (congrArg (fun z => some (Value.int z)) e6) dX8_isReadAt_8 ?_
  refine lv_icmp_ge (tgt := 69) hx hb dX8_isReadAt_11 (by decide) (fun c_1 => ?_) (fun c_1 => ?_)
  · skip
    rw [nI_leI (a := k6) (b := k) (by omega) (by omega)] at c_1
    have hE : k6 = k := by omega
    subst hE
    refine lv_iload_n hx hb dX8_isReadAt_69 rfl (lv_at hl 3 rfl) ?_
    exact W.zret (ty := .boolean) (v := b2i (alB (mRd g c x) k6 = true)) hx hb hr nar_b2i (fun t ht hW => ⟨b2i (alB (mRd g c x) k6 = true), rfl, (by show b2i (alB (mRd g c x) k6 = true) = b2i (mRead g k6 c x = true); rfl), ht⟩) (fun _ h => by cases h) dX8_isReadAt_70
  · skip
    rw [nI_leI (a := k6) (b := k) (by omega) (by omega)] at c_1
    refine lv_iload_n hx hb dX8_isReadAt_14 rfl (lv_at hl 3 rfl) ?_
    refine lv_if_eq (tgt := 61) hx hb dX8_isReadAt_15 (by decide) (fun c_2 => ?_) (fun c_2 => ?_)
    · skip
      have c_2 := b2i_0 c_2
      refine lv_iconst (v := nI (0)) hx hb dX8_isReadAt_61 (by decide +kernel) ?_
      refine lv_istore_n (lv' := [(3, .int (nI (0))), (0, .ref (a)), (1, .int (nI (c))), (2, .int (x)), (4, .int (nI (k)))]) hx hb dX8_isReadAt_62 rfl hl (by decide) rfl (fun ls hl => ?_)
      refine lv_iinc (v := nI (k + 1)) (lv' := [(4, .int (nI (k + 1))), (3, .int (nI (0))), (0, .ref (a)), (1, .int (nI (c))), (2, .int (x))]) hx hb dX8_isReadAt_63 hl (k := 4) rfl (nI_1 _) (by decide) rfl (fun ls hl => ?_)
      refine lv_goto (tgt := 5) hx hb dX8_isReadAt_66 (by decide) ?_
      have e1_3 : (nI (0)) = b2i (alB (mRd g c x) (k + 1) = true) := by first | exact b2i_t (by simp [alB, mRd, c_1, c_2]) | exact b2i_f (by simp [alB, mRd, c_1, c_2])
      exact ih_5 (k + 1) ls (by show _ < _; omega) (by show _; omega) (by show lv_has ls 5 [(0, .ref (a)), (1, .int (nI (c))), (2, .int (x)), (3, .int (b2i (alB (mRd g c x) (k + 1) = true))), (4, .int (nI ((k + 1))))]; rw [← e1_3]; exact lv_sub hl [2, 3, 4, 1, 0] rfl)
    · skip
      have c_2 := b2i_1 c_2
      refine lv_aload_n hx hb dX8_isReadAt_18 rfl (lv_at hl 0 rfl) ?_
      refine va_get (D := (dC, dI)) (ci := 8) (v := .ref (o 8)) (C := RX8) (T := TX8) (N := 25) hx hb hts hin8 hown hK hP 0 rfl rfl 8 (by decide) hW1 (fun _ h9 => h9) rfl dX8_isReadAt_19 ?_
      refine lv_bipush (v := nI (10)) hx hb dX8_isReadAt_22 (by decide +kernel) ?_
      refine lv_iload hx hb dX8_isReadAt_24 (lv_at hl 4 rfl) ?_
      refine lv_imul hx hb dX8_isReadAt_26 ?_
      refine tv (pk_mul (10) (k)) ?_
      refine lv_iconst (v := nI (3)) hx hb dX8_isReadAt_27 (by decide +kernel) ?_
      refine lv_iadd hx hb dX8_isReadAt_28 ?_
      refine tv (nI_add (10 * (k)) (3)) ?_
      refine ald hx hb hK hP (f := g 8) (k := 10 * (k) + 3) 3 0 rfl rfl rfl (by omega) (by decide) dX8_isReadAt_29 ?_
      refine lv_if_eq (tgt := 57) hx hb dX8_isReadAt_30 (by decide) (fun c_3 => ?_) (fun c_3 => ?_)
      · skip
        have c_3 : (g 8 (10 * (k) + 3)) = nI 0 := c_3
        refine lv_iconst (v := nI (1)) hx hb dX8_isReadAt_57 (by decide +kernel) ?_
        refine lv_goto (tgt := 62) hx hb dX8_isReadAt_58 (by decide) ?_
        refine lv_istore_n (lv' := [(3, .int (nI (1))), (0, .ref (a)), (1, .int (nI (c))), (2, .int (x)), (4, .int (nI (k)))]) hx hb dX8_isReadAt_62 rfl hl (by decide) rfl (fun ls hl => ?_)
        refine lv_iinc (v := nI (k + 1)) (lv' := [(4, .int (nI (k + 1))), (3, .int (nI (1))), (0, .ref (a)), (1, .int (nI (c))), (2, .int (x))]) hx hb dX8_isReadAt_63 hl (k := 4) rfl (nI_1 _) (by decide) rfl (fun ls hl => ?_)
        refine lv_goto (tgt := 5) hx hb dX8_isReadAt_66 (by decide) ?_
        have e1_3 : (nI (1)) = b2i (alB (mRd g c x) (k + 1) = true) := by first | exact b2i_t (by simp [alB, mRd, c_1, c_2, c_3]) | exact b2i_f (by simp [alB, mRd, c_1, c_2, c_3])
        exact ih_5 (k + 1) ls (by show _ < _; omega) (by show _; omega) (by show lv_has ls 5 [(0, .ref (a)), (1, .int (nI (c))), (2, .int (x)), (3, .int (b2i (alB (mRd g c x) (k + 1) = true))), (4, .int (nI ((k + 1))))]; rw [← e1_3]; exact lv_sub hl [2, 3, 4, 1, 0] rfl)
      · skip
        have c_3 : ¬ (g 8 (10 * (k) + 3)) = nI 0 := c_3
        refine lv_aload_n hx hb dX8_isReadAt_33 rfl (lv_at hl 0 rfl) ?_
        refine lv_iload hx hb dX8_isReadAt_34 (lv_at hl 4 rfl) ?_
        refine lv_iload_n hx hb dX8_isReadAt_36 rfl (lv_at hl 2 rfl) ?_
        refine vp_callSi (va_Run.run (va_runV (As := [.int (nI (k)), .int (x)]) (rest := []) ⟨hx, hb, hml, hown, hts⟩ (c8_seesOf l dC dI cI a o (f) (g) (h)  (x) (k) (by omega)) (cwV 2 hts gX8_isReadAt_X8_seesOf rfl rfl rfl (by decide +kernel) ⟨Nat.le_of_ble_eq_true rfl, Nat.le_of_ble_eq_true rfl⟩) ⟨fun a U g mk q => ⟨q.1, q.2.1, va_K.moved (u := U) (U := U.calling g mk a) (Vm.Alike.refl U.vm) q.2.2⟩, va_recv hK hP (ci := 8) (q0 := 0) rfl rfl, fun U hU hW => ⟨rfl, by rw [hU]; exact hP, va_K.moved hW.alike hK⟩⟩ rfl rfl hl.1 rfl (lv_room (Nat.le_of_ble_eq_true rfl)) dX8_isReadAt_37 ⟨Nat.le_of_ble_eq_true rfl, Nat.le_of_ble_eq_true rfl⟩)) (fun r hrc => ?_)
        have hrc : r = mS (g) (k) (x) := hrc
        subst hrc
        refine lv_aload_n hx hb dX8_isReadAt_40 rfl (lv_at hl 0 rfl) ?_
        refine va_get (D := (dC, dI)) (ci := 8) (v := .ref (o 8)) (C := RX8) (T := TX8) (N := 25) hx hb hts hin8 hown hK hP 0 rfl rfl 8 (by decide) hW1 (fun _ h9 => h9) rfl dX8_isReadAt_41 ?_
        refine lv_bipush (v := nI (10)) hx hb dX8_isReadAt_44 (by decide +kernel) ?_
        refine lv_iload hx hb dX8_isReadAt_46 (lv_at hl 4 rfl) ?_
        refine lv_imul hx hb dX8_isReadAt_48 ?_
        refine tv (pk_mul (10) (k)) ?_
        refine lv_iconst (v := nI (4)) hx hb dX8_isReadAt_49 (by decide +kernel) ?_
        refine lv_iadd hx hb dX8_isReadAt_50 ?_
        refine tv (nI_add (10 * (k)) (4)) ?_
        refine lv_iload_n hx hb dX8_isReadAt_51 rfl (lv_at hl 1 rfl) ?_
        refine lv_iadd hx hb dX8_isReadAt_52 ?_
        refine tv (nI_add (10 * (k) + 4) (c)) ?_
        refine ald hx hb hK hP (f := g 8) (k := 10 * (k) + 4 + c) 3 0 rfl rfl rfl (by omega) (by decide) dX8_isReadAt_53 ?_
        refine lv_icmp_ne (tgt := 61) hx hb dX8_isReadAt_54 (by decide) (fun c_4 => ?_) (fun c_4 => ?_)
        · skip
          refine lv_iconst (v := nI (0)) hx hb dX8_isReadAt_61 (by decide +kernel) ?_
          refine lv_istore_n (lv' := [(3, .int (nI (0))), (0, .ref (a)), (1, .int (nI (c))), (2, .int (x)), (4, .int (nI (k)))]) hx hb dX8_isReadAt_62 rfl hl (by decide) rfl (fun ls hl => ?_)
          refine lv_iinc (v := nI (k + 1)) (lv' := [(4, .int (nI (k + 1))), (3, .int (nI (0))), (0, .ref (a)), (1, .int (nI (c))), (2, .int (x))]) hx hb dX8_isReadAt_63 hl (k := 4) rfl (nI_1 _) (by decide) rfl (fun ls hl => ?_)
          refine lv_goto (tgt := 5) hx hb dX8_isReadAt_66 (by decide) ?_
          have e1_3 : (nI (0)) = b2i (alB (mRd g c x) (k + 1) = true) := by first | exact b2i_t (by simp [alB, mRd, c_1, c_2, c_3, c_4]) | exact b2i_f (by simp [alB, mRd, c_1, c_2, c_3, c_4])
          exact ih_5 (k + 1) ls (by show _ < _; omega) (by show _; omega) (by show lv_has ls 5 [(0, .ref (a)), (1, .int (nI (c))), (2, .int (x)), (3, .int (b2i (alB (mRd g c x) (k + 1) = true))), (4, .int (nI ((k + 1))))]; rw [← e1_3]; exact lv_sub hl [2, 3, 4, 1, 0] rfl)
        · skip
          refine lv_iconst (v := nI (1)) hx hb dX8_isReadAt_57 (by decide +kernel) ?_
          refine lv_goto (tgt := 62) hx hb dX8_isReadAt_58 (by decide) ?_
          refine lv_istore_n (lv' := [(3, .int (nI (1))), (0, .ref (a)), (1, .int (nI (c))), (2, .int (x)), (4, .int (nI (k)))]) hx hb dX8_isReadAt_62 rfl hl (by decide) rfl (fun ls hl => ?_)
          refine lv_iinc (v := nI (k + 1)) (lv' := [(4, .int (nI (k + 1))), (3, .int (nI (1))), (0, .ref (a)), (1, .int (nI (c))), (2, .int (x))]) hx hb dX8_isReadAt_63 hl (k := 4) rfl (nI_1 _) (by decide) rfl (fun ls hl => ?_)
          refine lv_goto (tgt := 5) hx hb dX8_isReadAt_66 (by decide) ?_
          have e1_3 : (nI (1)) = b2i (alB (mRd g c x) (k + 1) = true) := by first | exact b2i_t (by simp [alB, mRd, c_1, c_2, c_3, c_4]) | exact b2i_f (by simp [alB, mRd, c_1, c_2, c_3, c_4])
          exact ih_5 (k + 1) ls (by show _ < _; omega) (by show _; omega) (by show lv_has ls 5 [(0, .ref (a)), (1, .int (nI (c))), (2, .int (x)), (3, .int (b2i (alB (mRd g c x) (k + 1) = true))), (4, .int (nI ((k + 1))))]; rw [← e1_3]; exact lv_sub hl [2, 3, 4, 1, 0] rfl)

set_option maxHeartbeats 1200000 in
set_option maxRecDepth 100000 in
theorem c8_mayBeRead (l : Launch) (dC : Nat → ClassId) (dI : Nat → Nat → Nat) (cI : ClassId) (a : Nat) (o : Nat → Nat) (f : Nat → Int32) (g : Nat → Nat → Int32) (h : Int64) {k6 : Nat} (e6 : f 6 = nI k6) (b6 : k6 ≤ 4) {k7 : Nat} (e7 : f 7 = nI k7) (b7 : k7 ≤ 5) (c u : Nat) (hc : c < 6) (hu : u < 32) : Met l yX8_mayBeRead wsX8_mayBeRead ({ frames := 3, cells := 0, slots := 0, locals := 71 } : Room) (va_Pc [.ref (a), .int (nI (c)), .int (nI (u))] (fun U => va_P (dC, dI) vwCl (mW cI a o f g h) U.heap ∧ va_K (dC, dI) vwCl [(cI, .int)] U)) (vp_Si (fun r => r = b2i (mMayB g k6 k7 c u = true))) 0 0 (fun _ => False) := by
  refine Met.ofW (cc := cX8_mayBeRead) (maxL := 6) (ret := (some .boolean)) (by decide) rfl ?_
  intro p_ e_ s m args below meth c_0 s₁ B hml hv
  obtain ⟨rfl, hP, hK⟩ := hv
  have hx := B.exec
  have hb := B.bytes
  have hr := B.returns
  have hts := atoms_spec (ws := wsX8_mayBeRead) B.pre
  have hown : s.vm.findClass RX8 = some m.cls := findClass_of_methodNamed B.named
  have hlocks := B.notSynchronized
  have hP : va_P (dC, dI) vwCl (mW cI a o f g h) s.heap := hP
  have hl := lv_entry ([.ref (a), .int (nI (c)), .int (nI (u))]) (n := 6) (Nat.le_of_ble_eq_true rfl)
  rw [lg_entry_eq]
  generalize (lg_sl ([.ref (a), .int (nI (c)), .int (nI (u))]) ++ List.replicate (6 - (lg_sl ([.ref (a), .int (nI (c)), .int (nI (u))])).length) Slot.unset).toArray = ls at hl ⊢
  have hl : lv_has ls 6 [(0, .ref (a)), (1, .int (nI (c))), (2, .int (nI (u)))] := hl
  have hin8 : ∀ w ∈ wsX80, w ∈ wsX8_mayBeRead := fun _ h => List.mem_cons_of_mem _ (List.mem_append_right _ h)
  have hW0 := hts (.fieldLink RX8 13 "EachEyeModel" "hues" "[I") (by decide +kernel)
  have hW1 := hts (.fieldLink RX8 74 "EachEyeModel" "inks" "I") (by decide +kernel)
  have hW2 := hts (.fieldLink RX8 19 "EachEyeModel" "inkHues" "[I") (by decide +kernel)
  refine lv_iconst (v := nI (0)) hx hb dX8_mayBeRead_0 (by decide +kernel) ?_
  refine lv_istore_n (lv' := [(3, .int (nI (0))), (0, .ref (a)), (1, .int (nI (c))), (2, .int (nI (u)))]) hx hb dX8_mayBeRead_1 rfl hl (by decide) rfl (fun ls hl => ?_)
  refine lp_ro (fun w : Nat => 32 - w) (fun w : Nat => w ≤ 32 ∧ ∀ j, j < w → (!mMayAt g k6 k7 c u j) = true) (fun w : Nat => [(0, .ref (a)), (1, .int (nI (c))), (2, .int (nI (u))), (3, .int (nI (w)))]) (0) ⟨by omega, fun j h => absurd h (Nat.not_lt_zero _)⟩ (by show lv_has ls 6 [(0, .ref (a)), (1, .int (nI (c))), (2, .int (nI (u))), (3, .int (nI (0)))]; exact lv_sub hl [1, 2, 3, 0] rfl) (fun w hI ih_2 ls hl => ?_)
  have hI : w ≤ 32 ∧ ∀ j, j < w → (!mMayAt g k6 k7 c u j) = true := hI
  have hl : lv_has ls 6 [(0, .ref (a)), (1, .int (nI (c))), (2, .int (nI (u))), (3, .int (nI (w)))] := hl
  have hI1 := hI.1
  have hO := hI
  refine lv_iload_n hx hb dX8_mayBeRead_2 rfl (lv_at hl 3 rfl) ?_
  refine lv_bipush (v := nI (32)) hx hb dX8_mayBeRead_3 (by decide +kernel) ?_
  refine lv_icmp_ge (tgt := 86) hx hb dX8_mayBeRead_5 (by decide) (fun c_1 => ?_) (fun c_1 => ?_)
  · skip
    rw [nI_leI (a := 32) (b := w) (by omega) (by omega)] at c_1
    refine lv_iconst (v := nI (0)) hx hb dX8_mayBeRead_86 (by decide +kernel) ?_
    exact W.zret (ty := .boolean) (v := nI (0)) hx hb hr rfl (fun t ht hW => ⟨nI (0), rfl, (by show nI (0) = b2i (mMayB g k6 k7 c u = true); exact b2i_f (fun z => by obtain ⟨j, hj, hz⟩ := exB_iff.mp z; have hq := hI.2 j (by omega); rw [hz] at hq; cases hq)), ht⟩) (fun _ h => by cases h) dX8_mayBeRead_87
  · skip
    rw [nI_leI (a := 32) (b := w) (by omega) (by omega)] at c_1
    refine lv_iload_n hx hb dX8_mayBeRead_8 rfl (lv_at hl 3 rfl) ?_
    refine lv_iload_n hx hb dX8_mayBeRead_9 rfl (lv_at hl 2 rfl) ?_
    refine lv_iconst (v := (-1)) hx hb dX8_mayBeRead_10 (by decide +kernel) ?_
    refine lv_ixor hx hb dX8_mayBeRead_11 ?_
    refine lv_iand hx hb dX8_mayBeRead_12 ?_
    refine lv_if_ne (tgt := 80) hx hb dX8_mayBeRead_13 (by decide) (fun c_2 => ?_) (fun c_2 => ?_)
    · skip
      have c_2 : ¬ ((nI (w)) &&& ((nI (u)) ^^^ ((-1)))) = nI 0 := c_2
      refine lv_iinc (v := nI (w + 1)) (lv' := [(3, .int (nI (w + 1))), (0, .ref (a)), (1, .int (nI (c))), (2, .int (nI (u)))]) hx hb dX8_mayBeRead_80 hl (k := 3) rfl (nI_1 _) (by decide) rfl (fun ls hl => ?_)
      refine lv_goto (tgt := 2) hx hb dX8_mayBeRead_83 (by decide) ?_
      exact ih_2 (w + 1) ls (by show _ < _; omega) ⟨by omega, lt_s hO.2 (by rw [mMayAt]; first | (rw [decide_eq_false c_2]; rfl) | (rw [show mRead g k6 c (mUn g (g 5 c) w k7) = false from (by simpa using c_2)]; simp))⟩ (by show lv_has ls 6 [(0, .ref (a)), (1, .int (nI (c))), (2, .int (nI (u))), (3, .int (nI ((w + 1))))]; exact lv_sub hl [1, 2, 3, 0] rfl)
    · skip
      have c_2 : ((nI (w)) &&& ((nI (u)) ^^^ ((-1)))) = nI 0 := c_2
      refine lv_aload_n hx hb dX8_mayBeRead_16 rfl (lv_at hl 0 rfl) ?_
      refine va_get (D := (dC, dI)) (ci := 8) (v := .ref (o 5)) (C := RX8) (T := TX8) (N := 25) hx hb hts hin8 hown hK hP 0 rfl rfl 5 (by decide) hW0 (fun _ h9 => h9) rfl dX8_mayBeRead_17 ?_
      refine lv_iload_n hx hb dX8_mayBeRead_20 rfl (lv_at hl 1 rfl) ?_
      refine ald hx hb hK hP (f := g 5) (k := c) 2 0 rfl rfl rfl (by omega) (by decide) dX8_mayBeRead_21 ?_
      refine lv_istore (lv' := [(4, .int (g 5 (c))), (0, .ref (a)), (1, .int (nI (c))), (2, .int (nI (u))), (3, .int (nI (w)))]) hx hb dX8_mayBeRead_22 hl (by decide) rfl (fun ls hl => ?_)
      refine lv_iconst (v := nI (0)) hx hb dX8_mayBeRead_24 (by decide +kernel) ?_
      refine lv_istore (lv' := [(5, .int (nI (0))), (4, .int (g 5 (c))), (0, .ref (a)), (1, .int (nI (c))), (2, .int (nI (u))), (3, .int (nI (w)))]) hx hb dX8_mayBeRead_25 hl (by decide) rfl (fun ls hl => ?_)
      have e0_4 : (g 5 (c)) = mUn g (g 5 c) w 0 := rfl
      refine lp_ro (fun k : Nat => k7 - k) (fun k : Nat => k ≤ k7) (fun k : Nat => [(0, .ref (a)), (1, .int (nI (c))), (2, .int (nI (u))), (3, .int (nI (w))), (4, .int (mUn g (g 5 c) w k)), (5, .int (nI (k)))]) (0) (by omega) (by show lv_has ls 6 [(0, .ref (a)), (1, .int (nI (c))), (2, .int (nI (u))), (3, .int (nI (w))), (4, .int (mUn g (g 5 c) w 0)), (5, .int (nI (0)))]; rw [← e0_4]; exact lv_sub hl [2, 3, 4, 5, 1, 0] rfl) (fun k hI ih_27 ls hl => ?_)
      have hI : k ≤ k7 := hI
      have hl : lv_has ls 6 [(0, .ref (a)), (1, .int (nI (c))), (2, .int (nI (u))), (3, .int (nI (w))), (4, .int (mUn g (g 5 c) w k)), (5, .int (nI (k)))] := hl
      refine lv_iload hx hb dX8_mayBeRead_27 (lv_at hl 5 rfl) ?_
      refine lv_aload_n hx hb dX8_mayBeRead_29 rfl (lv_at hl 0 rfl) ?_
      refine va_get (D := (dC, dI)) (ci := 8) (v := .int (nI (k7))) (C := RX8) (T := TX8) (N := 25) hx hb hts hin8 hown hK hP 0 rfl rfl 7 (by decide) hW1 (fun _ h9 => h9) (congrArg (fun z => some (Value.int z)) e7) dX8_mayBeRead_30 ?_
      refine lv_icmp_ge (tgt := 68) hx hb dX8_mayBeRead_33 (by decide) (fun c_3 => ?_) (fun c_3 => ?_)
      · skip
        rw [nI_leI (a := k7) (b := k) (by omega) (by omega)] at c_3
        have hE : k7 = k := by omega
        subst hE
        refine lv_aload_n hx hb dX8_mayBeRead_68 rfl (lv_at hl 0 rfl) ?_
        refine lv_iload_n hx hb dX8_mayBeRead_69 rfl (lv_at hl 1 rfl) ?_
        refine lv_iload hx hb dX8_mayBeRead_70 (lv_at hl 4 rfl) ?_
        refine vp_callSi (va_Run.run (va_runV (As := [.int (nI (c)), .int (mUn g (g 5 c) w k7)]) (rest := []) ⟨hx, hb, hml, hown, hts⟩ (c8_isReadAt l dC dI cI a o (f) (g) (h) e6 (by omega) (mUn g (g 5 c) w k7) (c) (by omega)) (cwV 2 hts gX8_mayBeRead_X8_isReadAt rfl rfl rfl (by decide +kernel) ⟨Nat.le_of_ble_eq_true rfl, Nat.le_of_ble_eq_true rfl⟩) ⟨fun a U g mk q => ⟨q.1, q.2.1, va_K.moved (u := U) (U := U.calling g mk a) (Vm.Alike.refl U.vm) q.2.2⟩, va_recv hK hP (ci := 8) (q0 := 0) rfl rfl, fun U hU hW => ⟨rfl, by rw [hU]; exact hP, va_K.moved hW.alike hK⟩⟩ rfl rfl hl.1 rfl (lv_room (Nat.le_of_ble_eq_true rfl)) dX8_mayBeRead_72 ⟨Nat.le_of_ble_eq_true rfl, Nat.le_of_ble_eq_true rfl⟩)) (fun r hrc => ?_)
        have hrc : r = b2i (mRead (g) (k6) (c) (mUn g (g 5 c) w k7) = true) := hrc
        subst hrc
        refine lv_if_eq (tgt := 80) hx hb dX8_mayBeRead_75 (by decide) (fun c_4 => ?_) (fun c_4 => ?_)
        · skip
          have c_4 := b2i_0 c_4
          refine lv_iinc (v := nI (w + 1)) (lv' := [(3, .int (nI (w + 1))), (0, .ref (a)), (1, .int (nI (c))), (2, .int (nI (u))), (4, .int (mUn g (g 5 c) w k7)), (5, .int (nI (k7)))]) hx hb dX8_mayBeRead_80 hl (k := 3) rfl (nI_1 _) (by decide) rfl (fun ls hl => ?_)
          refine lv_goto (tgt := 2) hx hb dX8_mayBeRead_83 (by decide) ?_
          exact ih_2 (w + 1) ls (by show _ < _; omega) ⟨by omega, lt_s hO.2 (by rw [mMayAt]; first | (rw [decide_eq_false c_4]; rfl) | (rw [show mRead g k6 c (mUn g (g 5 c) w k7) = false from (by simpa using c_4)]; simp))⟩ (by show lv_has ls 6 [(0, .ref (a)), (1, .int (nI (c))), (2, .int (nI (u))), (3, .int (nI ((w + 1))))]; exact lv_sub hl [1, 2, 3, 0] rfl)
        · skip
          have c_4 := b2i_1 c_4
          refine lv_iconst (v := nI (1)) hx hb dX8_mayBeRead_78 (by decide +kernel) ?_
          exact W.zret (ty := .boolean) (v := nI (1)) hx hb hr rfl (fun t ht hW => ⟨nI (1), rfl, (by show nI (1) = b2i (mMayB g k6 k7 c u = true); exact b2i_t (exB_iff.mpr ⟨w, by omega, by rw [mMayAt, decide_eq_true c_2, c_4]; rfl⟩)), ht⟩) (fun _ h => by cases h) dX8_mayBeRead_79
      · skip
        rw [nI_leI (a := k7) (b := k) (by omega) (by omega)] at c_3
        refine lv_iload hx hb dX8_mayBeRead_36 (lv_at hl 4 rfl) ?_
        refine lv_iload_n hx hb dX8_mayBeRead_38 rfl (lv_at hl 3 rfl) ?_
        refine lv_iload hx hb dX8_mayBeRead_39 (lv_at hl 5 rfl) ?_
        refine lv_ishr hx hb dX8_mayBeRead_41 ?_
        refine lv_iconst (v := nI (1)) hx hb dX8_mayBeRead_42 (by decide +kernel) ?_
        refine lv_iand hx hb dX8_mayBeRead_43 ?_
        refine lv_iconst (v := nI (1)) hx hb dX8_mayBeRead_44 (by decide +kernel) ?_
        refine lv_icmp_ne (tgt := 58) hx hb dX8_mayBeRead_45 (by decide) (fun c_5 => ?_) (fun c_5 => ?_)
        · skip
          refine lv_iconst (v := nI (0)) hx hb dX8_mayBeRead_58 (by decide +kernel) ?_
          refine lv_ior hx hb dX8_mayBeRead_59 ?_
          refine lv_istore (lv' := [(4, .int ((mUn g (g 5 c) w k) ||| (nI (0)))), (0, .ref (a)), (1, .int (nI (c))), (2, .int (nI (u))), (3, .int (nI (w))), (5, .int (nI (k)))]) hx hb dX8_mayBeRead_60 hl (by decide) rfl (fun ls hl => ?_)
          refine lv_iinc (v := nI (k + 1)) (lv' := [(5, .int (nI (k + 1))), (4, .int ((mUn g (g 5 c) w k) ||| (nI (0)))), (0, .ref (a)), (1, .int (nI (c))), (2, .int (nI (u))), (3, .int (nI (w)))]) hx hb dX8_mayBeRead_62 hl (k := 5) rfl (nI_1 _) (by decide) rfl (fun ls hl => ?_)
          refine lv_goto (tgt := 27) hx hb dX8_mayBeRead_65 (by decide) ?_
          have e1_4 : ((mUn g (g 5 c) w k) ||| (nI (0))) = mUn g (g 5 c) w (k + 1) := by simp only [mUn, if_neg c_1, if_pos c_2, if_neg c_3, if_neg c_5]; try rfl
          exact ih_27 (k + 1) ls (by show _ < _; omega) (by show _; omega) (by show lv_has ls 6 [(0, .ref (a)), (1, .int (nI (c))), (2, .int (nI (u))), (3, .int (nI (w))), (4, .int (mUn g (g 5 c) w (k + 1))), (5, .int (nI ((k + 1))))]; rw [← e1_4]; exact lv_sub hl [2, 3, 4, 5, 1, 0] rfl)
        · skip
          refine lv_aload_n hx hb dX8_mayBeRead_48 rfl (lv_at hl 0 rfl) ?_
          refine va_get (D := (dC, dI)) (ci := 8) (v := .ref (o 9)) (C := RX8) (T := TX8) (N := 25) hx hb hts hin8 hown hK hP 0 rfl rfl 9 (by decide) hW2 (fun _ h9 => h9) rfl dX8_mayBeRead_49 ?_
          refine lv_iload hx hb dX8_mayBeRead_52 (lv_at hl 5 rfl) ?_
          refine ald hx hb hK hP (f := g 9) (k := k) 4 0 rfl rfl rfl (by omega) (by decide) dX8_mayBeRead_54 ?_
          refine lv_goto (tgt := 59) hx hb dX8_mayBeRead_55 (by decide) ?_
          refine lv_ior hx hb dX8_mayBeRead_59 ?_
          refine lv_istore (lv' := [(4, .int ((mUn g (g 5 c) w k) ||| (g 9 (k)))), (0, .ref (a)), (1, .int (nI (c))), (2, .int (nI (u))), (3, .int (nI (w))), (5, .int (nI (k)))]) hx hb dX8_mayBeRead_60 hl (by decide) rfl (fun ls hl => ?_)
          refine lv_iinc (v := nI (k + 1)) (lv' := [(5, .int (nI (k + 1))), (4, .int ((mUn g (g 5 c) w k) ||| (g 9 (k)))), (0, .ref (a)), (1, .int (nI (c))), (2, .int (nI (u))), (3, .int (nI (w)))]) hx hb dX8_mayBeRead_62 hl (k := 5) rfl (nI_1 _) (by decide) rfl (fun ls hl => ?_)
          refine lv_goto (tgt := 27) hx hb dX8_mayBeRead_65 (by decide) ?_
          have e1_4 : ((mUn g (g 5 c) w k) ||| (g 9 (k))) = mUn g (g 5 c) w (k + 1) := by simp only [mUn, if_neg c_1, if_pos c_2, if_neg c_3, if_pos c_5]; try rfl
          exact ih_27 (k + 1) ls (by show _ < _; omega) (by show _; omega) (by show lv_has ls 6 [(0, .ref (a)), (1, .int (nI (c))), (2, .int (nI (u))), (3, .int (nI (w))), (4, .int (mUn g (g 5 c) w (k + 1))), (5, .int (nI ((k + 1))))]; rw [← e1_4]; exact lv_sub hl [2, 3, 4, 5, 1, 0] rfl)

set_option maxHeartbeats 1200000 in
set_option maxRecDepth 100000 in
theorem c8_fewSet (l : Launch) (dC : Nat → ClassId) (dI : Nat → Nat → Nat) (cI : ClassId) (a : Nat) (o : Nat → Nat) (f : Nat → Int32) (g : Nat → Nat → Int32) (h : Int64) {k6 : Nat} (e6 : f 6 = nI k6) (b6 : k6 ≤ 4) {k7 : Nat} (e7 : f 7 = nI k7) (b7 : k7 ≤ 5) : Met l yX8_fewSet wsX8_fewSet ({ frames := 4, cells := 0, slots := 0, locals := 96 } : Room) (va_Pc [.ref (a)] (fun U => va_P (dC, dI) vwCl (mW cI a o f g h) U.heap ∧ va_K (dC, dI) vwCl [(cI, .int)] U)) (vp_Si (fun r => r = mBest g k6 k7 (2 ^ k7))) 0 0 (fun _ => False) := by
  refine Met.ofW (cc := cX8_fewSet) (maxL := 5) (ret := (some .int)) (by decide) rfl ?_
  intro p_ e_ s m args below meth c_0 s₁ B hml hv
  obtain ⟨rfl, hP, hK⟩ := hv
  have hx := B.exec
  have hb := B.bytes
  have hr := B.returns
  have hts := atoms_spec (ws := wsX8_fewSet) B.pre
  have hown : s.vm.findClass RX8 = some m.cls := findClass_of_methodNamed B.named
  have hlocks := B.notSynchronized
  have hP : va_P (dC, dI) vwCl (mW cI a o f g h) s.heap := hP
  have hl := lv_entry ([.ref (a)]) (n := 5) (Nat.le_of_ble_eq_true rfl)
  rw [lg_entry_eq]
  generalize (lg_sl ([.ref (a)]) ++ List.replicate (5 - (lg_sl ([.ref (a)])).length) Slot.unset).toArray = ls at hl ⊢
  have hl : lv_has ls 5 [(0, .ref (a))] := hl
  have hin8 : ∀ w ∈ wsX80, w ∈ wsX8_fewSet := fun _ h => List.mem_cons_of_mem _ (List.mem_append_right _ h)
  have hW0 := hts (.fieldLink RX8 74 "EachEyeModel" "inks" "I") (by decide +kernel)
  obtain ⟨P_, hPe, hPb⟩ : ∃ P_ : Nat, P_ = 2 ^ k7 ∧ P_ ≤ 32 := ⟨2 ^ k7, rfl, pow5 b7⟩
  refine lv_iconst (v := (-1)) hx hb dX8_fewSet_0 (by decide +kernel) ?_
  refine lv_istore_n (lv' := [(1, .int ((-1))), (0, .ref (a))]) hx hb dX8_fewSet_1 rfl hl (by decide) rfl (fun ls hl => ?_)
  refine lv_iconst (v := nI (0)) hx hb dX8_fewSet_2 (by decide +kernel) ?_
  refine lv_istore_n (lv' := [(2, .int (nI (0))), (1, .int ((-1))), (0, .ref (a))]) hx hb dX8_fewSet_3 rfl hl (by decide) rfl (fun ls hl => ?_)
  have e0_1 : ((-1)) = mBest g k6 k7 0 := rfl
  refine lp_ro (fun w : Nat => P_ - w) (fun w : Nat => w ≤ P_) (fun w : Nat => [(0, .ref (a)), (1, .int (mBest g k6 k7 w)), (2, .int (nI (w)))]) (0) (by omega) (by show lv_has ls 5 [(0, .ref (a)), (1, .int (mBest g k6 k7 0)), (2, .int (nI (0)))]; rw [← e0_1]; exact lv_sub hl [2, 1, 0] rfl) (fun w hI ih_4 ls hl => ?_)
  have hI : w ≤ P_ := hI
  have hl : lv_has ls 5 [(0, .ref (a)), (1, .int (mBest g k6 k7 w)), (2, .int (nI (w)))] := hl
  have hO : w ≤ P_ := hI
  refine lv_iload_n hx hb dX8_fewSet_4 rfl (lv_at hl 2 rfl) ?_
  refine lv_iconst (v := nI (1)) hx hb dX8_fewSet_5 (by decide +kernel) ?_
  refine lv_aload_n hx hb dX8_fewSet_6 rfl (lv_at hl 0 rfl) ?_
  refine va_get (D := (dC, dI)) (ci := 8) (v := .int (nI (k7))) (C := RX8) (T := TX8) (N := 25) hx hb hts hin8 hown hK hP 0 rfl rfl 7 (by decide) hW0 (fun _ h9 => h9) (congrArg (fun z => some (Value.int z)) e7) dX8_fewSet_7 ?_
  refine lv_ishl hx hb dX8_fewSet_10 ?_
  refine tv (y := nI (P_)) (by rw [hPe]; exact shl1 _ b7) ?_
  refine lv_icmp_ge (tgt := 80) hx hb dX8_fewSet_11 (by decide) (fun c_1 => ?_) (fun c_1 => ?_)
  · skip
    rw [nI_leI (a := P_) (b := w) (by omega) (by omega)] at c_1
    have hE : P_ = w := by omega
    subst hE
    refine lv_iload_n hx hb dX8_fewSet_80 rfl (lv_at hl 1 rfl) ?_
    exact W.iret (v := mBest g k6 k7 P_) hx hb hr (fun t ht hW => ⟨mBest g k6 k7 P_, rfl, (by show mBest g k6 k7 P_ = mBest g k6 k7 (2 ^ k7); rw [hPe]), ht⟩) (fun _ h => by cases h) dX8_fewSet_81
  · skip
    rw [nI_leI (a := P_) (b := w) (by omega) (by omega)] at c_1
    refine lv_iload_n hx hb dX8_fewSet_14 rfl (lv_at hl 1 rfl) ?_
    refine lv_iconst (v := (-1)) hx hb dX8_fewSet_15 (by decide +kernel) ?_
    refine lv_icmp_eq (tgt := 30) hx hb dX8_fewSet_16 (by decide) (fun c_2 => ?_) (fun c_2 => ?_)
    · skip
      refine lv_iconst (v := nI (1)) hx hb dX8_fewSet_30 (by decide +kernel) ?_
      refine lv_goto (tgt := 35) hx hb dX8_fewSet_31 (by decide) ?_
      refine lv_istore_n (lv' := [(3, .int (nI (1))), (0, .ref (a)), (1, .int (mBest g k6 k7 w)), (2, .int (nI (w)))]) hx hb dX8_fewSet_35 rfl hl (by decide) rfl (fun ls hl => ?_)
      refine lv_iconst (v := nI (0)) hx hb dX8_fewSet_36 (by decide +kernel) ?_
      refine lv_istore (lv' := [(4, .int (nI (0))), (3, .int (nI (1))), (0, .ref (a)), (1, .int (mBest g k6 k7 w)), (2, .int (nI (w)))]) hx hb dX8_fewSet_37 hl (by decide) rfl (fun ls hl => ?_)
      have e0_3 : (nI (1)) = b2i (mLess (nI w) (mBest g k6 k7 w) ∧ alB (fun c => mMayB g k6 k7 c w) 0 = true) := (by first | exact b2i_t ⟨Or.inl c_2, rfl⟩ | exact b2i_t ⟨Or.inr (Int.not_le.mp c_2), rfl⟩ | exact b2i_f (fun (z : mLess (nI w) (mBest g k6 k7 w) ∧ _) => z.1.elim c_2 (fun q => absurd (Int.lt_of_lt_of_le q c_2) (Int.lt_irrefl _))))
      refine lp_ro (fun k : Nat => 6 - k) (fun k : Nat => k ≤ 6 ∧ (k = 0 ∨ mLess (nI w) (mBest g k6 k7 w))) (fun k : Nat => [(0, .ref (a)), (1, .int (mBest g k6 k7 w)), (2, .int (nI (w))), (3, .int (b2i (mLess (nI w) (mBest g k6 k7 w) ∧ alB (fun c => mMayB g k6 k7 c w) k = true))), (4, .int (nI (k)))]) (0) ⟨by omega, Or.inl rfl⟩ (by show lv_has ls 5 [(0, .ref (a)), (1, .int (mBest g k6 k7 w)), (2, .int (nI (w))), (3, .int (b2i (mLess (nI w) (mBest g k6 k7 w) ∧ alB (fun c => mMayB g k6 k7 c w) 0 = true))), (4, .int (nI (0)))]; rw [← e0_3]; exact lv_sub hl [2, 3, 4, 1, 0] rfl) (fun k hI ih_39 ls hl => ?_)
      have hI : k ≤ 6 ∧ (k = 0 ∨ mLess (nI w) (mBest g k6 k7 w)) := hI
      have hl : lv_has ls 5 [(0, .ref (a)), (1, .int (mBest g k6 k7 w)), (2, .int (nI (w))), (3, .int (b2i (mLess (nI w) (mBest g k6 k7 w) ∧ alB (fun c => mMayB g k6 k7 c w) k = true))), (4, .int (nI (k)))] := hl
      have hI1 := hI.1
      refine lv_iload hx hb dX8_fewSet_39 (lv_at hl 4 rfl) ?_
      refine lv_bipush (v := nI (6)) hx hb dX8_fewSet_41 (by decide +kernel) ?_
      refine lv_icmp_ge (tgt := 64) hx hb dX8_fewSet_43 (by decide) (fun c_3 => ?_) (fun c_3 => ?_)
      · skip
        rw [nI_leI (a := 6) (b := k) (by omega) (by omega)] at c_3
        refine lv_iload_n hx hb dX8_fewSet_64 rfl (lv_at hl 3 rfl) ?_
        refine lv_if_eq (tgt := 72) hx hb dX8_fewSet_65 (by decide) (fun c_4 => ?_) (fun c_4 => ?_)
        · skip
          have c_4 := b2i_0 c_4
          have hALL : ¬ (mLess (nI w) (mBest g k6 k7 w) ∧ alB (fun c => mMayB g k6 k7 c w) 6 = true) := by first | (rw [show k = 6 by omega] at c_4; exact c_4) | exact fun z => c_4 ⟨z.1, alB_iff.mpr (fun j hj => alB_iff.mp z.2 j (by omega))⟩
          refine lv_iload_n hx hb dX8_fewSet_72 rfl (lv_at hl 1 rfl) ?_
          refine lv_istore_n (lv' := [(1, .int (mBest g k6 k7 w)), (0, .ref (a)), (2, .int (nI (w))), (3, .int (b2i (mLess (nI w) (mBest g k6 k7 w) ∧ alB (fun c => mMayB g k6 k7 c w) k = true))), (4, .int (nI (k)))]) hx hb dX8_fewSet_73 rfl hl (by decide) rfl (fun ls hl => ?_)
          refine lv_iinc (v := nI (w + 1)) (lv' := [(2, .int (nI (w + 1))), (1, .int (mBest g k6 k7 w)), (0, .ref (a)), (3, .int (b2i (mLess (nI w) (mBest g k6 k7 w) ∧ alB (fun c => mMayB g k6 k7 c w) k = true))), (4, .int (nI (k)))]) hx hb dX8_fewSet_74 hl (k := 2) rfl (nI_1 _) (by decide) rfl (fun ls hl => ?_)
          refine lv_goto (tgt := 4) hx hb dX8_fewSet_77 (by decide) ?_
          have e1_1 : (mBest g k6 k7 w) = mBest g k6 k7 (w + 1) := by rw [mBest]; first | (rw [if_pos hALL]; done) | (rw [if_neg hALL]; done)
          exact ih_4 (w + 1) ls (by show _ < _; omega) (by show _; omega) (by show lv_has ls 5 [(0, .ref (a)), (1, .int (mBest g k6 k7 (w + 1))), (2, .int (nI ((w + 1))))]; rw [← e1_1]; exact lv_sub hl [2, 1, 0] rfl)
        · skip
          have c_4 := b2i_1 c_4
          have hALL : mLess (nI w) (mBest g k6 k7 w) ∧ alB (fun c => mMayB g k6 k7 c w) 6 = true := by first | (rw [show k = 6 by omega] at c_4; exact c_4) | exact absurd c_4 hNO
          refine lv_iload_n hx hb dX8_fewSet_68 rfl (lv_at hl 2 rfl) ?_
          refine lv_goto (tgt := 73) hx hb dX8_fewSet_69 (by decide) ?_
          refine lv_istore_n (lv' := [(1, .int (nI (w))), (0, .ref (a)), (2, .int (nI (w))), (3, .int (b2i (mLess (nI w) (mBest g k6 k7 w) ∧ alB (fun c => mMayB g k6 k7 c w) k = true))), (4, .int (nI (k)))]) hx hb dX8_fewSet_73 rfl hl (by decide) rfl (fun ls hl => ?_)
          refine lv_iinc (v := nI (w + 1)) (lv' := [(2, .int (nI (w + 1))), (1, .int (nI (w))), (0, .ref (a)), (3, .int (b2i (mLess (nI w) (mBest g k6 k7 w) ∧ alB (fun c => mMayB g k6 k7 c w) k = true))), (4, .int (nI (k)))]) hx hb dX8_fewSet_74 hl (k := 2) rfl (nI_1 _) (by decide) rfl (fun ls hl => ?_)
          refine lv_goto (tgt := 4) hx hb dX8_fewSet_77 (by decide) ?_
          have e1_1 : (nI (w)) = mBest g k6 k7 (w + 1) := by rw [mBest]; first | (rw [if_pos hALL]; done) | (rw [if_neg hALL]; done)
          exact ih_4 (w + 1) ls (by show _ < _; omega) (by show _; omega) (by show lv_has ls 5 [(0, .ref (a)), (1, .int (mBest g k6 k7 (w + 1))), (2, .int (nI ((w + 1))))]; rw [← e1_1]; exact lv_sub hl [2, 1, 0] rfl)
      · skip
        rw [nI_leI (a := 6) (b := k) (by omega) (by omega)] at c_3
        refine lv_iload_n hx hb dX8_fewSet_46 rfl (lv_at hl 3 rfl) ?_
        refine lv_if_eq (tgt := 64) hx hb dX8_fewSet_47 (by decide) (fun c_5 => ?_) (fun c_5 => ?_)
        · skip
          have c_5 := b2i_0 c_5
          have hNO := c_5
          refine lv_iload_n hx hb dX8_fewSet_64 rfl (lv_at hl 3 rfl) ?_
          refine lv_if_eq (tgt := 72) hx hb dX8_fewSet_65 (by decide) (fun c_6 => ?_) (fun c_6 => ?_)
          · skip
            have c_6 := b2i_0 c_6
            have hALL : ¬ (mLess (nI w) (mBest g k6 k7 w) ∧ alB (fun c => mMayB g k6 k7 c w) 6 = true) := by first | (rw [show k = 6 by omega] at c_6; exact c_6) | exact fun z => c_6 ⟨z.1, alB_iff.mpr (fun j hj => alB_iff.mp z.2 j (by omega))⟩
            refine lv_iload_n hx hb dX8_fewSet_72 rfl (lv_at hl 1 rfl) ?_
            refine lv_istore_n (lv' := [(1, .int (mBest g k6 k7 w)), (0, .ref (a)), (2, .int (nI (w))), (3, .int (b2i (mLess (nI w) (mBest g k6 k7 w) ∧ alB (fun c => mMayB g k6 k7 c w) k = true))), (4, .int (nI (k)))]) hx hb dX8_fewSet_73 rfl hl (by decide) rfl (fun ls hl => ?_)
            refine lv_iinc (v := nI (w + 1)) (lv' := [(2, .int (nI (w + 1))), (1, .int (mBest g k6 k7 w)), (0, .ref (a)), (3, .int (b2i (mLess (nI w) (mBest g k6 k7 w) ∧ alB (fun c => mMayB g k6 k7 c w) k = true))), (4, .int (nI (k)))]) hx hb dX8_fewSet_74 hl (k := 2) rfl (nI_1 _) (by decide) rfl (fun ls hl => ?_)
            refine lv_goto (tgt := 4) hx hb dX8_fewSet_77 (by decide) ?_
            have e1_1 : (mBest g k6 k7 w) = mBest g k6 k7 (w + 1) := by rw [mBest]; first | (rw [if_pos hALL]; done) | (rw [if_neg hALL]; done)
            exact ih_4 (w + 1) ls (by show _ < _; omega) (by show _; omega) (by show lv_has ls 5 [(0, .ref (a)), (1, .int (mBest g k6 k7 (w + 1))), (2, .int (nI ((w + 1))))]; rw [← e1_1]; exact lv_sub hl [2, 1, 0] rfl)
          · skip
            have c_6 := b2i_1 c_6
            have hALL : mLess (nI w) (mBest g k6 k7 w) ∧ alB (fun c => mMayB g k6 k7 c w) 6 = true := by first | (rw [show k = 6 by omega] at c_6; exact c_6) | exact absurd c_6 hNO
            refine lv_iload_n hx hb dX8_fewSet_68 rfl (lv_at hl 2 rfl) ?_
            refine lv_goto (tgt := 73) hx hb dX8_fewSet_69 (by decide) ?_
            refine lv_istore_n (lv' := [(1, .int (nI (w))), (0, .ref (a)), (2, .int (nI (w))), (3, .int (b2i (mLess (nI w) (mBest g k6 k7 w) ∧ alB (fun c => mMayB g k6 k7 c w) k = true))), (4, .int (nI (k)))]) hx hb dX8_fewSet_73 rfl hl (by decide) rfl (fun ls hl => ?_)
            refine lv_iinc (v := nI (w + 1)) (lv' := [(2, .int (nI (w + 1))), (1, .int (nI (w))), (0, .ref (a)), (3, .int (b2i (mLess (nI w) (mBest g k6 k7 w) ∧ alB (fun c => mMayB g k6 k7 c w) k = true))), (4, .int (nI (k)))]) hx hb dX8_fewSet_74 hl (k := 2) rfl (nI_1 _) (by decide) rfl (fun ls hl => ?_)
            refine lv_goto (tgt := 4) hx hb dX8_fewSet_77 (by decide) ?_
            have e1_1 : (nI (w)) = mBest g k6 k7 (w + 1) := by rw [mBest]; first | (rw [if_pos hALL]; done) | (rw [if_neg hALL]; done)
            exact ih_4 (w + 1) ls (by show _ < _; omega) (by show _; omega) (by show lv_has ls 5 [(0, .ref (a)), (1, .int (mBest g k6 k7 (w + 1))), (2, .int (nI ((w + 1))))]; rw [← e1_1]; exact lv_sub hl [2, 1, 0] rfl)
        · skip
          have c_5 := b2i_1 c_5
          refine lv_aload_n hx hb dX8_fewSet_50 rfl (lv_at hl 0 rfl) ?_
          refine lv_iload hx hb dX8_fewSet_51 (lv_at hl 4 rfl) ?_
          refine lv_iload_n hx hb dX8_fewSet_53 rfl (lv_at hl 2 rfl) ?_
          refine vp_callSi (va_Run.run (va_runV (As := [.int (nI (k)), .int (nI (w))]) (rest := []) ⟨hx, hb, hml, hown, hts⟩ (c8_mayBeRead l dC dI cI a o (f) (g) (h) e6 (by omega) e7 (by omega)  (k) (w) (by omega) (by omega)) (cwV 2 hts gX8_fewSet_X8_mayBeRead rfl rfl rfl (by decide +kernel) ⟨Nat.le_of_ble_eq_true rfl, Nat.le_of_ble_eq_true rfl⟩) ⟨fun a U g mk q => ⟨q.1, q.2.1, va_K.moved (u := U) (U := U.calling g mk a) (Vm.Alike.refl U.vm) q.2.2⟩, va_recv hK hP (ci := 8) (q0 := 0) rfl rfl, fun U hU hW => ⟨rfl, by rw [hU]; exact hP, va_K.moved hW.alike hK⟩⟩ rfl rfl hl.1 rfl (lv_room (Nat.le_of_ble_eq_true rfl)) dX8_fewSet_54 ⟨Nat.le_of_ble_eq_true rfl, Nat.le_of_ble_eq_true rfl⟩)) (fun r hrc => ?_)
          have hrc : r = b2i (mMayB (g) (k6) (k7) (k) (w) = true) := hrc
          subst hrc
          refine lv_istore_n (lv' := [(3, .int (b2i (mMayB (g) (k6) (k7) (k) (w) = true))), (0, .ref (a)), (1, .int (mBest g k6 k7 w)), (2, .int (nI (w))), (4, .int (nI (k)))]) hx hb dX8_fewSet_57 rfl hl (by decide) rfl (fun ls hl => ?_)
          refine lv_iinc (v := nI (k + 1)) (lv' := [(4, .int (nI (k + 1))), (3, .int (b2i (mMayB (g) (k6) (k7) (k) (w) = true))), (0, .ref (a)), (1, .int (mBest g k6 k7 w)), (2, .int (nI (w)))]) hx hb dX8_fewSet_58 hl (k := 4) rfl (nI_1 _) (by decide) rfl (fun ls hl => ?_)
          refine lv_goto (tgt := 39) hx hb dX8_fewSet_61 (by decide) ?_
          have e1_3 : (b2i (mMayB (g) (k6) (k7) (k) (w) = true)) = b2i (mLess (nI w) (mBest g k6 k7 w) ∧ alB (fun c => mMayB g k6 k7 c w) (k + 1) = true) := by exact b2i_c ⟨fun z => ⟨c_5.1, by rw [alB, c_5.2, z]; rfl⟩, fun z => by have z2 := z.2; rw [alB, c_5.2] at z2; exact z2⟩
          exact ih_39 (k + 1) ls (by show _ < _; omega) ⟨by omega, Or.inr c_5.1⟩ (by show lv_has ls 5 [(0, .ref (a)), (1, .int (mBest g k6 k7 w)), (2, .int (nI (w))), (3, .int (b2i (mLess (nI w) (mBest g k6 k7 w) ∧ alB (fun c => mMayB g k6 k7 c w) (k + 1) = true))), (4, .int (nI ((k + 1))))]; rw [← e1_3]; exact lv_sub hl [2, 3, 4, 1, 0] rfl)
    · skip
      refine lv_iload_n hx hb dX8_fewSet_19 rfl (lv_at hl 2 rfl) ?_
      refine vp_callSi (va_Run.run (va_runS (As := [.int (nI (w))]) (rest := []) ⟨hx, hb, hml, hown, hts⟩ (c8_ones l (nI (w))) (va_cwS 1 hts gX8_fewSet_X8_ones rfl rfl rfl (by decide +kernel) ⟨Nat.le_of_ble_eq_true rfl, Nat.le_of_ble_eq_true rfl⟩) ⟨fun _ _ _ _ q => q, fun U hU hW => ⟨rfl, trivial⟩⟩ rfl rfl hl.1 rfl (lv_room (Nat.le_of_ble_eq_true rfl)) dX8_fewSet_20 ⟨Nat.le_of_ble_eq_true rfl, Nat.le_of_ble_eq_true rfl⟩)) (fun r hrc => ?_)
      have hrc : r = sm (fun j => ((nI (w)) >>> (nI j &&& 31)) &&& 1) 5 := hrc
      subst hrc
      refine lv_iload_n hx hb dX8_fewSet_23 rfl (lv_at hl 1 rfl) ?_
      refine vp_callSi (va_Run.run (va_runS (As := [.int (mBest g k6 k7 w)]) (rest := [.int (sm (fun j => ((nI (w)) >>> (nI j &&& 31)) &&& 1) 5)]) ⟨hx, hb, hml, hown, hts⟩ (c8_ones l (mBest g k6 k7 w)) (va_cwS 1 hts gX8_fewSet_X8_ones rfl rfl rfl (by decide +kernel) ⟨Nat.le_of_ble_eq_true rfl, Nat.le_of_ble_eq_true rfl⟩) ⟨fun _ _ _ _ q => q, fun U hU hW => ⟨rfl, trivial⟩⟩ rfl rfl hl.1 rfl (lv_room (Nat.le_of_ble_eq_true rfl)) dX8_fewSet_24 ⟨Nat.le_of_ble_eq_true rfl, Nat.le_of_ble_eq_true rfl⟩)) (fun r hrc => ?_)
      have hrc : r = sm (fun j => ((mBest g k6 k7 w) >>> (nI j &&& 31)) &&& 1) 5 := hrc
      subst hrc
      refine lv_icmp_ge (tgt := 34) hx hb dX8_fewSet_27 (by decide) (fun c_7 => ?_) (fun c_7 => ?_)
      · skip
        rw [lei] at c_7
        refine lv_iconst (v := nI (0)) hx hb dX8_fewSet_34 (by decide +kernel) ?_
        refine lv_istore_n (lv' := [(3, .int (nI (0))), (0, .ref (a)), (1, .int (mBest g k6 k7 w)), (2, .int (nI (w)))]) hx hb dX8_fewSet_35 rfl hl (by decide) rfl (fun ls hl => ?_)
        refine lv_iconst (v := nI (0)) hx hb dX8_fewSet_36 (by decide +kernel) ?_
        refine lv_istore (lv' := [(4, .int (nI (0))), (3, .int (nI (0))), (0, .ref (a)), (1, .int (mBest g k6 k7 w)), (2, .int (nI (w)))]) hx hb dX8_fewSet_37 hl (by decide) rfl (fun ls hl => ?_)
        have e0_3 : (nI (0)) = b2i (mLess (nI w) (mBest g k6 k7 w) ∧ alB (fun c => mMayB g k6 k7 c w) 0 = true) := (by first | exact b2i_t ⟨Or.inl c_7, rfl⟩ | exact b2i_t ⟨Or.inr (Int.not_le.mp c_7), rfl⟩ | exact b2i_f (fun (z : mLess (nI w) (mBest g k6 k7 w) ∧ _) => z.1.elim c_2 (fun q => absurd (Int.lt_of_lt_of_le q c_7) (Int.lt_irrefl _))))
        refine lp_ro (fun k : Nat => 6 - k) (fun k : Nat => k ≤ 6 ∧ (k = 0 ∨ mLess (nI w) (mBest g k6 k7 w))) (fun k : Nat => [(0, .ref (a)), (1, .int (mBest g k6 k7 w)), (2, .int (nI (w))), (3, .int (b2i (mLess (nI w) (mBest g k6 k7 w) ∧ alB (fun c => mMayB g k6 k7 c w) k = true))), (4, .int (nI (k)))]) (0) ⟨by omega, Or.inl rfl⟩ (by show lv_has ls 5 [(0, .ref (a)), (1, .int (mBest g k6 k7 w)), (2, .int (nI (w))), (3, .int (b2i (mLess (nI w) (mBest g k6 k7 w) ∧ alB (fun c => mMayB g k6 k7 c w) 0 = true))), (4, .int (nI (0)))]; rw [← e0_3]; exact lv_sub hl [2, 3, 4, 1, 0] rfl) (fun k hI ih_39 ls hl => ?_)
        have hI : k ≤ 6 ∧ (k = 0 ∨ mLess (nI w) (mBest g k6 k7 w)) := hI
        have hl : lv_has ls 5 [(0, .ref (a)), (1, .int (mBest g k6 k7 w)), (2, .int (nI (w))), (3, .int (b2i (mLess (nI w) (mBest g k6 k7 w) ∧ alB (fun c => mMayB g k6 k7 c w) k = true))), (4, .int (nI (k)))] := hl
        have hI1 := hI.1
        refine lv_iload hx hb dX8_fewSet_39 (lv_at hl 4 rfl) ?_
        refine lv_bipush (v := nI (6)) hx hb dX8_fewSet_41 (by decide +kernel) ?_
        refine lv_icmp_ge (tgt := 64) hx hb dX8_fewSet_43 (by decide) (fun c_8 => ?_) (fun c_8 => ?_)
        · skip
          rw [nI_leI (a := 6) (b := k) (by omega) (by omega)] at c_8
          refine lv_iload_n hx hb dX8_fewSet_64 rfl (lv_at hl 3 rfl) ?_
          refine lv_if_eq (tgt := 72) hx hb dX8_fewSet_65 (by decide) (fun c_9 => ?_) (fun c_9 => ?_)
          · skip
            have c_9 := b2i_0 c_9
            have hALL : ¬ (mLess (nI w) (mBest g k6 k7 w) ∧ alB (fun c => mMayB g k6 k7 c w) 6 = true) := by first | (rw [show k = 6 by omega] at c_9; exact c_9) | exact fun z => c_9 ⟨z.1, alB_iff.mpr (fun j hj => alB_iff.mp z.2 j (by omega))⟩
            refine lv_iload_n hx hb dX8_fewSet_72 rfl (lv_at hl 1 rfl) ?_
            refine lv_istore_n (lv' := [(1, .int (mBest g k6 k7 w)), (0, .ref (a)), (2, .int (nI (w))), (3, .int (b2i (mLess (nI w) (mBest g k6 k7 w) ∧ alB (fun c => mMayB g k6 k7 c w) k = true))), (4, .int (nI (k)))]) hx hb dX8_fewSet_73 rfl hl (by decide) rfl (fun ls hl => ?_)
            refine lv_iinc (v := nI (w + 1)) (lv' := [(2, .int (nI (w + 1))), (1, .int (mBest g k6 k7 w)), (0, .ref (a)), (3, .int (b2i (mLess (nI w) (mBest g k6 k7 w) ∧ alB (fun c => mMayB g k6 k7 c w) k = true))), (4, .int (nI (k)))]) hx hb dX8_fewSet_74 hl (k := 2) rfl (nI_1 _) (by decide) rfl (fun ls hl => ?_)
            refine lv_goto (tgt := 4) hx hb dX8_fewSet_77 (by decide) ?_
            have e1_1 : (mBest g k6 k7 w) = mBest g k6 k7 (w + 1) := by rw [mBest]; first | (rw [if_pos hALL]; done) | (rw [if_neg hALL]; done)
            exact ih_4 (w + 1) ls (by show _ < _; omega) (by show _; omega) (by show lv_has ls 5 [(0, .ref (a)), (1, .int (mBest g k6 k7 (w + 1))), (2, .int (nI ((w + 1))))]; rw [← e1_1]; exact lv_sub hl [2, 1, 0] rfl)
          · skip
            have c_9 := b2i_1 c_9
            have hALL : mLess (nI w) (mBest g k6 k7 w) ∧ alB (fun c => mMayB g k6 k7 c w) 6 = true := by first | (rw [show k = 6 by omega] at c_9; exact c_9) | exact absurd c_9 hNO
            refine lv_iload_n hx hb dX8_fewSet_68 rfl (lv_at hl 2 rfl) ?_
            refine lv_goto (tgt := 73) hx hb dX8_fewSet_69 (by decide) ?_
            refine lv_istore_n (lv' := [(1, .int (nI (w))), (0, .ref (a)), (2, .int (nI (w))), (3, .int (b2i (mLess (nI w) (mBest g k6 k7 w) ∧ alB (fun c => mMayB g k6 k7 c w) k = true))), (4, .int (nI (k)))]) hx hb dX8_fewSet_73 rfl hl (by decide) rfl (fun ls hl => ?_)
            refine lv_iinc (v := nI (w + 1)) (lv' := [(2, .int (nI (w + 1))), (1, .int (nI (w))), (0, .ref (a)), (3, .int (b2i (mLess (nI w) (mBest g k6 k7 w) ∧ alB (fun c => mMayB g k6 k7 c w) k = true))), (4, .int (nI (k)))]) hx hb dX8_fewSet_74 hl (k := 2) rfl (nI_1 _) (by decide) rfl (fun ls hl => ?_)
            refine lv_goto (tgt := 4) hx hb dX8_fewSet_77 (by decide) ?_
            have e1_1 : (nI (w)) = mBest g k6 k7 (w + 1) := by rw [mBest]; first | (rw [if_pos hALL]; done) | (rw [if_neg hALL]; done)
            exact ih_4 (w + 1) ls (by show _ < _; omega) (by show _; omega) (by show lv_has ls 5 [(0, .ref (a)), (1, .int (mBest g k6 k7 (w + 1))), (2, .int (nI ((w + 1))))]; rw [← e1_1]; exact lv_sub hl [2, 1, 0] rfl)
        · skip
          rw [nI_leI (a := 6) (b := k) (by omega) (by omega)] at c_8
          refine lv_iload_n hx hb dX8_fewSet_46 rfl (lv_at hl 3 rfl) ?_
          refine lv_if_eq (tgt := 64) hx hb dX8_fewSet_47 (by decide) (fun c_10 => ?_) (fun c_10 => ?_)
          · skip
            have c_10 := b2i_0 c_10
            have hNO := c_10
            refine lv_iload_n hx hb dX8_fewSet_64 rfl (lv_at hl 3 rfl) ?_
            refine lv_if_eq (tgt := 72) hx hb dX8_fewSet_65 (by decide) (fun c_11 => ?_) (fun c_11 => ?_)
            · skip
              have c_11 := b2i_0 c_11
              have hALL : ¬ (mLess (nI w) (mBest g k6 k7 w) ∧ alB (fun c => mMayB g k6 k7 c w) 6 = true) := by first | (rw [show k = 6 by omega] at c_11; exact c_11) | exact fun z => c_11 ⟨z.1, alB_iff.mpr (fun j hj => alB_iff.mp z.2 j (by omega))⟩
              refine lv_iload_n hx hb dX8_fewSet_72 rfl (lv_at hl 1 rfl) ?_
              refine lv_istore_n (lv' := [(1, .int (mBest g k6 k7 w)), (0, .ref (a)), (2, .int (nI (w))), (3, .int (b2i (mLess (nI w) (mBest g k6 k7 w) ∧ alB (fun c => mMayB g k6 k7 c w) k = true))), (4, .int (nI (k)))]) hx hb dX8_fewSet_73 rfl hl (by decide) rfl (fun ls hl => ?_)
              refine lv_iinc (v := nI (w + 1)) (lv' := [(2, .int (nI (w + 1))), (1, .int (mBest g k6 k7 w)), (0, .ref (a)), (3, .int (b2i (mLess (nI w) (mBest g k6 k7 w) ∧ alB (fun c => mMayB g k6 k7 c w) k = true))), (4, .int (nI (k)))]) hx hb dX8_fewSet_74 hl (k := 2) rfl (nI_1 _) (by decide) rfl (fun ls hl => ?_)
              refine lv_goto (tgt := 4) hx hb dX8_fewSet_77 (by decide) ?_
              have e1_1 : (mBest g k6 k7 w) = mBest g k6 k7 (w + 1) := by rw [mBest]; first | (rw [if_pos hALL]; done) | (rw [if_neg hALL]; done)
              exact ih_4 (w + 1) ls (by show _ < _; omega) (by show _; omega) (by show lv_has ls 5 [(0, .ref (a)), (1, .int (mBest g k6 k7 (w + 1))), (2, .int (nI ((w + 1))))]; rw [← e1_1]; exact lv_sub hl [2, 1, 0] rfl)
            · skip
              have c_11 := b2i_1 c_11
              have hALL : mLess (nI w) (mBest g k6 k7 w) ∧ alB (fun c => mMayB g k6 k7 c w) 6 = true := by first | (rw [show k = 6 by omega] at c_11; exact c_11) | exact absurd c_11 hNO
              refine lv_iload_n hx hb dX8_fewSet_68 rfl (lv_at hl 2 rfl) ?_
              refine lv_goto (tgt := 73) hx hb dX8_fewSet_69 (by decide) ?_
              refine lv_istore_n (lv' := [(1, .int (nI (w))), (0, .ref (a)), (2, .int (nI (w))), (3, .int (b2i (mLess (nI w) (mBest g k6 k7 w) ∧ alB (fun c => mMayB g k6 k7 c w) k = true))), (4, .int (nI (k)))]) hx hb dX8_fewSet_73 rfl hl (by decide) rfl (fun ls hl => ?_)
              refine lv_iinc (v := nI (w + 1)) (lv' := [(2, .int (nI (w + 1))), (1, .int (nI (w))), (0, .ref (a)), (3, .int (b2i (mLess (nI w) (mBest g k6 k7 w) ∧ alB (fun c => mMayB g k6 k7 c w) k = true))), (4, .int (nI (k)))]) hx hb dX8_fewSet_74 hl (k := 2) rfl (nI_1 _) (by decide) rfl (fun ls hl => ?_)
              refine lv_goto (tgt := 4) hx hb dX8_fewSet_77 (by decide) ?_
              have e1_1 : (nI (w)) = mBest g k6 k7 (w + 1) := by rw [mBest]; first | (rw [if_pos hALL]; done) | (rw [if_neg hALL]; done)
              exact ih_4 (w + 1) ls (by show _ < _; omega) (by show _; omega) (by show lv_has ls 5 [(0, .ref (a)), (1, .int (mBest g k6 k7 (w + 1))), (2, .int (nI ((w + 1))))]; rw [← e1_1]; exact lv_sub hl [2, 1, 0] rfl)
          · skip
            have c_10 := b2i_1 c_10
            refine lv_aload_n hx hb dX8_fewSet_50 rfl (lv_at hl 0 rfl) ?_
            refine lv_iload hx hb dX8_fewSet_51 (lv_at hl 4 rfl) ?_
            refine lv_iload_n hx hb dX8_fewSet_53 rfl (lv_at hl 2 rfl) ?_
            refine vp_callSi (va_Run.run (va_runV (As := [.int (nI (k)), .int (nI (w))]) (rest := []) ⟨hx, hb, hml, hown, hts⟩ (c8_mayBeRead l dC dI cI a o (f) (g) (h) e6 (by omega) e7 (by omega)  (k) (w) (by omega) (by omega)) (cwV 2 hts gX8_fewSet_X8_mayBeRead rfl rfl rfl (by decide +kernel) ⟨Nat.le_of_ble_eq_true rfl, Nat.le_of_ble_eq_true rfl⟩) ⟨fun a U g mk q => ⟨q.1, q.2.1, va_K.moved (u := U) (U := U.calling g mk a) (Vm.Alike.refl U.vm) q.2.2⟩, va_recv hK hP (ci := 8) (q0 := 0) rfl rfl, fun U hU hW => ⟨rfl, by rw [hU]; exact hP, va_K.moved hW.alike hK⟩⟩ rfl rfl hl.1 rfl (lv_room (Nat.le_of_ble_eq_true rfl)) dX8_fewSet_54 ⟨Nat.le_of_ble_eq_true rfl, Nat.le_of_ble_eq_true rfl⟩)) (fun r hrc => ?_)
            have hrc : r = b2i (mMayB (g) (k6) (k7) (k) (w) = true) := hrc
            subst hrc
            refine lv_istore_n (lv' := [(3, .int (b2i (mMayB (g) (k6) (k7) (k) (w) = true))), (0, .ref (a)), (1, .int (mBest g k6 k7 w)), (2, .int (nI (w))), (4, .int (nI (k)))]) hx hb dX8_fewSet_57 rfl hl (by decide) rfl (fun ls hl => ?_)
            refine lv_iinc (v := nI (k + 1)) (lv' := [(4, .int (nI (k + 1))), (3, .int (b2i (mMayB (g) (k6) (k7) (k) (w) = true))), (0, .ref (a)), (1, .int (mBest g k6 k7 w)), (2, .int (nI (w)))]) hx hb dX8_fewSet_58 hl (k := 4) rfl (nI_1 _) (by decide) rfl (fun ls hl => ?_)
            refine lv_goto (tgt := 39) hx hb dX8_fewSet_61 (by decide) ?_
            have e1_3 : (b2i (mMayB (g) (k6) (k7) (k) (w) = true)) = b2i (mLess (nI w) (mBest g k6 k7 w) ∧ alB (fun c => mMayB g k6 k7 c w) (k + 1) = true) := by exact b2i_c ⟨fun z => ⟨c_10.1, by rw [alB, c_10.2, z]; rfl⟩, fun z => by have z2 := z.2; rw [alB, c_10.2] at z2; exact z2⟩
            exact ih_39 (k + 1) ls (by show _ < _; omega) ⟨by omega, Or.inr c_10.1⟩ (by show lv_has ls 5 [(0, .ref (a)), (1, .int (mBest g k6 k7 w)), (2, .int (nI (w))), (3, .int (b2i (mLess (nI w) (mBest g k6 k7 w) ∧ alB (fun c => mMayB g k6 k7 c w) (k + 1) = true))), (4, .int (nI ((k + 1))))]; rw [← e1_3]; exact lv_sub hl [2, 3, 4, 1, 0] rfl)
      · skip
        rw [lei] at c_7
        refine lv_iconst (v := nI (1)) hx hb dX8_fewSet_30 (by decide +kernel) ?_
        refine lv_goto (tgt := 35) hx hb dX8_fewSet_31 (by decide) ?_
        refine lv_istore_n (lv' := [(3, .int (nI (1))), (0, .ref (a)), (1, .int (mBest g k6 k7 w)), (2, .int (nI (w)))]) hx hb dX8_fewSet_35 rfl hl (by decide) rfl (fun ls hl => ?_)
        refine lv_iconst (v := nI (0)) hx hb dX8_fewSet_36 (by decide +kernel) ?_
        refine lv_istore (lv' := [(4, .int (nI (0))), (3, .int (nI (1))), (0, .ref (a)), (1, .int (mBest g k6 k7 w)), (2, .int (nI (w)))]) hx hb dX8_fewSet_37 hl (by decide) rfl (fun ls hl => ?_)
        have e0_3 : (nI (1)) = b2i (mLess (nI w) (mBest g k6 k7 w) ∧ alB (fun c => mMayB g k6 k7 c w) 0 = true) := (by first | exact b2i_t ⟨Or.inl c_7, rfl⟩ | exact b2i_t ⟨Or.inr (Int.not_le.mp c_7), rfl⟩ | exact b2i_f (fun (z : mLess (nI w) (mBest g k6 k7 w) ∧ _) => z.1.elim c_2 (fun q => absurd (Int.lt_of_lt_of_le q c_7) (Int.lt_irrefl _))))
        refine lp_ro (fun k : Nat => 6 - k) (fun k : Nat => k ≤ 6 ∧ (k = 0 ∨ mLess (nI w) (mBest g k6 k7 w))) (fun k : Nat => [(0, .ref (a)), (1, .int (mBest g k6 k7 w)), (2, .int (nI (w))), (3, .int (b2i (mLess (nI w) (mBest g k6 k7 w) ∧ alB (fun c => mMayB g k6 k7 c w) k = true))), (4, .int (nI (k)))]) (0) ⟨by omega, Or.inl rfl⟩ (by show lv_has ls 5 [(0, .ref (a)), (1, .int (mBest g k6 k7 w)), (2, .int (nI (w))), (3, .int (b2i (mLess (nI w) (mBest g k6 k7 w) ∧ alB (fun c => mMayB g k6 k7 c w) 0 = true))), (4, .int (nI (0)))]; rw [← e0_3]; exact lv_sub hl [2, 3, 4, 1, 0] rfl) (fun k hI ih_39 ls hl => ?_)
        have hI : k ≤ 6 ∧ (k = 0 ∨ mLess (nI w) (mBest g k6 k7 w)) := hI
        have hl : lv_has ls 5 [(0, .ref (a)), (1, .int (mBest g k6 k7 w)), (2, .int (nI (w))), (3, .int (b2i (mLess (nI w) (mBest g k6 k7 w) ∧ alB (fun c => mMayB g k6 k7 c w) k = true))), (4, .int (nI (k)))] := hl
        have hI1 := hI.1
        refine lv_iload hx hb dX8_fewSet_39 (lv_at hl 4 rfl) ?_
        refine lv_bipush (v := nI (6)) hx hb dX8_fewSet_41 (by decide +kernel) ?_
        refine lv_icmp_ge (tgt := 64) hx hb dX8_fewSet_43 (by decide) (fun c_12 => ?_) (fun c_12 => ?_)
        · skip
          rw [nI_leI (a := 6) (b := k) (by omega) (by omega)] at c_12
          refine lv_iload_n hx hb dX8_fewSet_64 rfl (lv_at hl 3 rfl) ?_
          refine lv_if_eq (tgt := 72) hx hb dX8_fewSet_65 (by decide) (fun c_13 => ?_) (fun c_13 => ?_)
          · skip
            have c_13 := b2i_0 c_13
            have hALL : ¬ (mLess (nI w) (mBest g k6 k7 w) ∧ alB (fun c => mMayB g k6 k7 c w) 6 = true) := by first | (rw [show k = 6 by omega] at c_13; exact c_13) | exact fun z => c_13 ⟨z.1, alB_iff.mpr (fun j hj => alB_iff.mp z.2 j (by omega))⟩
            refine lv_iload_n hx hb dX8_fewSet_72 rfl (lv_at hl 1 rfl) ?_
            refine lv_istore_n (lv' := [(1, .int (mBest g k6 k7 w)), (0, .ref (a)), (2, .int (nI (w))), (3, .int (b2i (mLess (nI w) (mBest g k6 k7 w) ∧ alB (fun c => mMayB g k6 k7 c w) k = true))), (4, .int (nI (k)))]) hx hb dX8_fewSet_73 rfl hl (by decide) rfl (fun ls hl => ?_)
            refine lv_iinc (v := nI (w + 1)) (lv' := [(2, .int (nI (w + 1))), (1, .int (mBest g k6 k7 w)), (0, .ref (a)), (3, .int (b2i (mLess (nI w) (mBest g k6 k7 w) ∧ alB (fun c => mMayB g k6 k7 c w) k = true))), (4, .int (nI (k)))]) hx hb dX8_fewSet_74 hl (k := 2) rfl (nI_1 _) (by decide) rfl (fun ls hl => ?_)
            refine lv_goto (tgt := 4) hx hb dX8_fewSet_77 (by decide) ?_
            have e1_1 : (mBest g k6 k7 w) = mBest g k6 k7 (w + 1) := by rw [mBest]; first | (rw [if_pos hALL]; done) | (rw [if_neg hALL]; done)
            exact ih_4 (w + 1) ls (by show _ < _; omega) (by show _; omega) (by show lv_has ls 5 [(0, .ref (a)), (1, .int (mBest g k6 k7 (w + 1))), (2, .int (nI ((w + 1))))]; rw [← e1_1]; exact lv_sub hl [2, 1, 0] rfl)
          · skip
            have c_13 := b2i_1 c_13
            have hALL : mLess (nI w) (mBest g k6 k7 w) ∧ alB (fun c => mMayB g k6 k7 c w) 6 = true := by first | (rw [show k = 6 by omega] at c_13; exact c_13) | exact absurd c_13 hNO
            refine lv_iload_n hx hb dX8_fewSet_68 rfl (lv_at hl 2 rfl) ?_
            refine lv_goto (tgt := 73) hx hb dX8_fewSet_69 (by decide) ?_
            refine lv_istore_n (lv' := [(1, .int (nI (w))), (0, .ref (a)), (2, .int (nI (w))), (3, .int (b2i (mLess (nI w) (mBest g k6 k7 w) ∧ alB (fun c => mMayB g k6 k7 c w) k = true))), (4, .int (nI (k)))]) hx hb dX8_fewSet_73 rfl hl (by decide) rfl (fun ls hl => ?_)
            refine lv_iinc (v := nI (w + 1)) (lv' := [(2, .int (nI (w + 1))), (1, .int (nI (w))), (0, .ref (a)), (3, .int (b2i (mLess (nI w) (mBest g k6 k7 w) ∧ alB (fun c => mMayB g k6 k7 c w) k = true))), (4, .int (nI (k)))]) hx hb dX8_fewSet_74 hl (k := 2) rfl (nI_1 _) (by decide) rfl (fun ls hl => ?_)
            refine lv_goto (tgt := 4) hx hb dX8_fewSet_77 (by decide) ?_
            have e1_1 : (nI (w)) = mBest g k6 k7 (w + 1) := by rw [mBest]; first | (rw [if_pos hALL]; done) | (rw [if_neg hALL]; done)
            exact ih_4 (w + 1) ls (by show _ < _; omega) (by show _; omega) (by show lv_has ls 5 [(0, .ref (a)), (1, .int (mBest g k6 k7 (w + 1))), (2, .int (nI ((w + 1))))]; rw [← e1_1]; exact lv_sub hl [2, 1, 0] rfl)
        · skip
          rw [nI_leI (a := 6) (b := k) (by omega) (by omega)] at c_12
          refine lv_iload_n hx hb dX8_fewSet_46 rfl (lv_at hl 3 rfl) ?_
          refine lv_if_eq (tgt := 64) hx hb dX8_fewSet_47 (by decide) (fun c_14 => ?_) (fun c_14 => ?_)
          · skip
            have c_14 := b2i_0 c_14
            have hNO := c_14
            refine lv_iload_n hx hb dX8_fewSet_64 rfl (lv_at hl 3 rfl) ?_
            refine lv_if_eq (tgt := 72) hx hb dX8_fewSet_65 (by decide) (fun c_15 => ?_) (fun c_15 => ?_)
            · skip
              have c_15 := b2i_0 c_15
              have hALL : ¬ (mLess (nI w) (mBest g k6 k7 w) ∧ alB (fun c => mMayB g k6 k7 c w) 6 = true) := by first | (rw [show k = 6 by omega] at c_15; exact c_15) | exact fun z => c_15 ⟨z.1, alB_iff.mpr (fun j hj => alB_iff.mp z.2 j (by omega))⟩
              refine lv_iload_n hx hb dX8_fewSet_72 rfl (lv_at hl 1 rfl) ?_
              refine lv_istore_n (lv' := [(1, .int (mBest g k6 k7 w)), (0, .ref (a)), (2, .int (nI (w))), (3, .int (b2i (mLess (nI w) (mBest g k6 k7 w) ∧ alB (fun c => mMayB g k6 k7 c w) k = true))), (4, .int (nI (k)))]) hx hb dX8_fewSet_73 rfl hl (by decide) rfl (fun ls hl => ?_)
              refine lv_iinc (v := nI (w + 1)) (lv' := [(2, .int (nI (w + 1))), (1, .int (mBest g k6 k7 w)), (0, .ref (a)), (3, .int (b2i (mLess (nI w) (mBest g k6 k7 w) ∧ alB (fun c => mMayB g k6 k7 c w) k = true))), (4, .int (nI (k)))]) hx hb dX8_fewSet_74 hl (k := 2) rfl (nI_1 _) (by decide) rfl (fun ls hl => ?_)
              refine lv_goto (tgt := 4) hx hb dX8_fewSet_77 (by decide) ?_
              have e1_1 : (mBest g k6 k7 w) = mBest g k6 k7 (w + 1) := by rw [mBest]; first | (rw [if_pos hALL]; done) | (rw [if_neg hALL]; done)
              exact ih_4 (w + 1) ls (by show _ < _; omega) (by show _; omega) (by show lv_has ls 5 [(0, .ref (a)), (1, .int (mBest g k6 k7 (w + 1))), (2, .int (nI ((w + 1))))]; rw [← e1_1]; exact lv_sub hl [2, 1, 0] rfl)
            · skip
              have c_15 := b2i_1 c_15
              have hALL : mLess (nI w) (mBest g k6 k7 w) ∧ alB (fun c => mMayB g k6 k7 c w) 6 = true := by first | (rw [show k = 6 by omega] at c_15; exact c_15) | exact absurd c_15 hNO
              refine lv_iload_n hx hb dX8_fewSet_68 rfl (lv_at hl 2 rfl) ?_
              refine lv_goto (tgt := 73) hx hb dX8_fewSet_69 (by decide) ?_
              refine lv_istore_n (lv' := [(1, .int (nI (w))), (0, .ref (a)), (2, .int (nI (w))), (3, .int (b2i (mLess (nI w) (mBest g k6 k7 w) ∧ alB (fun c => mMayB g k6 k7 c w) k = true))), (4, .int (nI (k)))]) hx hb dX8_fewSet_73 rfl hl (by decide) rfl (fun ls hl => ?_)
              refine lv_iinc (v := nI (w + 1)) (lv' := [(2, .int (nI (w + 1))), (1, .int (nI (w))), (0, .ref (a)), (3, .int (b2i (mLess (nI w) (mBest g k6 k7 w) ∧ alB (fun c => mMayB g k6 k7 c w) k = true))), (4, .int (nI (k)))]) hx hb dX8_fewSet_74 hl (k := 2) rfl (nI_1 _) (by decide) rfl (fun ls hl => ?_)
              refine lv_goto (tgt := 4) hx hb dX8_fewSet_77 (by decide) ?_
              have e1_1 : (nI (w)) = mBest g k6 k7 (w + 1) := by rw [mBest]; first | (rw [if_pos hALL]; done) | (rw [if_neg hALL]; done)
              exact ih_4 (w + 1) ls (by show _ < _; omega) (by show _; omega) (by show lv_has ls 5 [(0, .ref (a)), (1, .int (mBest g k6 k7 (w + 1))), (2, .int (nI ((w + 1))))]; rw [← e1_1]; exact lv_sub hl [2, 1, 0] rfl)
          · skip
            have c_14 := b2i_1 c_14
            refine lv_aload_n hx hb dX8_fewSet_50 rfl (lv_at hl 0 rfl) ?_
            refine lv_iload hx hb dX8_fewSet_51 (lv_at hl 4 rfl) ?_
            refine lv_iload_n hx hb dX8_fewSet_53 rfl (lv_at hl 2 rfl) ?_
            refine vp_callSi (va_Run.run (va_runV (As := [.int (nI (k)), .int (nI (w))]) (rest := []) ⟨hx, hb, hml, hown, hts⟩ (c8_mayBeRead l dC dI cI a o (f) (g) (h) e6 (by omega) e7 (by omega)  (k) (w) (by omega) (by omega)) (cwV 2 hts gX8_fewSet_X8_mayBeRead rfl rfl rfl (by decide +kernel) ⟨Nat.le_of_ble_eq_true rfl, Nat.le_of_ble_eq_true rfl⟩) ⟨fun a U g mk q => ⟨q.1, q.2.1, va_K.moved (u := U) (U := U.calling g mk a) (Vm.Alike.refl U.vm) q.2.2⟩, va_recv hK hP (ci := 8) (q0 := 0) rfl rfl, fun U hU hW => ⟨rfl, by rw [hU]; exact hP, va_K.moved hW.alike hK⟩⟩ rfl rfl hl.1 rfl (lv_room (Nat.le_of_ble_eq_true rfl)) dX8_fewSet_54 ⟨Nat.le_of_ble_eq_true rfl, Nat.le_of_ble_eq_true rfl⟩)) (fun r hrc => ?_)
            have hrc : r = b2i (mMayB (g) (k6) (k7) (k) (w) = true) := hrc
            subst hrc
            refine lv_istore_n (lv' := [(3, .int (b2i (mMayB (g) (k6) (k7) (k) (w) = true))), (0, .ref (a)), (1, .int (mBest g k6 k7 w)), (2, .int (nI (w))), (4, .int (nI (k)))]) hx hb dX8_fewSet_57 rfl hl (by decide) rfl (fun ls hl => ?_)
            refine lv_iinc (v := nI (k + 1)) (lv' := [(4, .int (nI (k + 1))), (3, .int (b2i (mMayB (g) (k6) (k7) (k) (w) = true))), (0, .ref (a)), (1, .int (mBest g k6 k7 w)), (2, .int (nI (w)))]) hx hb dX8_fewSet_58 hl (k := 4) rfl (nI_1 _) (by decide) rfl (fun ls hl => ?_)
            refine lv_goto (tgt := 39) hx hb dX8_fewSet_61 (by decide) ?_
            have e1_3 : (b2i (mMayB (g) (k6) (k7) (k) (w) = true)) = b2i (mLess (nI w) (mBest g k6 k7 w) ∧ alB (fun c => mMayB g k6 k7 c w) (k + 1) = true) := by exact b2i_c ⟨fun z => ⟨c_14.1, by rw [alB, c_14.2, z]; rfl⟩, fun z => by have z2 := z.2; rw [alB, c_14.2] at z2; exact z2⟩
            exact ih_39 (k + 1) ls (by show _ < _; omega) ⟨by omega, Or.inr c_14.1⟩ (by show lv_has ls 5 [(0, .ref (a)), (1, .int (mBest g k6 k7 w)), (2, .int (nI (w))), (3, .int (b2i (mLess (nI w) (mBest g k6 k7 w) ∧ alB (fun c => mMayB g k6 k7 c w) (k + 1) = true))), (4, .int (nI ((k + 1))))]; rw [← e1_3]; exact lv_sub hl [2, 3, 4, 1, 0] rfl)

set_option maxHeartbeats 1200000 in
set_option maxRecDepth 100000 in
theorem c8_fewOf (l : Launch) (dC : Nat → ClassId) (dI : Nat → Nat → Nat) (cI : ClassId) (a : Nat) (o : Nat → Nat) (f : Nat → Int32) (g : Nat → Nat → Int32) (h : Int64) {k6 : Nat} (e6 : f 6 = nI k6) (b6 : k6 ≤ 4) {k7 : Nat} (e7 : f 7 = nI k7) (b7 : k7 ≤ 5) (x : Int32) : Met l yX8_fewOf wsX8_fewOf ({ frames := 5, cells := 0, slots := 0, locals := 120 } : Room) (va_Pc [.ref (a), .int (x)] (fun U => va_P (dC, dI) vwCl (mW cI a o f g h) U.heap ∧ va_K (dC, dI) vwCl [(cI, .int)] U)) (vp_Si (fun r => r = mFewOf g k6 k7 x)) 0 0 (fun _ => False) := by
  refine Met.ofW (cc := cX8_fewOf) (maxL := 3) (ret := (some .int)) (by decide) rfl ?_
  intro p_ e_ s m args below meth c_0 s₁ B hml hv
  obtain ⟨rfl, hP, hK⟩ := hv
  have hx := B.exec
  have hb := B.bytes
  have hr := B.returns
  have hts := atoms_spec (ws := wsX8_fewOf) B.pre
  have hown : s.vm.findClass RX8 = some m.cls := findClass_of_methodNamed B.named
  have hlocks := B.notSynchronized
  have hP : va_P (dC, dI) vwCl (mW cI a o f g h) s.heap := hP
  have hl := lv_entry ([.ref (a), .int (x)]) (n := 3) (Nat.le_of_ble_eq_true rfl)
  rw [lg_entry_eq]
  generalize (lg_sl ([.ref (a), .int (x)]) ++ List.replicate (3 - (lg_sl ([.ref (a), .int (x)])).length) Slot.unset).toArray = ls at hl ⊢
  have hl : lv_has ls 3 [(0, .ref (a)), (1, .int (x))] := hl
  refine lv_aload_n hx hb dX8_fewOf_0 rfl (lv_at hl 0 rfl) ?_
  refine vp_callSi (va_Run.run (va_runV (As := []) (rest := []) ⟨hx, hb, hml, hown, hts⟩ (c8_fewSet l dC dI cI a o (f) (g) (h) e6 (by omega) e7 (by omega)  ) (cwV 0 hts gX8_fewOf_X8_fewSet rfl rfl rfl (by decide +kernel) ⟨Nat.le_of_ble_eq_true rfl, Nat.le_of_ble_eq_true rfl⟩) ⟨fun a U g mk q => ⟨q.1, q.2.1, va_K.moved (u := U) (U := U.calling g mk a) (Vm.Alike.refl U.vm) q.2.2⟩, va_recv hK hP (ci := 8) (q0 := 0) rfl rfl, fun U hU hW => ⟨rfl, by rw [hU]; exact hP, va_K.moved hW.alike hK⟩⟩ rfl rfl hl.1 rfl (lv_room (Nat.le_of_ble_eq_true rfl)) dX8_fewOf_1 ⟨Nat.le_of_ble_eq_true rfl, Nat.le_of_ble_eq_true rfl⟩)) (fun r hrc => ?_)
  have hrc : r = mBest (g) (k6) (k7) (2 ^ (k7)) := hrc
  subst hrc
  refine lv_istore_n (lv' := [(2, .int (mBest (g) (k6) (k7) (2 ^ (k7)))), (0, .ref (a)), (1, .int (x))]) hx hb dX8_fewOf_4 rfl hl (by decide) rfl (fun ls hl => ?_)
  refine lv_iload_n hx hb dX8_fewOf_5 rfl (lv_at hl 0 rfl) ?_
  refine lv_iconst (v := (-1)) hx hb dX8_fewOf_6 (by decide +kernel) ?_
  refine lv_icmp_eq (tgt := 15) hx hb dX8_fewOf_7 (by decide) (fun c_1 => ?_) (fun c_1 => ?_)
  · skip
    refine lv_iload_n hx hb dX8_fewOf_15 rfl (lv_at hl 0 rfl) ?_
    refine lv_goto (tgt := 23) hx hb dX8_fewOf_16 (by decide) ?_
    exact W.iret (v := mBest (g) (k6) (k7) (2 ^ (k7))) hx hb hr (fun t ht hW => ⟨mBest (g) (k6) (k7) (2 ^ (k7)), rfl, (by show mBest (g) (k6) (k7) (2 ^ (k7)) = mFewOf g k6 k7 x; first | (simp only [mFewOf, if_pos c_1]; done) | (simp only [mFewOf, if_pos c_1]; rfl) | rfl | (simp [mFewOf, if_pos c_1]; done)), ht⟩) (fun _ h => by cases h) dX8_fewOf_23
  · skip
    refine lv_iload_n hx hb dX8_fewOf_10 rfl (lv_at hl 2 rfl) ?_
    refine lv_iconst (v := nI (1)) hx hb dX8_fewOf_11 (by decide +kernel) ?_
    refine lv_icmp_ne (tgt := 19) hx hb dX8_fewOf_12 (by decide) (fun c_2 => ?_) (fun c_2 => ?_)
    · skip
      refine lv_iload_n hx hb dX8_fewOf_19 rfl (lv_at hl 0 rfl) ?_
      refine vp_callSi (va_Run.run (va_runS (As := [.int (mBest (g) (k6) (k7) (2 ^ (k7)))]) (rest := []) ⟨hx, hb, hml, hown, hts⟩ (c8_ones l (mBest (g) (k6) (k7) (2 ^ (k7)))) (va_cwS 1 hts gX8_fewOf_X8_ones rfl rfl rfl (by decide +kernel) ⟨Nat.le_of_ble_eq_true rfl, Nat.le_of_ble_eq_true rfl⟩) ⟨fun _ _ _ _ q => q, fun U hU hW => ⟨rfl, trivial⟩⟩ rfl rfl hl.1 rfl (lv_room (Nat.le_of_ble_eq_true rfl)) dX8_fewOf_20 ⟨Nat.le_of_ble_eq_true rfl, Nat.le_of_ble_eq_true rfl⟩)) (fun r hrc => ?_)
      have hrc : r = sm (fun j => ((mBest (g) (k6) (k7) (2 ^ (k7))) >>> (nI j &&& 31)) &&& 1) 5 := hrc
      subst hrc
      exact W.iret (v := sm (fun j => ((mBest (g) (k6) (k7) (2 ^ (k7))) >>> (nI j &&& 31)) &&& 1) 5) hx hb hr (fun t ht hW => ⟨sm (fun j => ((mBest (g) (k6) (k7) (2 ^ (k7))) >>> (nI j &&& 31)) &&& 1) 5, rfl, (by show sm (fun j => ((mBest (g) (k6) (k7) (2 ^ (k7))) >>> (nI j &&& 31)) &&& 1) 5 = mFewOf g k6 k7 x; first | (simp only [mFewOf, if_neg c_1, if_neg c_2]; done) | (simp only [mFewOf, if_neg c_1, if_neg c_2]; rfl) | rfl | (simp [mFewOf, if_neg c_1, if_neg c_2]; done)), ht⟩) (fun _ h => by cases h) dX8_fewOf_23
    · skip
      refine lv_iload_n hx hb dX8_fewOf_15 rfl (lv_at hl 0 rfl) ?_
      refine lv_goto (tgt := 23) hx hb dX8_fewOf_16 (by decide) ?_
      exact W.iret (v := mBest (g) (k6) (k7) (2 ^ (k7))) hx hb hr (fun t ht hW => ⟨mBest (g) (k6) (k7) (2 ^ (k7)), rfl, (by show mBest (g) (k6) (k7) (2 ^ (k7)) = mFewOf g k6 k7 x; first | (simp only [mFewOf, if_neg c_1, if_pos c_2]; done) | (simp only [mFewOf, if_neg c_1, if_pos c_2]; rfl) | rfl | (simp [mFewOf, if_neg c_1, if_pos c_2]; done)), ht⟩) (fun _ h => by cases h) dX8_fewOf_23

set_option maxHeartbeats 1200000 in
set_option maxRecDepth 100000 in
theorem c8_few (l : Launch) (dC : Nat → ClassId) (dI : Nat → Nat → Nat) (cI : ClassId) (a : Nat) (o : Nat → Nat) (f : Nat → Int32) (g : Nat → Nat → Int32) (h : Int64) {k6 : Nat} (e6 : f 6 = nI k6) (b6 : k6 ≤ 4) {k7 : Nat} (e7 : f 7 = nI k7) (b7 : k7 ≤ 5) (x : Int32) : Met l yX8_few wsX8_few ({ frames := 6, cells := 0, slots := 0, locals := 142 } : Room) (va_Pc [.ref (a), .int (x)] (fun U => va_P (dC, dI) vwCl (mW cI a o f g h) U.heap ∧ va_K (dC, dI) vwCl [(cI, .int)] U)) (vp_Si (fun r => r = mFew f g k6 k7 x)) 0 0 (fun _ => False) := by
  refine Met.ofW (cc := cX8_few) (maxL := 2) (ret := (some .int)) (by decide) rfl ?_
  intro p_ e_ s m args below meth c_0 s₁ B hml hv
  obtain ⟨rfl, hP, hK⟩ := hv
  have hx := B.exec
  have hb := B.bytes
  have hr := B.returns
  have hts := atoms_spec (ws := wsX8_few) B.pre
  have hown : s.vm.findClass RX8 = some m.cls := findClass_of_methodNamed B.named
  have hlocks := B.notSynchronized
  have hP : va_P (dC, dI) vwCl (mW cI a o f g h) s.heap := hP
  have hl := lv_entry ([.ref (a), .int (x)]) (n := 2) (Nat.le_of_ble_eq_true rfl)
  rw [lg_entry_eq]
  generalize (lg_sl ([.ref (a), .int (x)]) ++ List.replicate (2 - (lg_sl ([.ref (a), .int (x)])).length) Slot.unset).toArray = ls at hl ⊢
  have hl : lv_has ls 2 [(0, .ref (a)), (1, .int (x))] := hl
  have hin8 : ∀ w ∈ wsX80, w ∈ wsX8_few := fun _ h => List.mem_cons_of_mem _ (List.mem_append_right _ h)
  have hW0 := hts (.fieldLink RX8 63 "EachEyeModel" "isThere" "Z") (by decide +kernel)
  refine lv_iload_n hx hb dX8_few_0 rfl (lv_at hl 1 rfl) ?_
  refine lv_i2l hx hb dX8_few_1 rfl ?_
  refine lv_lconst (v := 0) hx hb dX8_few_2 (by decide +kernel) ?_
  refine lv_lconst (v := 1) hx hb dX8_few_3 (by decide +kernel) ?_
  refine vp_callSi (va_Run.run (va_runS (As := [.long ((x).toInt64), .long (0), .long (1)]) (rest := []) ⟨hx, hb, hml, hown, hts⟩ (c8_in l (x) (0) (1) (0) (1) rfl rfl) (va_cwS 3 hts gX8_few_X8_in rfl rfl rfl (by decide +kernel) ⟨Nat.le_of_ble_eq_true rfl, Nat.le_of_ble_eq_true rfl⟩) ⟨fun _ _ _ _ q => q, fun U hU hW => ⟨rfl, trivial⟩⟩ rfl rfl hl.1 rfl (lv_room (Nat.le_of_ble_eq_true rfl)) dX8_few_4 ⟨Nat.le_of_ble_eq_true rfl, Nat.le_of_ble_eq_true rfl⟩)) (fun r hrc => ?_)
  have hrc : r = b2i ((0) ≤ (x).toInt ∧ (x).toInt ≤ (1)) := hrc
  subst hrc
  refine lv_if_ne (tgt := 13) hx hb dX8_few_7 (by decide) (fun c_1 => ?_) (fun c_1 => ?_)
  · skip
    have c_1 := b2i_1 c_1
    refine lv_aload_n hx hb dX8_few_13 rfl (lv_at hl 0 rfl) ?_
    refine va_get (D := (dC, dI)) (ci := 8) (v := .int (f 2)) (C := RX8) (T := TX8) (N := 25) hx hb hts hin8 hown hK hP 0 rfl rfl 2 (by decide) hW0 (fun _ h9 => h9) rfl dX8_few_14 ?_
    refine lv_if_eq (tgt := 28) hx hb dX8_few_17 (by decide) (fun c_2 => ?_) (fun c_2 => ?_)
    · skip
      have c_2 : (f 2) = nI 0 := c_2
      refine lv_bipush (v := (-103)) hx hb dX8_few_28 (by decide +kernel) ?_
      exact W.iret (v := (-103)) hx hb hr (fun t ht hW => ⟨(-103), rfl, (by show (-103) = mFew f g k6 k7 x; first | (simp only [mFew, if_pos c_1, if_pos c_2]; done) | (simp only [mFew, if_pos c_1, if_pos c_2]; rfl) | rfl | (simp [mFew, if_pos c_1, if_pos c_2]; done)), ht⟩) (fun _ h => by cases h) dX8_few_30
    · skip
      have c_2 : ¬ (f 2) = nI 0 := c_2
      refine lv_aload_n hx hb dX8_few_20 rfl (lv_at hl 0 rfl) ?_
      refine lv_iload_n hx hb dX8_few_21 rfl (lv_at hl 1 rfl) ?_
      refine vp_callSi (va_Run.run (va_runV (As := [.int (x)]) (rest := []) ⟨hx, hb, hml, hown, hts⟩ (c8_fewOf l dC dI cI a o (f) (g) (h) e6 (by omega) e7 (by omega) (x) ) (cwV 1 hts gX8_few_X8_fewOf rfl rfl rfl (by decide +kernel) ⟨Nat.le_of_ble_eq_true rfl, Nat.le_of_ble_eq_true rfl⟩) ⟨fun a U g mk q => ⟨q.1, q.2.1, va_K.moved (u := U) (U := U.calling g mk a) (Vm.Alike.refl U.vm) q.2.2⟩, va_recv hK hP (ci := 8) (q0 := 0) rfl rfl, fun U hU hW => ⟨rfl, by rw [hU]; exact hP, va_K.moved hW.alike hK⟩⟩ rfl rfl hl.1 rfl (lv_room (Nat.le_of_ble_eq_true rfl)) dX8_few_22 ⟨Nat.le_of_ble_eq_true rfl, Nat.le_of_ble_eq_true rfl⟩)) (fun r hrc => ?_)
      have hrc : r = mFewOf (g) (k6) (k7) (x) := hrc
      subst hrc
      refine lv_goto (tgt := 30) hx hb dX8_few_25 (by decide) ?_
      exact W.iret (v := mFewOf (g) (k6) (k7) (x)) hx hb hr (fun t ht hW => ⟨mFewOf (g) (k6) (k7) (x), rfl, (by show mFewOf (g) (k6) (k7) (x) = mFew f g k6 k7 x; first | (simp only [mFew, if_pos c_1, if_neg c_2]; done) | (simp only [mFew, if_pos c_1, if_neg c_2]; rfl) | rfl | (simp [mFew, if_pos c_1, if_neg c_2]; done)), ht⟩) (fun _ h => by cases h) dX8_few_30
  · skip
    have c_1 := b2i_0 c_1
    refine lv_bipush (v := (-102)) hx hb dX8_few_10 (by decide +kernel) ?_
    exact W.iret (v := (-102)) hx hb hr (fun t ht hW => ⟨(-102), rfl, (by show (-102) = mFew f g k6 k7 x; first | (simp only [mFew, if_neg c_1]; done) | (simp only [mFew, if_neg c_1]; rfl) | rfl | (simp [mFew, if_neg c_1]; done)), ht⟩) (fun _ h => by cases h) dX8_few_12

set_option maxHeartbeats 1200000 in
set_option maxRecDepth 100000 in
theorem c8_isSo (l : Launch) (dC : Nat → ClassId) (dI : Nat → Nat → Nat) (cI : ClassId) (a : Nat) (o : Nat → Nat) (f : Nat → Int32) (g : Nat → Nat → Int32) (h : Int64) {k10 : Nat} (e10 : f 10 = nI k10) (b10 : k10 ≤ 8) (u : Nat) (hu : u < 320) : Met l yX8_isSo wsX8_isSo ({ frames := 2, cells := 0, slots := 0, locals := 46 } : Room) (va_Pc [.ref (a), .int (nI (u))] (fun U => va_P (dC, dI) vwCl (mW cI a o f g h) U.heap ∧ va_K (dC, dI) vwCl [(cI, .int)] U)) (vp_Si (fun r => r = b2i (mSo g k10 u = true))) 0 0 (fun _ => False) := by
  refine Met.ofW (cc := cX8_isSo) (maxL := 4) (ret := (some .boolean)) (by decide) rfl ?_
  intro p_ e_ s m args below meth c_0 s₁ B hml hv
  obtain ⟨rfl, hP, hK⟩ := hv
  have hx := B.exec
  have hb := B.bytes
  have hr := B.returns
  have hts := atoms_spec (ws := wsX8_isSo) B.pre
  have hown : s.vm.findClass RX8 = some m.cls := findClass_of_methodNamed B.named
  have hlocks := B.notSynchronized
  have hP : va_P (dC, dI) vwCl (mW cI a o f g h) s.heap := hP
  have hl := lv_entry ([.ref (a), .int (nI (u))]) (n := 4) (Nat.le_of_ble_eq_true rfl)
  rw [lg_entry_eq]
  generalize (lg_sl ([.ref (a), .int (nI (u))]) ++ List.replicate (4 - (lg_sl ([.ref (a), .int (nI (u))])).length) Slot.unset).toArray = ls at hl ⊢
  have hl : lv_has ls 4 [(0, .ref (a)), (1, .int (nI (u)))] := hl
  have hin8 : ∀ w ∈ wsX80, w ∈ wsX8_isSo := fun _ h => List.mem_cons_of_mem _ (List.mem_append_right _ h)
  have hW0 := hts (.fieldLink RX8 77 "EachEyeModel" "cards" "I") (by decide +kernel)
  have hW1 := hts (.fieldLink RX8 22 "EachEyeModel" "cardRows" "[I") (by decide +kernel)
  refine lv_iconst (v := nI (1)) hx hb dX8_isSo_0 (by decide +kernel) ?_
  refine lv_istore_n (lv' := [(2, .int (nI (1))), (0, .ref (a)), (1, .int (nI (u)))]) hx hb dX8_isSo_1 rfl hl (by decide) rfl (fun ls hl => ?_)
  refine lv_iconst (v := nI (0)) hx hb dX8_isSo_2 (by decide +kernel) ?_
  refine lv_istore_n (lv' := [(3, .int (nI (0))), (2, .int (nI (1))), (0, .ref (a)), (1, .int (nI (u)))]) hx hb dX8_isSo_3 rfl hl (by decide) rfl (fun ls hl => ?_)
  have e0_2 : (nI (1)) = b2i (alB (mSoAt g u) 0 = true) := b2i_t rfl
  refine lp_ro (fun k : Nat => k10 - k) (fun k : Nat => k ≤ k10) (fun k : Nat => [(0, .ref (a)), (1, .int (nI (u))), (2, .int (b2i (alB (mSoAt g u) k = true))), (3, .int (nI (k)))]) (0) (by omega) (by show lv_has ls 4 [(0, .ref (a)), (1, .int (nI (u))), (2, .int (b2i (alB (mSoAt g u) 0 = true))), (3, .int (nI (0)))]; rw [← e0_2]; exact lv_sub hl [2, 3, 1, 0] rfl) (fun k hI ih_4 ls hl => ?_)
  have hI : k ≤ k10 := hI
  have hl : lv_has ls 4 [(0, .ref (a)), (1, .int (nI (u))), (2, .int (b2i (alB (mSoAt g u) k = true))), (3, .int (nI (k)))] := hl
  refine lv_iload_n hx hb dX8_isSo_4 rfl (lv_at hl 3 rfl) ?_
  refine lv_aload_n hx hb dX8_isSo_5 rfl (lv_at hl 0 rfl) ?_
  refine va_get (D := (dC, dI)) (ci := 8) (v := .int (nI (k10))) (C := RX8) (T := TX8) (N := 25) hx hb hts hin8 hown hK hP 0 rfl rfl 10 (by decide) hW0 (fun _ h9 => h9) (congrArg (fun z => some (Value.int z)) e10) dX8_isSo_6 ?_
  refine lv_icmp_ge (tgt := 53) hx hb dX8_isSo_9 (by decide) (fun c_1 => ?_) (fun c_1 => ?_)
  · skip
    rw [nI_leI (a := k10) (b := k) (by omega) (by omega)] at c_1
    have hE : k10 = k := by omega
    subst hE
    refine lv_iload_n hx hb dX8_isSo_53 rfl (lv_at hl 2 rfl) ?_
    exact W.zret (ty := .boolean) (v := b2i (alB (mSoAt g u) k10 = true)) hx hb hr nar_b2i (fun t ht hW => ⟨b2i (alB (mSoAt g u) k10 = true), rfl, (by show b2i (alB (mSoAt g u) k10 = true) = b2i (mSo g k10 u = true); rfl), ht⟩) (fun _ h => by cases h) dX8_isSo_54
  · skip
    rw [nI_leI (a := k10) (b := k) (by omega) (by omega)] at c_1
    refine lv_iload_n hx hb dX8_isSo_12 rfl (lv_at hl 2 rfl) ?_
    refine lv_if_eq (tgt := 45) hx hb dX8_isSo_13 (by decide) (fun c_2 => ?_) (fun c_2 => ?_)
    · skip
      have c_2 := b2i_0 c_2
      refine lv_iconst (v := nI (0)) hx hb dX8_isSo_45 (by decide +kernel) ?_
      refine lv_istore_n (lv' := [(2, .int (nI (0))), (0, .ref (a)), (1, .int (nI (u))), (3, .int (nI (k)))]) hx hb dX8_isSo_46 rfl hl (by decide) rfl (fun ls hl => ?_)
      refine lv_iinc (v := nI (k + 1)) (lv' := [(3, .int (nI (k + 1))), (2, .int (nI (0))), (0, .ref (a)), (1, .int (nI (u)))]) hx hb dX8_isSo_47 hl (k := 3) rfl (nI_1 _) (by decide) rfl (fun ls hl => ?_)
      refine lv_goto (tgt := 4) hx hb dX8_isSo_50 (by decide) ?_
      have e1_2 : (nI (0)) = b2i (alB (mSoAt g u) (k + 1) = true) := by first | exact b2i_t (by simp [alB, mSoAt, c_1, c_2]) | exact b2i_f (by simp [alB, mSoAt, c_1, c_2])
      exact ih_4 (k + 1) ls (by show _ < _; omega) (by show _; omega) (by show lv_has ls 4 [(0, .ref (a)), (1, .int (nI (u))), (2, .int (b2i (alB (mSoAt g u) (k + 1) = true))), (3, .int (nI ((k + 1))))]; rw [← e1_2]; exact lv_sub hl [2, 3, 1, 0] rfl)
    · skip
      have c_2 := b2i_1 c_2
      refine lv_iload_n hx hb dX8_isSo_16 rfl (lv_at hl 1 rfl) ?_
      refine lv_aload_n hx hb dX8_isSo_17 rfl (lv_at hl 0 rfl) ?_
      refine va_get (D := (dC, dI)) (ci := 8) (v := .ref (o 12)) (C := RX8) (T := TX8) (N := 25) hx hb hts hin8 hown hK hP 0 rfl rfl 12 (by decide) hW1 (fun _ h9 => h9) rfl dX8_isSo_18 ?_
      refine lv_iconst (v := nI (2)) hx hb dX8_isSo_21 (by decide +kernel) ?_
      refine lv_iload_n hx hb dX8_isSo_22 rfl (lv_at hl 3 rfl) ?_
      refine lv_imul hx hb dX8_isSo_23 ?_
      refine tv (pk_mul (2) (k)) ?_
      refine ald hx hb hK hP (f := g 12) (k := 2 * (k)) 5 0 rfl rfl rfl (by omega) (by decide) dX8_isSo_24 ?_
      refine vp_callSi (va_Run.run (va_runS (As := [.int (nI (u)), .int (g 12 (2 * (k)))]) (rest := []) ⟨hx, hb, hml, hown, hts⟩ (c8_seenByCode l (u) (by omega) (g 12 (2 * (k)))) (va_cwS 2 hts gX8_isSo_X8_seenByCode rfl rfl rfl (by decide +kernel) ⟨Nat.le_of_ble_eq_true rfl, Nat.le_of_ble_eq_true rfl⟩) ⟨fun _ _ _ _ q => q, fun U hU hW => ⟨rfl, trivial⟩⟩ rfl rfl hl.1 rfl (lv_room (Nat.le_of_ble_eq_true rfl)) dX8_isSo_25 ⟨Nat.le_of_ble_eq_true rfl, Nat.le_of_ble_eq_true rfl⟩)) (fun r hrc => ?_)
      have hrc : r = see (nI ((u) / 64)) (nI ((u) / 8 % 8)) (nI ((u) % 8)) (g 12 (2 * (k))) := hrc
      subst hrc
      refine lv_aload_n hx hb dX8_isSo_28 rfl (lv_at hl 0 rfl) ?_
      refine va_get (D := (dC, dI)) (ci := 8) (v := .ref (o 12)) (C := RX8) (T := TX8) (N := 25) hx hb hts hin8 hown hK hP 0 rfl rfl 12 (by decide) hW1 (fun _ h9 => h9) rfl dX8_isSo_29 ?_
      refine lv_iconst (v := nI (2)) hx hb dX8_isSo_32 (by decide +kernel) ?_
      refine lv_iload_n hx hb dX8_isSo_33 rfl (lv_at hl 3 rfl) ?_
      refine lv_imul hx hb dX8_isSo_34 ?_
      refine tv (pk_mul (2) (k)) ?_
      refine lv_iconst (v := nI (1)) hx hb dX8_isSo_35 (by decide +kernel) ?_
      refine lv_iadd hx hb dX8_isSo_36 ?_
      refine tv (nI_add (2 * (k)) (1)) ?_
      refine ald hx hb hK hP (f := g 12) (k := 2 * (k) + 1) 5 0 rfl rfl rfl (by omega) (by decide) dX8_isSo_37 ?_
      refine lv_icmp_ne (tgt := 45) hx hb dX8_isSo_38 (by decide) (fun c_3 => ?_) (fun c_3 => ?_)
      · skip
        refine lv_iconst (v := nI (0)) hx hb dX8_isSo_45 (by decide +kernel) ?_
        refine lv_istore_n (lv' := [(2, .int (nI (0))), (0, .ref (a)), (1, .int (nI (u))), (3, .int (nI (k)))]) hx hb dX8_isSo_46 rfl hl (by decide) rfl (fun ls hl => ?_)
        refine lv_iinc (v := nI (k + 1)) (lv' := [(3, .int (nI (k + 1))), (2, .int (nI (0))), (0, .ref (a)), (1, .int (nI (u)))]) hx hb dX8_isSo_47 hl (k := 3) rfl (nI_1 _) (by decide) rfl (fun ls hl => ?_)
        refine lv_goto (tgt := 4) hx hb dX8_isSo_50 (by decide) ?_
        have e1_2 : (nI (0)) = b2i (alB (mSoAt g u) (k + 1) = true) := by first | exact b2i_t (by simp [alB, mSoAt, c_1, c_2, c_3]) | exact b2i_f (by simp [alB, mSoAt, c_1, c_2, c_3])
        exact ih_4 (k + 1) ls (by show _ < _; omega) (by show _; omega) (by show lv_has ls 4 [(0, .ref (a)), (1, .int (nI (u))), (2, .int (b2i (alB (mSoAt g u) (k + 1) = true))), (3, .int (nI ((k + 1))))]; rw [← e1_2]; exact lv_sub hl [2, 3, 1, 0] rfl)
      · skip
        refine lv_iconst (v := nI (1)) hx hb dX8_isSo_41 (by decide +kernel) ?_
        refine lv_goto (tgt := 46) hx hb dX8_isSo_42 (by decide) ?_
        refine lv_istore_n (lv' := [(2, .int (nI (1))), (0, .ref (a)), (1, .int (nI (u))), (3, .int (nI (k)))]) hx hb dX8_isSo_46 rfl hl (by decide) rfl (fun ls hl => ?_)
        refine lv_iinc (v := nI (k + 1)) (lv' := [(3, .int (nI (k + 1))), (2, .int (nI (1))), (0, .ref (a)), (1, .int (nI (u)))]) hx hb dX8_isSo_47 hl (k := 3) rfl (nI_1 _) (by decide) rfl (fun ls hl => ?_)
        refine lv_goto (tgt := 4) hx hb dX8_isSo_50 (by decide) ?_
        have e1_2 : (nI (1)) = b2i (alB (mSoAt g u) (k + 1) = true) := by first | exact b2i_t (by simp [alB, mSoAt, c_1, c_2, c_3]) | exact b2i_f (by simp [alB, mSoAt, c_1, c_2, c_3])
        exact ih_4 (k + 1) ls (by show _ < _; omega) (by show _; omega) (by show lv_has ls 4 [(0, .ref (a)), (1, .int (nI (u))), (2, .int (b2i (alB (mSoAt g u) (k + 1) = true))), (3, .int (nI ((k + 1))))]; rw [← e1_2]; exact lv_sub hl [2, 3, 1, 0] rfl)

set_option maxHeartbeats 1200000 in
set_option maxRecDepth 100000 in
theorem c8_countOf (l : Launch) (dC : Nat → ClassId) (dI : Nat → Nat → Nat) (cI : ClassId) (a : Nat) (o : Nat → Nat) (f : Nat → Int32) (g : Nat → Nat → Int32) (h : Int64) {k1 : Nat} (e1 : f 1 = nI k1) (b1 : k1 ≤ 10) {k6 : Nat} (e6 : f 6 = nI k6) (b6 : k6 ≤ 4) {k7 : Nat} (e7 : f 7 = nI k7) (b7 : k7 ≤ 5) {k10 : Nat} (e10 : f 10 = nI k10) (b10 : k10 ≤ 8) (x : Int32) : Met l yX8_countOf wsX8_countOf ({ frames := 1, cells := 0, slots := 0, locals := 22 } : Room) (va_Pc [.ref (a), .int (x)] (fun U => va_P (dC, dI) vwCl (mW cI a o f g h) U.heap ∧ va_K (dC, dI) vwCl [(cI, .int)] U)) (vp_Si (fun r => r = mCount f g k1 k6 k7 k10 x)) 0 0 (fun _ => False) := by
  refine Met.ofW (cc := cX8_countOf) (maxL := 2) (ret := (some .int)) (by decide) rfl ?_
  intro p_ e_ s m args below meth c_0 s₁ B hml hv
  obtain ⟨rfl, hP, hK⟩ := hv
  have hx := B.exec
  have hb := B.bytes
  have hr := B.returns
  have hts := atoms_spec (ws := wsX8_countOf) B.pre
  have hown : s.vm.findClass RX8 = some m.cls := findClass_of_methodNamed B.named
  have hlocks := B.notSynchronized
  have hP : va_P (dC, dI) vwCl (mW cI a o f g h) s.heap := hP
  have hl := lv_entry ([.ref (a), .int (x)]) (n := 2) (Nat.le_of_ble_eq_true rfl)
  rw [lg_entry_eq]
  generalize (lg_sl ([.ref (a), .int (x)]) ++ List.replicate (2 - (lg_sl ([.ref (a), .int (x)])).length) Slot.unset).toArray = ls at hl ⊢
  have hl : lv_has ls 2 [(0, .ref (a)), (1, .int (x))] := hl
  have hin8 : ∀ w ∈ wsX80, w ∈ wsX8_countOf := fun _ h => List.mem_cons_of_mem _ (List.mem_append_right _ h)
  have hW0 := hts (.fieldLink RX8 71 "EachEyeModel" "people" "I") (by decide +kernel)
  have hW1 := hts (.fieldLink RX8 74 "EachEyeModel" "inks" "I") (by decide +kernel)
  have hW2 := hts (.fieldLink RX8 80 "EachEyeModel" "layers" "I") (by decide +kernel)
  have hW3 := hts (.fieldLink RX8 77 "EachEyeModel" "cards" "I") (by decide +kernel)
  have hW4 := hts (.fieldLink RX8 52 "EachEyeModel" "pageMany" "I") (by decide +kernel)
  have hW5 := hts (.fieldLink RX8 83 "EachEyeModel" "signsRead" "I") (by decide +kernel)
  have hW6 := hts (.fieldLink RX8 158 "EachEyeModel" "asked" "I") (by decide +kernel)
  refine lv_iload_n hx hb dX8_countOf_0 rfl (lv_at hl 1 rfl) ?_
  by_cases c_1 : (x).toInt = 0
  · skip
    refine lv_tableIn (tgt := 52) hx hb dX8_countOf_1 (by omega) (by omega) (by rw [c_1]; rfl) (by decide) ?_
    refine lv_aload_n hx hb dX8_countOf_52 rfl (lv_at hl 0 rfl) ?_
    refine vp_callSi (va_Run.run (va_runV (As := []) (rest := []) ⟨hx, hb, hml, hown, hts⟩ (c8_inkedCells l dC dI cI a o (f) (g) (h)   ) (cwV 0 hts gX8_countOf_X8_inkedCells rfl rfl rfl (by decide +kernel) ⟨Nat.le_of_ble_eq_true rfl, Nat.le_of_ble_eq_true rfl⟩) ⟨fun a U g mk q => ⟨q.1, q.2.1, va_K.moved (u := U) (U := U.calling g mk a) (Vm.Alike.refl U.vm) q.2.2⟩, va_recv hK hP (ci := 8) (q0 := 0) rfl rfl, fun U hU hW => ⟨rfl, by rw [hU]; exact hP, va_K.moved hW.alike hK⟩⟩ rfl rfl hl.1 rfl (lv_room (Nat.le_of_ble_eq_true rfl)) dX8_countOf_53 ⟨Nat.le_of_ble_eq_true rfl, Nat.le_of_ble_eq_true rfl⟩)) (fun r hrc => ?_)
    have hrc : r = mInk (f) (g) := hrc
    subst hrc
    exact W.iret (v := mInk (f) (g)) hx hb hr (fun t ht hW => ⟨mInk (f) (g), rfl, (by show mInk (f) (g) = mCount f g k1 k6 k7 k10 x; first | (simp only [mCount, if_pos c_1]; done) | (simp only [mCount, if_pos c_1]; rfl) | rfl | (simp [mCount, if_pos c_1]; done)), ht⟩) (fun _ h => by cases h) dX8_countOf_56
  · skip
    by_cases c_2 : (x).toInt = 1
    · skip
      refine lv_tableIn (tgt := 57) hx hb dX8_countOf_1 (by omega) (by omega) (by rw [c_2]; rfl) (by decide) ?_
      refine lv_aload_n hx hb dX8_countOf_57 rfl (lv_at hl 0 rfl) ?_
      refine va_get (D := (dC, dI)) (ci := 8) (v := .int (nI (k6))) (C := RX8) (T := TX8) (N := 25) hx hb hts hin8 hown hK hP 0 rfl rfl 6 (by decide) hW0 (fun _ h9 => h9) (congrArg (fun z => some (Value.int z)) e6) dX8_countOf_58 ?_
      exact W.iret (v := nI (k6)) hx hb hr (fun t ht hW => ⟨nI (k6), rfl, (by show nI (k6) = mCount f g k1 k6 k7 k10 x; first | (simp only [mCount, if_neg c_1, if_pos c_2]; done) | (simp only [mCount, if_neg c_1, if_pos c_2]; rfl) | rfl | (simp [mCount, if_neg c_1, if_pos c_2]; done)), ht⟩) (fun _ h => by cases h) dX8_countOf_61
    · skip
      by_cases c_3 : (x).toInt = 2
      · skip
        refine lv_tableIn (tgt := 62) hx hb dX8_countOf_1 (by omega) (by omega) (by rw [c_3]; rfl) (by decide) ?_
        refine lv_aload_n hx hb dX8_countOf_62 rfl (lv_at hl 0 rfl) ?_
        refine va_get (D := (dC, dI)) (ci := 8) (v := .int (nI (k7))) (C := RX8) (T := TX8) (N := 25) hx hb hts hin8 hown hK hP 0 rfl rfl 7 (by decide) hW1 (fun _ h9 => h9) (congrArg (fun z => some (Value.int z)) e7) dX8_countOf_63 ?_
        exact W.iret (v := nI (k7)) hx hb hr (fun t ht hW => ⟨nI (k7), rfl, (by show nI (k7) = mCount f g k1 k6 k7 k10 x; first | (simp only [mCount, if_neg c_1, if_neg c_2, if_pos c_3]; done) | (simp only [mCount, if_neg c_1, if_neg c_2, if_pos c_3]; rfl) | rfl | (simp [mCount, if_neg c_1, if_neg c_2, if_pos c_3]; done)), ht⟩) (fun _ h => by cases h) dX8_countOf_66
      · skip
        by_cases c_4 : (x).toInt = 3
        · skip
          refine lv_tableIn (tgt := 67) hx hb dX8_countOf_1 (by omega) (by omega) (by rw [c_4]; rfl) (by decide) ?_
          refine lv_aload_n hx hb dX8_countOf_67 rfl (lv_at hl 0 rfl) ?_
          refine va_get (D := (dC, dI)) (ci := 8) (v := .int (f 3)) (C := RX8) (T := TX8) (N := 25) hx hb hts hin8 hown hK hP 0 rfl rfl 3 (by decide) hW2 (fun _ h9 => h9) rfl dX8_countOf_68 ?_
          exact W.iret (v := f 3) hx hb hr (fun t ht hW => ⟨f 3, rfl, (by show f 3 = mCount f g k1 k6 k7 k10 x; first | (simp only [mCount, if_neg c_1, if_neg c_2, if_neg c_3, if_pos c_4]; done) | (simp only [mCount, if_neg c_1, if_neg c_2, if_neg c_3, if_pos c_4]; rfl) | rfl | (simp [mCount, if_neg c_1, if_neg c_2, if_neg c_3, if_pos c_4]; done)), ht⟩) (fun _ h => by cases h) dX8_countOf_71
        · skip
          by_cases c_5 : (x).toInt = 4
          · skip
            refine lv_tableIn (tgt := 72) hx hb dX8_countOf_1 (by omega) (by omega) (by rw [c_5]; rfl) (by decide) ?_
            refine lv_aload_n hx hb dX8_countOf_72 rfl (lv_at hl 0 rfl) ?_
            refine vp_callSi (va_Run.run (va_runV (As := []) (rest := []) ⟨hx, hb, hml, hown, hts⟩ (c8_wordMany l dC dI cI a o (f) (g) (h) e6 (by omega)  ) (cwV 0 hts gX8_countOf_X8_wordMany rfl rfl rfl (by decide +kernel) ⟨Nat.le_of_ble_eq_true rfl, Nat.le_of_ble_eq_true rfl⟩) ⟨fun a U g mk q => ⟨q.1, q.2.1, va_K.moved (u := U) (U := U.calling g mk a) (Vm.Alike.refl U.vm) q.2.2⟩, va_recv hK hP (ci := 8) (q0 := 0) rfl rfl, fun U hU hW => ⟨rfl, by rw [hU]; exact hP, va_K.moved hW.alike hK⟩⟩ rfl rfl hl.1 rfl (lv_room (Nat.le_of_ble_eq_true rfl)) dX8_countOf_73 ⟨Nat.le_of_ble_eq_true rfl, Nat.le_of_ble_eq_true rfl⟩)) (fun r hrc => ?_)
            have hrc : r = mWm (g) (k6) := hrc
            subst hrc
            exact W.iret (v := mWm (g) (k6)) hx hb hr (fun t ht hW => ⟨mWm (g) (k6), rfl, (by show mWm (g) (k6) = mCount f g k1 k6 k7 k10 x; first | (simp only [mCount, if_neg c_1, if_neg c_2, if_neg c_3, if_neg c_4, if_pos c_5]; done) | (simp only [mCount, if_neg c_1, if_neg c_2, if_neg c_3, if_neg c_4, if_pos c_5]; rfl) | rfl | (simp [mCount, if_neg c_1, if_neg c_2, if_neg c_3, if_neg c_4, if_pos c_5]; done)), ht⟩) (fun _ h => by cases h) dX8_countOf_76
          · skip
            by_cases c_6 : (x).toInt = 5
            · skip
              refine lv_tableIn (tgt := 77) hx hb dX8_countOf_1 (by omega) (by omega) (by rw [c_6]; rfl) (by decide) ?_
              refine lv_aload_n hx hb dX8_countOf_77 rfl (lv_at hl 0 rfl) ?_
              refine va_get (D := (dC, dI)) (ci := 8) (v := .int (nI (k10))) (C := RX8) (T := TX8) (N := 25) hx hb hts hin8 hown hK hP 0 rfl rfl 10 (by decide) hW3 (fun _ h9 => h9) (congrArg (fun z => some (Value.int z)) e10) dX8_countOf_78 ?_
              exact W.iret (v := nI (k10)) hx hb hr (fun t ht hW => ⟨nI (k10), rfl, (by show nI (k10) = mCount f g k1 k6 k7 k10 x; first | (simp only [mCount, if_neg c_1, if_neg c_2, if_neg c_3, if_neg c_4, if_neg c_5, if_pos c_6]; done) | (simp only [mCount, if_neg c_1, if_neg c_2, if_neg c_3, if_neg c_4, if_neg c_5, if_pos c_6]; rfl) | rfl | (simp [mCount, if_neg c_1, if_neg c_2, if_neg c_3, if_neg c_4, if_neg c_5, if_pos c_6]; done)), ht⟩) (fun _ h => by cases h) dX8_countOf_81
            · skip
              by_cases c_7 : (x).toInt = 6
              · skip
                refine lv_tableIn (tgt := 82) hx hb dX8_countOf_1 (by omega) (by omega) (by rw [c_7]; rfl) (by decide) ?_
                refine lv_aload_n hx hb dX8_countOf_82 rfl (lv_at hl 0 rfl) ?_
                refine va_get (D := (dC, dI)) (ci := 8) (v := .int (nI (k1))) (C := RX8) (T := TX8) (N := 25) hx hb hts hin8 hown hK hP 0 rfl rfl 1 (by decide) hW4 (fun _ h9 => h9) (congrArg (fun z => some (Value.int z)) e1) dX8_countOf_83 ?_
                exact W.iret (v := nI (k1)) hx hb hr (fun t ht hW => ⟨nI (k1), rfl, (by show nI (k1) = mCount f g k1 k6 k7 k10 x; first | (simp only [mCount, if_neg c_1, if_neg c_2, if_neg c_3, if_neg c_4, if_neg c_5, if_neg c_6, if_pos c_7]; done) | (simp only [mCount, if_neg c_1, if_neg c_2, if_neg c_3, if_neg c_4, if_neg c_5, if_neg c_6, if_pos c_7]; rfl) | rfl | (simp [mCount, if_neg c_1, if_neg c_2, if_neg c_3, if_neg c_4, if_neg c_5, if_neg c_6, if_pos c_7]; done)), ht⟩) (fun _ h => by cases h) dX8_countOf_86
              · skip
                by_cases c_8 : (x).toInt = 7
                · skip
                  refine lv_tableIn (tgt := 87) hx hb dX8_countOf_1 (by omega) (by omega) (by rw [c_8]; rfl) (by decide) ?_
                  refine lv_aload_n hx hb dX8_countOf_87 rfl (lv_at hl 0 rfl) ?_
                  refine va_get (D := (dC, dI)) (ci := 8) (v := .int (f 4)) (C := RX8) (T := TX8) (N := 25) hx hb hts hin8 hown hK hP 0 rfl rfl 4 (by decide) hW5 (fun _ h9 => h9) rfl dX8_countOf_88 ?_
                  exact W.iret (v := f 4) hx hb hr (fun t ht hW => ⟨f 4, rfl, (by show f 4 = mCount f g k1 k6 k7 k10 x; first | (simp only [mCount, if_neg c_1, if_neg c_2, if_neg c_3, if_neg c_4, if_neg c_5, if_neg c_6, if_neg c_7, if_pos c_8]; done) | (simp only [mCount, if_neg c_1, if_neg c_2, if_neg c_3, if_neg c_4, if_neg c_5, if_neg c_6, if_neg c_7, if_pos c_8]; rfl) | rfl | (simp [mCount, if_neg c_1, if_neg c_2, if_neg c_3, if_neg c_4, if_neg c_5, if_neg c_6, if_neg c_7, if_pos c_8]; done)), ht⟩) (fun _ h => by cases h) dX8_countOf_91
                · skip
                  by_cases c_9 : (x).toInt = 8
                  · skip
                    refine lv_tableIn (tgt := 92) hx hb dX8_countOf_1 (by omega) (by omega) (by rw [c_9]; rfl) (by decide) ?_
                    refine lv_aload_n hx hb dX8_countOf_92 rfl (lv_at hl 0 rfl) ?_
                    refine va_get (D := (dC, dI)) (ci := 8) (v := .int (f 11)) (C := RX8) (T := TX8) (N := 25) hx hb hts hin8 hown hK hP 0 rfl rfl 11 (by decide) hW6 (fun _ h9 => h9) rfl dX8_countOf_93 ?_
                    exact W.iret (v := f 11) hx hb hr (fun t ht hW => ⟨f 11, rfl, (by show f 11 = mCount f g k1 k6 k7 k10 x; first | (simp only [mCount, if_neg c_1, if_neg c_2, if_neg c_3, if_neg c_4, if_neg c_5, if_neg c_6, if_neg c_7, if_neg c_8, if_pos c_9]; done) | (simp only [mCount, if_neg c_1, if_neg c_2, if_neg c_3, if_neg c_4, if_neg c_5, if_neg c_6, if_neg c_7, if_neg c_8, if_pos c_9]; rfl) | rfl | (simp [mCount, if_neg c_1, if_neg c_2, if_neg c_3, if_neg c_4, if_neg c_5, if_neg c_6, if_neg c_7, if_neg c_8, if_pos c_9]; done)), ht⟩) (fun _ h => by cases h) dX8_countOf_96
                  · skip
                    refine lv_tableOut (tgt := 97) hx hb dX8_countOf_1 (by omega) (by decide) ?_
                    refine lv_bipush (v := (-102)) hx hb dX8_countOf_97 (by decide +kernel) ?_
                    exact W.iret (v := (-102)) hx hb hr (fun t ht hW => ⟨(-102), rfl, (by show (-102) = mCount f g k1 k6 k7 k10 x; first | (simp only [mCount, if_neg c_1, if_neg c_2, if_neg c_3, if_neg c_4, if_neg c_5, if_neg c_6, if_neg c_7, if_neg c_8, if_neg c_9]; done) | (simp only [mCount, if_neg c_1, if_neg c_2, if_neg c_3, if_neg c_4, if_neg c_5, if_neg c_6, if_neg c_7, if_neg c_8, if_neg c_9]; rfl) | rfl | (simp [mCount, if_neg c_1, if_neg c_2, if_neg c_3, if_neg c_4, if_neg c_5, if_neg c_6, if_neg c_7, if_neg c_8, if_neg c_9]; done)), ht⟩) (fun _ h => by cases h) dX8_countOf_99

set_option maxHeartbeats 1200000 in
set_option maxRecDepth 100000 in
theorem c8_count (l : Launch) (dC : Nat → ClassId) (dI : Nat → Nat → Nat) (cI : ClassId) (a : Nat) (o : Nat → Nat) (f : Nat → Int32) (g : Nat → Nat → Int32) (h : Int64) {k1 : Nat} (e1 : f 1 = nI k1) (b1 : k1 ≤ 10) {k6 : Nat} (e6 : f 6 = nI k6) (b6 : k6 ≤ 4) {k7 : Nat} (e7 : f 7 = nI k7) (b7 : k7 ≤ 5) {k10 : Nat} (e10 : f 10 = nI k10) (b10 : k10 ≤ 8) (x : Int32) : Met l yX8_count wsX8_count ({ frames := 2, cells := 0, slots := 0, locals := 43 } : Room) (va_Pc [.ref (a), .int (x)] (fun U => va_P (dC, dI) vwCl (mW cI a o f g h) U.heap ∧ va_K (dC, dI) vwCl [(cI, .int)] U)) (vp_Si (fun r => r = mCount f g k1 k6 k7 k10 x)) 0 0 (fun _ => False) := by
  refine Met.ofW (cc := cX8_count) (maxL := 2) (ret := (some .int)) (by decide) rfl ?_
  intro p_ e_ s m args below meth c_0 s₁ B hml hv
  obtain ⟨rfl, hP, hK⟩ := hv
  have hx := B.exec
  have hb := B.bytes
  have hr := B.returns
  have hts := atoms_spec (ws := wsX8_count) B.pre
  have hown : s.vm.findClass RX8 = some m.cls := findClass_of_methodNamed B.named
  have hlocks := B.notSynchronized
  have hP : va_P (dC, dI) vwCl (mW cI a o f g h) s.heap := hP
  have hl := lv_entry ([.ref (a), .int (x)]) (n := 2) (Nat.le_of_ble_eq_true rfl)
  rw [lg_entry_eq]
  generalize (lg_sl ([.ref (a), .int (x)]) ++ List.replicate (2 - (lg_sl ([.ref (a), .int (x)])).length) Slot.unset).toArray = ls at hl ⊢
  have hl : lv_has ls 2 [(0, .ref (a)), (1, .int (x))] := hl
  refine lv_aload_n hx hb dX8_count_0 rfl (lv_at hl 0 rfl) ?_
  refine lv_iload_n hx hb dX8_count_1 rfl (lv_at hl 1 rfl) ?_
  refine vp_callSi (va_Run.run (va_runV (As := [.int (x)]) (rest := []) ⟨hx, hb, hml, hown, hts⟩ (c8_countOf l dC dI cI a o (f) (g) (h) e1 (by omega) e6 (by omega) e7 (by omega) e10 (by omega) (x) ) (cwV 1 hts gX8_count_X8_countOf rfl rfl rfl (by decide +kernel) ⟨Nat.le_of_ble_eq_true rfl, Nat.le_of_ble_eq_true rfl⟩) ⟨fun a U g mk q => ⟨q.1, q.2.1, va_K.moved (u := U) (U := U.calling g mk a) (Vm.Alike.refl U.vm) q.2.2⟩, va_recv hK hP (ci := 8) (q0 := 0) rfl rfl, fun U hU hW => ⟨rfl, by rw [hU]; exact hP, va_K.moved hW.alike hK⟩⟩ rfl rfl hl.1 rfl (lv_room (Nat.le_of_ble_eq_true rfl)) dX8_count_2 ⟨Nat.le_of_ble_eq_true rfl, Nat.le_of_ble_eq_true rfl⟩)) (fun r hrc => ?_)
  have hrc : r = mCount (f) (g) (k1) (k6) (k7) (k10) (x) := hrc
  subst hrc
  exact W.iret (v := mCount (f) (g) (k1) (k6) (k7) (k10) (x)) hx hb hr (fun t ht hW => ⟨mCount (f) (g) (k1) (k6) (k7) (k10) (x), rfl, (by show mCount (f) (g) (k1) (k6) (k7) (k10) (x) = mCount f g k1 k6 k7 k10 x; rfl), ht⟩) (fun _ h => by cases h) dX8_count_5

set_option maxHeartbeats 1200000 in
set_option maxRecDepth 100000 in
theorem c8_readsAlike (l : Launch) (dC : Nat → ClassId) (dI : Nat → Nat → Nat) (cI : ClassId) (a : Nat) (o : Nat → Nat) (f : Nat → Int32) (g : Nat → Nat → Int32) (h : Int64) (x : Int32) (y : Int32) (p : Nat) (hp : p < 4) : Met l yX8_readsAlike wsX8_readsAlike ({ frames := 2, cells := 0, slots := 0, locals := 47 } : Room) (va_Pc [.ref (a), .int (nI (p)), .int (x), .int (y)] (fun U => va_P (dC, dI) vwCl (mW cI a o f g h) U.heap ∧ va_K (dC, dI) vwCl [(cI, .int)] U)) (vp_Si (fun r => r = b2i (mLike g p x y = true))) 0 0 (fun _ => False) := by
  refine Met.ofW (cc := cX8_readsAlike) (maxL := 6) (ret := (some .boolean)) (by decide) rfl ?_
  intro p_ e_ s m args below meth c_0 s₁ B hml hv
  obtain ⟨rfl, hP, hK⟩ := hv
  have hx := B.exec
  have hb := B.bytes
  have hr := B.returns
  have hts := atoms_spec (ws := wsX8_readsAlike) B.pre
  have hown : s.vm.findClass RX8 = some m.cls := findClass_of_methodNamed B.named
  have hlocks := B.notSynchronized
  have hP : va_P (dC, dI) vwCl (mW cI a o f g h) s.heap := hP
  have hl := lv_entry ([.ref (a), .int (nI (p)), .int (x), .int (y)]) (n := 6) (Nat.le_of_ble_eq_true rfl)
  rw [lg_entry_eq]
  generalize (lg_sl ([.ref (a), .int (nI (p)), .int (x), .int (y)]) ++ List.replicate (6 - (lg_sl ([.ref (a), .int (nI (p)), .int (x), .int (y)])).length) Slot.unset).toArray = ls at hl ⊢
  have hl : lv_has ls 6 [(0, .ref (a)), (1, .int (nI (p))), (2, .int (x)), (3, .int (y))] := hl
  have hin8 : ∀ w ∈ wsX80, w ∈ wsX8_readsAlike := fun _ h => List.mem_cons_of_mem _ (List.mem_append_right _ h)
  have hW0 := hts (.fieldLink RX8 16 "EachEyeModel" "rows" "[I") (by decide +kernel)
  have hW1 := hts (.fieldLink RX8 13 "EachEyeModel" "hues" "[I") (by decide +kernel)
  refine lv_iconst (v := nI (1)) hx hb dX8_readsAlike_0 (by decide +kernel) ?_
  refine lv_istore (lv' := [(4, .int (nI (1))), (0, .ref (a)), (1, .int (nI (p))), (2, .int (x)), (3, .int (y))]) hx hb dX8_readsAlike_1 hl (by decide) rfl (fun ls hl => ?_)
  refine lv_iconst (v := nI (0)) hx hb dX8_readsAlike_3 (by decide +kernel) ?_
  refine lv_istore (lv' := [(5, .int (nI (0))), (4, .int (nI (1))), (0, .ref (a)), (1, .int (nI (p))), (2, .int (x)), (3, .int (y))]) hx hb dX8_readsAlike_4 hl (by decide) rfl (fun ls hl => ?_)
  have e0_4 : (nI (1)) = b2i (alB (mLikeAt g p x y) 0 = true) := b2i_t rfl
  refine lp_ro (fun k : Nat => 6 - k) (fun k : Nat => k ≤ 6) (fun k : Nat => [(0, .ref (a)), (1, .int (nI (p))), (2, .int (x)), (3, .int (y)), (4, .int (b2i (alB (mLikeAt g p x y) k = true))), (5, .int (nI (k)))]) (0) (by omega) (by show lv_has ls 6 [(0, .ref (a)), (1, .int (nI (p))), (2, .int (x)), (3, .int (y)), (4, .int (b2i (alB (mLikeAt g p x y) 0 = true))), (5, .int (nI (0)))]; rw [← e0_4]; exact lv_sub hl [2, 3, 4, 5, 1, 0] rfl) (fun k hI ih_6 ls hl => ?_)
  have hI : k ≤ 6 := hI
  have hl : lv_has ls 6 [(0, .ref (a)), (1, .int (nI (p))), (2, .int (x)), (3, .int (y)), (4, .int (b2i (alB (mLikeAt g p x y) k = true))), (5, .int (nI (k)))] := hl
  refine lv_iload hx hb dX8_readsAlike_6 (lv_at hl 5 rfl) ?_
  refine lv_bipush (v := nI (6)) hx hb dX8_readsAlike_8 (by decide +kernel) ?_
  refine lv_icmp_ge (tgt := 67) hx hb dX8_readsAlike_10 (by decide) (fun c_1 => ?_) (fun c_1 => ?_)
  · skip
    rw [nI_leI (a := 6) (b := k) (by omega) (by omega)] at c_1
    have hE : 6 = k := by omega
    subst hE
    refine lv_iload hx hb dX8_readsAlike_67 (lv_at hl 4 rfl) ?_
    exact W.zret (ty := .boolean) (v := b2i (alB (mLikeAt g p x y) 6 = true)) hx hb hr nar_b2i (fun t ht hW => ⟨b2i (alB (mLikeAt g p x y) 6 = true), rfl, (by show b2i (alB (mLikeAt g p x y) 6 = true) = b2i (mLike g p x y = true); rfl), ht⟩) (fun _ h => by cases h) dX8_readsAlike_69
  · skip
    rw [nI_leI (a := 6) (b := k) (by omega) (by omega)] at c_1
    refine lv_iload hx hb dX8_readsAlike_13 (lv_at hl 4 rfl) ?_
    refine lv_if_eq (tgt := 58) hx hb dX8_readsAlike_15 (by decide) (fun c_2 => ?_) (fun c_2 => ?_)
    · skip
      have c_2 := b2i_0 c_2
      refine lv_iconst (v := nI (0)) hx hb dX8_readsAlike_58 (by decide +kernel) ?_
      refine lv_istore (lv' := [(4, .int (nI (0))), (0, .ref (a)), (1, .int (nI (p))), (2, .int (x)), (3, .int (y)), (5, .int (nI (k)))]) hx hb dX8_readsAlike_59 hl (by decide) rfl (fun ls hl => ?_)
      refine lv_iinc (v := nI (k + 1)) (lv' := [(5, .int (nI (k + 1))), (4, .int (nI (0))), (0, .ref (a)), (1, .int (nI (p))), (2, .int (x)), (3, .int (y))]) hx hb dX8_readsAlike_61 hl (k := 5) rfl (nI_1 _) (by decide) rfl (fun ls hl => ?_)
      refine lv_goto (tgt := 6) hx hb dX8_readsAlike_64 (by decide) ?_
      have e1_4 : (nI (0)) = b2i (alB (mLikeAt g p x y) (k + 1) = true) := by first | exact b2i_t (by simp [alB, mLikeAt, c_1, c_2]) | exact b2i_f (by simp [alB, mLikeAt, c_1, c_2])
      exact ih_6 (k + 1) ls (by show _ < _; omega) (by show _; omega) (by show lv_has ls 6 [(0, .ref (a)), (1, .int (nI (p))), (2, .int (x)), (3, .int (y)), (4, .int (b2i (alB (mLikeAt g p x y) (k + 1) = true))), (5, .int (nI ((k + 1))))]; rw [← e1_4]; exact lv_sub hl [2, 3, 4, 5, 1, 0] rfl)
    · skip
      have c_2 := b2i_1 c_2
      refine lv_aload_n hx hb dX8_readsAlike_18 rfl (lv_at hl 0 rfl) ?_
      refine va_get (D := (dC, dI)) (ci := 8) (v := .ref (o 8)) (C := RX8) (T := TX8) (N := 25) hx hb hts hin8 hown hK hP 0 rfl rfl 8 (by decide) hW0 (fun _ h9 => h9) rfl dX8_readsAlike_19 ?_
      refine lv_bipush (v := nI (10)) hx hb dX8_readsAlike_22 (by decide +kernel) ?_
      refine lv_iload_n hx hb dX8_readsAlike_24 rfl (lv_at hl 1 rfl) ?_
      refine lv_imul hx hb dX8_readsAlike_25 ?_
      refine tv (pk_mul (10) (p)) ?_
      refine ald hx hb hK hP (f := g 8) (k := 10 * (p)) 3 0 rfl rfl rfl (by omega) (by decide) dX8_readsAlike_26 ?_
      refine lv_iload_n hx hb dX8_readsAlike_27 rfl (lv_at hl 2 rfl) ?_
      refine lv_iload_n hx hb dX8_readsAlike_28 rfl (lv_at hl 3 rfl) ?_
      refine lv_aload_n hx hb dX8_readsAlike_29 rfl (lv_at hl 0 rfl) ?_
      refine va_get (D := (dC, dI)) (ci := 8) (v := .ref (o 5)) (C := RX8) (T := TX8) (N := 25) hx hb hts hin8 hown hK hP 0 rfl rfl 5 (by decide) hW1 (fun _ h9 => h9) rfl dX8_readsAlike_30 ?_
      refine lv_iload hx hb dX8_readsAlike_33 (lv_at hl 5 rfl) ?_
      refine ald hx hb hK hP (f := g 5) (k := k) 2 0 rfl rfl rfl (by omega) (by decide) dX8_readsAlike_35 ?_
      refine vp_callSi (va_Run.run (va_runS (As := [.int (g 8 (10 * (p))), .int (x), .int (y), .int (g 5 (k))]) (rest := []) ⟨hx, hb, hml, hown, hts⟩ (c8_seenBy l (g 8 (10 * (p))) (x) (y) (g 5 (k))) (va_cwS 4 hts gX8_readsAlike_X8_seenBy rfl rfl rfl (by decide +kernel) ⟨Nat.le_of_ble_eq_true rfl, Nat.le_of_ble_eq_true rfl⟩) ⟨fun _ _ _ _ q => q, fun U hU hW => ⟨rfl, trivial⟩⟩ rfl rfl hl.1 rfl (lv_room (Nat.le_of_ble_eq_true rfl)) dX8_readsAlike_36 ⟨Nat.le_of_ble_eq_true rfl, Nat.le_of_ble_eq_true rfl⟩)) (fun r hrc => ?_)
      have hrc : r = see (g 8 (10 * (p))) (x) (y) (g 5 (k)) := hrc
      subst hrc
      refine lv_aload_n hx hb dX8_readsAlike_39 rfl (lv_at hl 0 rfl) ?_
      refine lv_iload_n hx hb dX8_readsAlike_40 rfl (lv_at hl 1 rfl) ?_
      refine lv_aload_n hx hb dX8_readsAlike_41 rfl (lv_at hl 0 rfl) ?_
      refine va_get (D := (dC, dI)) (ci := 8) (v := .ref (o 5)) (C := RX8) (T := TX8) (N := 25) hx hb hts hin8 hown hK hP 0 rfl rfl 5 (by decide) hW1 (fun _ h9 => h9) rfl dX8_readsAlike_42 ?_
      refine lv_iload hx hb dX8_readsAlike_45 (lv_at hl 5 rfl) ?_
      refine ald hx hb hK hP (f := g 5) (k := k) 2 0 rfl rfl rfl (by omega) (by decide) dX8_readsAlike_47 ?_
      refine vp_callSi (va_Run.run (va_runV (As := [.int (nI (p)), .int (g 5 (k))]) (rest := [.int (see (g 8 (10 * (p))) (x) (y) (g 5 (k)))]) ⟨hx, hb, hml, hown, hts⟩ (c8_seesOf l dC dI cI a o (f) (g) (h)  (g 5 (k)) (p) (by omega)) (cwV 2 hts gX8_readsAlike_X8_seesOf rfl rfl rfl (by decide +kernel) ⟨Nat.le_of_ble_eq_true rfl, Nat.le_of_ble_eq_true rfl⟩) ⟨fun a U g mk q => ⟨q.1, q.2.1, va_K.moved (u := U) (U := U.calling g mk a) (Vm.Alike.refl U.vm) q.2.2⟩, va_recv hK hP (ci := 8) (q0 := 0) rfl rfl, fun U hU hW => ⟨rfl, by rw [hU]; exact hP, va_K.moved hW.alike hK⟩⟩ rfl rfl hl.1 rfl (lv_room (Nat.le_of_ble_eq_true rfl)) dX8_readsAlike_48 ⟨Nat.le_of_ble_eq_true rfl, Nat.le_of_ble_eq_true rfl⟩)) (fun r hrc => ?_)
      have hrc : r = mS (g) (p) (g 5 (k)) := hrc
      subst hrc
      refine lv_icmp_ne (tgt := 58) hx hb dX8_readsAlike_51 (by decide) (fun c_3 => ?_) (fun c_3 => ?_)
      · skip
        refine lv_iconst (v := nI (0)) hx hb dX8_readsAlike_58 (by decide +kernel) ?_
        refine lv_istore (lv' := [(4, .int (nI (0))), (0, .ref (a)), (1, .int (nI (p))), (2, .int (x)), (3, .int (y)), (5, .int (nI (k)))]) hx hb dX8_readsAlike_59 hl (by decide) rfl (fun ls hl => ?_)
        refine lv_iinc (v := nI (k + 1)) (lv' := [(5, .int (nI (k + 1))), (4, .int (nI (0))), (0, .ref (a)), (1, .int (nI (p))), (2, .int (x)), (3, .int (y))]) hx hb dX8_readsAlike_61 hl (k := 5) rfl (nI_1 _) (by decide) rfl (fun ls hl => ?_)
        refine lv_goto (tgt := 6) hx hb dX8_readsAlike_64 (by decide) ?_
        have e1_4 : (nI (0)) = b2i (alB (mLikeAt g p x y) (k + 1) = true) := by first | exact b2i_t (by simp [alB, mLikeAt, c_1, c_2, c_3]) | exact b2i_f (by simp [alB, mLikeAt, c_1, c_2, c_3])
        exact ih_6 (k + 1) ls (by show _ < _; omega) (by show _; omega) (by show lv_has ls 6 [(0, .ref (a)), (1, .int (nI (p))), (2, .int (x)), (3, .int (y)), (4, .int (b2i (alB (mLikeAt g p x y) (k + 1) = true))), (5, .int (nI ((k + 1))))]; rw [← e1_4]; exact lv_sub hl [2, 3, 4, 5, 1, 0] rfl)
      · skip
        refine lv_iconst (v := nI (1)) hx hb dX8_readsAlike_54 (by decide +kernel) ?_
        refine lv_goto (tgt := 59) hx hb dX8_readsAlike_55 (by decide) ?_
        refine lv_istore (lv' := [(4, .int (nI (1))), (0, .ref (a)), (1, .int (nI (p))), (2, .int (x)), (3, .int (y)), (5, .int (nI (k)))]) hx hb dX8_readsAlike_59 hl (by decide) rfl (fun ls hl => ?_)
        refine lv_iinc (v := nI (k + 1)) (lv' := [(5, .int (nI (k + 1))), (4, .int (nI (1))), (0, .ref (a)), (1, .int (nI (p))), (2, .int (x)), (3, .int (y))]) hx hb dX8_readsAlike_61 hl (k := 5) rfl (nI_1 _) (by decide) rfl (fun ls hl => ?_)
        refine lv_goto (tgt := 6) hx hb dX8_readsAlike_64 (by decide) ?_
        have e1_4 : (nI (1)) = b2i (alB (mLikeAt g p x y) (k + 1) = true) := by first | exact b2i_t (by simp [alB, mLikeAt, c_1, c_2, c_3]) | exact b2i_f (by simp [alB, mLikeAt, c_1, c_2, c_3])
        exact ih_6 (k + 1) ls (by show _ < _; omega) (by show _; omega) (by show lv_has ls 6 [(0, .ref (a)), (1, .int (nI (p))), (2, .int (x)), (3, .int (y)), (4, .int (b2i (alB (mLikeAt g p x y) (k + 1) = true))), (5, .int (nI ((k + 1))))]; rw [← e1_4]; exact lv_sub hl [2, 3, 4, 5, 1, 0] rfl)
