set_option maxHeartbeats 1200000 in
set_option maxRecDepth 100000 in
theorem c8_letter (l : Launch) (dC : Nat → ClassId) (dI : Nat → Nat → Nat) (cI : ClassId) (a : Nat) (o : Nat → Nat) (f : Nat → Int32) (g : Nat → Nat → Int32) (h : Int64) (sz : Nat) {k1 : Nat} (e1 : f 1 = nI k1) (b1 : k1 ≤ 10) (x : Int32) : Met l yX8_letter wsX8_letter ({ frames := 1, cells := 0, slots := 0, locals := 25 } : Room) (va_Pc [.ref (a), .int (x)] (fun U => U.heap.size = sz ∧ va_P (dC, dI) vwCl (mW cI a o f g h) U.heap ∧ va_K (dC, dI) vwCl [(cI, .int)] U ∧ va_D (fun _ => True) (mW cI a o f g h))) (va_Qi (fun (r : Int32) (u : MSt) => (r, u) = mLetter f g h k1 x) (mB dC dI cI a o (va_A (mW cI a o f g h) sz)) (va_A (mW cI a o f g h) sz)) 0 0 (va_A (mW cI a o f g h) sz) := by
  refine Met.ofW (cc := cX8_letter) (maxL := 2) (ret := (some .int)) (by decide) rfl ?_
  intro p_ e_ s m args below meth c_0 s₁ B hml hv
  obtain ⟨rfl, hsz, hP, hK, hD0⟩ := hv
  have hx := B.exec
  have hb := B.bytes
  have hr := B.returns
  have hts := atoms_spec (ws := wsX8_letter) B.pre
  have hown : s.vm.findClass RX8 = some m.cls := findClass_of_methodNamed B.named
  have hlocks := B.notSynchronized
  subst hsz
  have hD := hD0.self (sz := s.heap.size)
  generalize hAe : va_A (mW cI a o f g h) s.heap.size = A at hD ⊢
  have hA : ∀ q : Nat, s.heap.size ≤ q → A q := fun q h => by rw [← hAe]; exact Or.inr h
  obtain ⟨H, hHe⟩ : ∃ H : Heap, H = s.heap := ⟨_, rfl⟩
  have hS : va_S A s.heap H [] := by rw [hHe]; exact va_S.rf
  rw [← hHe] at hP ⊢
  have hP : va_P (dC, dI) vwCl (mW cI a o f g h) H := hP
  have hl := lv_entry ([.ref (a), .int (x)]) (n := 2) (Nat.le_of_ble_eq_true rfl)
  rw [lg_entry_eq]
  generalize (lg_sl ([.ref (a), .int (x)]) ++ List.replicate (2 - (lg_sl ([.ref (a), .int (x)])).length) Slot.unset).toArray = ls at hl ⊢
  have hl : lv_has ls 2 [(0, .ref (a)), (1, .int (x))] := hl
  have hin8 : ∀ w ∈ wsX80, w ∈ wsX8_letter := fun _ h => List.mem_cons_of_mem _ (List.mem_append_right _ h)
  have hW0 := hts (.constantLong RX8 50 (126)) (by decide +kernel)
  have hW1 := hts (.fieldLink RX8 52 "EachEyeModel" "pageMany" "I") (by decide +kernel)
  have hW2 := hts (.fieldLink RX8 7 "EachEyeModel" "page" "[I") (by decide +kernel)
  refine lv_iload_n hx hb dX8_letter_0 rfl (lv_at hl 1 rfl) ?_
  refine lv_i2l hx hb dX8_letter_1 rfl ?_
  refine lv_lconst (v := 1) hx hb dX8_letter_2 (by decide +kernel) ?_
  refine lv_ldc2 (v := 126) hx hb hown hW0 dX8_letter_3 ?_
  refine vp_callSi (va_Run.run (va_runS (As := [.long ((x).toInt64), .long (1), .long (126)]) (rest := []) ⟨hx, hb, hml, hown, hts⟩ (c8_in l (x) (1) (126) (1) (126) rfl rfl) (va_cwS 3 hts gX8_letter_X8_in rfl rfl rfl (by decide +kernel) ⟨Nat.le_of_ble_eq_true rfl, Nat.le_of_ble_eq_true rfl⟩) ⟨fun _ _ _ _ q => q, fun U hU hW => ⟨rfl, trivial⟩⟩ rfl rfl hl.1 rfl (lv_room (Nat.le_of_ble_eq_true rfl)) dX8_letter_6 ⟨Nat.le_of_ble_eq_true rfl, Nat.le_of_ble_eq_true rfl⟩)) (fun r hrc => ?_)
  have hrc : r = b2i ((1) ≤ (x).toInt ∧ (x).toInt ≤ (126)) := hrc
  subst hrc
  refine lv_if_ne (tgt := 15) hx hb dX8_letter_9 (by decide) (fun c_1 => ?_) (fun c_1 => ?_)
  · skip
    have c_1 := b2i_1 c_1
    refine lv_aload_n hx hb dX8_letter_15 rfl (lv_at hl 0 rfl) ?_
    refine va_get (D := (dC, dI)) (ci := 8) (v := .int (nI (k1))) (C := RX8) (T := TX8) (N := 25) hx hb hts hin8 hown hK hP 0 rfl rfl 1 (by decide) hW1 (fun _ h9 => h9) (congrArg (fun z => some (Value.int z)) e1) dX8_letter_16 ?_
    refine lv_bipush (v := nI (10)) hx hb dX8_letter_19 (by decide +kernel) ?_
    refine lv_icmp_ne (tgt := 27) hx hb dX8_letter_21 (by decide) (fun c_2 => ?_) (fun c_2 => ?_)
    · skip
      rw [nI_eq (a := k1) (b := 10) (by omega) (by omega)] at c_2
      refine lv_aload_n hx hb dX8_letter_27 rfl (lv_at hl 0 rfl) ?_
      refine va_get (D := (dC, dI)) (ci := 8) (v := .ref (o 0)) (C := RX8) (T := TX8) (N := 25) hx hb hts hin8 hown hK hP 0 rfl rfl 0 (by decide) hW2 (fun _ h9 => h9) rfl dX8_letter_28 ?_
      refine lv_aload_n hx hb dX8_letter_31 rfl (lv_at hl 0 rfl) ?_
      refine va_get (D := (dC, dI)) (ci := 8) (v := .int (nI (k1))) (C := RX8) (T := TX8) (N := 25) hx hb hts hin8 hown hK hP 0 rfl rfl 1 (by decide) hW1 (fun _ h9 => h9) (congrArg (fun z => some (Value.int z)) e1) dX8_letter_32 ?_
      refine lv_iload_n hx hb dX8_letter_35 rfl (lv_at hl 1 rfl) ?_
      refine ast hx hb hK hP hD hS (f := g 0) (k := k1) 1 0 rfl rfl rfl (by omega) (by decide) dX8_letter_36 (fun H locs hP hD hS => ?_)
      have hP : va_P (dC, dI) vwCl (mW cI a o (f) (su g 0 (su (g 0) (k1) (x))) (h)) H := hP
      have hD : va_D A (mW cI a o (f) (su g 0 (su (g 0) (k1) (x))) (h)) := hD
      refine lv_aload_n hx hb dX8_letter_37 rfl (lv_at hl 0 rfl) ?_
      refine lv_dup hx hb dX8_letter_38 rfl ?_
      refine va_get (D := (dC, dI)) (ci := 8) (v := .int (nI (k1))) (C := RX8) (T := TX8) (N := 25) hx hb hts hin8 hown hK hP 0 rfl rfl 1 (by decide) hW1 (fun _ h9 => h9) (congrArg (fun z => some (Value.int z)) e1) dX8_letter_39 ?_
      refine lv_iconst (v := nI (1)) hx hb dX8_letter_42 (by decide +kernel) ?_
      refine lv_iadd hx hb dX8_letter_43 ?_
      refine tv (nI_add (k1) (1)) ?_
      refine va_put (D := (dC, dI)) (ci := 8) (v := .int (nI (k1 + 1))) (ty := .int) (C := RX8) (T := TX8) (N := 25) hx hb hts hin8 tyX8 tyX8_ok nmX8 hown hK hP hD hS 0 rfl rfl 1 (by decide) hW1 (fun _ h9 => h9) rfl (by decide +kernel) rfl rfl (Nat.le_of_ble_eq_true rfl) dX8_letter_44 (fun H locs hP hD hS => ?_)
      have hP : va_P (dC, dI) vwCl (mW cI a o (su f 1 (nI (k1 + 1))) (su g 0 (su (g 0) (k1) (x))) (h)) H := hP
      have hD : va_D A (mW cI a o (su f 1 (nI (k1 + 1))) (su g 0 (su (g 0) (k1) (x))) (h)) := hD
      refine lv_aload_n hx hb dX8_letter_47 rfl (lv_at hl 0 rfl) ?_
      refine va_get (D := (dC, dI)) (ci := 8) (v := .int (nI (k1 + 1))) (C := RX8) (T := TX8) (N := 25) hx hb hts hin8 hown hK hP 0 rfl rfl 1 (by decide) hW1 (fun _ h9 => h9) rfl dX8_letter_48 ?_
      have hP9 : va_P (dC, dI) vwCl (mW cI a o (su f 1 (nI (k1 + 1))) (su g 0 (su (g 0) (k1) (x))) (h)) H := hP
      exact W.iret (v := nI (k1 + 1)) hx hb hr (fun t ht hW => ⟨⟨nI (k1 + 1), (su f 1 (nI (k1 + 1)), su g 0 (su (g 0) (k1) (x)), h), rfl, (by show ((nI (k1 + 1), (su f 1 (nI (k1 + 1)), su g 0 (su (g 0) (k1) (x)), h)) : _ × MSt) = mLetter f g h k1 x; first | (simp only [mLetter, if_pos c_1, if_neg c_2]; done) | (simp only [mLetter, if_pos c_1, if_neg c_2]; rfl) | rfl | (simp [mLetter, if_pos c_1, if_neg c_2]; done)), by rw [ht]; exact hP9, va_K.moved hW.alike hK, hD⟩, hS.F ht⟩) hS.2.2 dX8_letter_51
    · skip
      rw [nI_eq (a := k1) (b := 10) (by omega) (by omega)] at c_2
      refine lv_bipush (v := (-104)) hx hb dX8_letter_24 (by decide +kernel) ?_
      have hP9 : va_P (dC, dI) vwCl (mW cI a o (f) (g) (h)) H := hP
      exact W.iret (v := (-104)) hx hb hr (fun t ht hW => ⟨⟨(-104), (f, g, h), rfl, (by show (((-104), (f, g, h)) : _ × MSt) = mLetter f g h k1 x; first | (simp only [mLetter, if_pos c_1, if_pos c_2]; done) | (simp only [mLetter, if_pos c_1, if_pos c_2]; rfl) | rfl | (simp [mLetter, if_pos c_1, if_pos c_2]; done)), by rw [ht]; exact hP9, va_K.moved hW.alike hK, hD⟩, hS.F ht⟩) hS.2.2 dX8_letter_26
  · skip
    have c_1 := b2i_0 c_1
    refine lv_bipush (v := (-102)) hx hb dX8_letter_12 (by decide +kernel) ?_
    have hP9 : va_P (dC, dI) vwCl (mW cI a o (f) (g) (h)) H := hP
    exact W.iret (v := (-102)) hx hb hr (fun t ht hW => ⟨⟨(-102), (f, g, h), rfl, (by show (((-102), (f, g, h)) : _ × MSt) = mLetter f g h k1 x; first | (simp only [mLetter, if_neg c_1]; done) | (simp only [mLetter, if_neg c_1]; rfl) | rfl | (simp [mLetter, if_neg c_1]; done)), by rw [ht]; exact hP9, va_K.moved hW.alike hK, hD⟩, hS.F ht⟩) hS.2.2 dX8_letter_14

set_option maxHeartbeats 1200000 in
set_option maxRecDepth 100000 in
theorem c8_blank (l : Launch) (dC : Nat → ClassId) (dI : Nat → Nat → Nat) (cI : ClassId) (a : Nat) (o : Nat → Nat) (f : Nat → Int32) (g : Nat → Nat → Int32) (h : Int64) (sz : Nat) {k1 : Nat} (e1 : f 1 = nI k1) (b1 : k1 ≤ 10) : Met l yX8_blank wsX8_blank ({ frames := 0, cells := 0, slots := 0, locals := 0 } : Room) (va_Pc [.ref (a)] (fun U => U.heap.size = sz ∧ va_P (dC, dI) vwCl (mW cI a o f g h) U.heap ∧ va_K (dC, dI) vwCl [(cI, .int)] U ∧ va_D (fun _ => True) (mW cI a o f g h))) (va_Qi (fun (r : Int32) (u : MSt) => (r, u) = mBlank f g h k1) (mB dC dI cI a o (va_A (mW cI a o f g h) sz)) (va_A (mW cI a o f g h) sz)) 0 0 (va_A (mW cI a o f g h) sz) := by
  refine Met.ofW (cc := cX8_blank) (maxL := 2) (ret := (some .int)) (by decide) rfl ?_
  intro p_ e_ s m args below meth c_0 s₁ B hml hv
  obtain ⟨rfl, hsz, hP, hK, hD0⟩ := hv
  have hx := B.exec
  have hb := B.bytes
  have hr := B.returns
  have hts := atoms_spec (ws := wsX8_blank) B.pre
  have hown : s.vm.findClass RX8 = some m.cls := findClass_of_methodNamed B.named
  have hlocks := B.notSynchronized
  subst hsz
  have hD := hD0.self (sz := s.heap.size)
  generalize hAe : va_A (mW cI a o f g h) s.heap.size = A at hD ⊢
  have hA : ∀ q : Nat, s.heap.size ≤ q → A q := fun q h => by rw [← hAe]; exact Or.inr h
  obtain ⟨H, hHe⟩ : ∃ H : Heap, H = s.heap := ⟨_, rfl⟩
  have hS : va_S A s.heap H [] := by rw [hHe]; exact va_S.rf
  rw [← hHe] at hP ⊢
  have hP : va_P (dC, dI) vwCl (mW cI a o f g h) H := hP
  have hl := lv_entry ([.ref (a)]) (n := 2) (Nat.le_of_ble_eq_true rfl)
  rw [lg_entry_eq]
  generalize (lg_sl ([.ref (a)]) ++ List.replicate (2 - (lg_sl ([.ref (a)])).length) Slot.unset).toArray = ls at hl ⊢
  have hl : lv_has ls 2 [(0, .ref (a))] := hl
  have hin8 : ∀ w ∈ wsX80, w ∈ wsX8_blank := fun _ h => List.mem_cons_of_mem _ (List.mem_append_right _ h)
  have hW0 := hts (.fieldLink RX8 52 "EachEyeModel" "pageMany" "I") (by decide +kernel)
  refine lv_aload_n hx hb dX8_blank_0 rfl (lv_at hl 0 rfl) ?_
  refine va_get (D := (dC, dI)) (ci := 8) (v := .int (nI (k1))) (C := RX8) (T := TX8) (N := 25) hx hb hts hin8 hown hK hP 0 rfl rfl 1 (by decide) hW0 (fun _ h9 => h9) (congrArg (fun z => some (Value.int z)) e1) dX8_blank_1 ?_
  refine lv_istore_n (lv' := [(1, .int (nI (k1))), (0, .ref (a))]) hx hb dX8_blank_4 rfl hl (by decide) rfl (fun ls hl => ?_)
  refine lv_aload_n hx hb dX8_blank_5 rfl (lv_at hl 1 rfl) ?_
  refine lv_iconst (v := nI (0)) hx hb dX8_blank_6 (by decide +kernel) ?_
  refine va_put (D := (dC, dI)) (ci := 8) (v := .int (nI (0))) (ty := .int) (C := RX8) (T := TX8) (N := 25) hx hb hts hin8 tyX8 tyX8_ok nmX8 hown hK hP hD hS 0 rfl rfl 1 (by decide) hW0 (fun _ h9 => h9) rfl (by decide +kernel) rfl rfl (Nat.le_of_ble_eq_true rfl) dX8_blank_7 (fun H locs hP hD hS => ?_)
  have hP : va_P (dC, dI) vwCl (mW cI a o (su f 1 (nI (0))) (g) (h)) H := hP
  have hD : va_D A (mW cI a o (su f 1 (nI (0))) (g) (h)) := hD
  refine lv_iload_n hx hb dX8_blank_10 rfl (lv_at hl 0 rfl) ?_
  have hP9 : va_P (dC, dI) vwCl (mW cI a o (su f 1 (nI (0))) (g) (h)) H := hP
  exact W.iret (v := nI (k1)) hx hb hr (fun t ht hW => ⟨⟨nI (k1), (su f 1 (nI (0)), g, h), rfl, (by show ((nI (k1), (su f 1 (nI (0)), g, h)) : _ × MSt) = mBlank f g h k1; first | (simp only [mBlank]; done) | (simp only [mBlank]; rfl) | rfl | (simp [mBlank]; done)), by rw [ht]; exact hP9, va_K.moved hW.alike hK, hD⟩, hS.F ht⟩) hS.2.2 dX8_blank_11

set_option maxHeartbeats 1200000 in
set_option maxRecDepth 100000 in
theorem c8_sign (l : Launch) (dC : Nat → ClassId) (dI : Nat → Nat → Nat) (cI : ClassId) (a : Nat) (o : Nat → Nat) (f : Nat → Int32) (g : Nat → Nat → Int32) (h : Int64) (sz : Nat) {k1 : Nat} (e1 : f 1 = nI k1) (b1 : k1 ≤ 10) : Met l yX8_sign wsX8_sign ({ frames := 3, cells := 0, slots := 0, locals := 66 } : Room) (va_Pc [.ref (a)] (fun U => U.heap.size = sz ∧ va_P (dC, dI) vwCl (mW cI a o f g h) U.heap ∧ va_K (dC, dI) vwCl [(cI, .int)] U ∧ va_D (fun _ => True) (mW cI a o f g h))) (va_Qi (fun (r : Int32) (u : MSt) => (r, u) = mSign f g h k1) (mB dC dI cI a o (va_A (mW cI a o f g h) sz)) (va_A (mW cI a o f g h) sz)) 0 0 (va_A (mW cI a o f g h) sz) := by
  refine Met.ofW (cc := cX8_sign) (maxL := 2) (ret := (some .int)) (by decide) rfl ?_
  intro p_ e_ s m args below meth c_0 s₁ B hml hv
  obtain ⟨rfl, hsz, hP, hK, hD0⟩ := hv
  have hx := B.exec
  have hb := B.bytes
  have hr := B.returns
  have hts := atoms_spec (ws := wsX8_sign) B.pre
  have hown : s.vm.findClass RX8 = some m.cls := findClass_of_methodNamed B.named
  have hlocks := B.notSynchronized
  subst hsz
  have hD := hD0.self (sz := s.heap.size)
  generalize hAe : va_A (mW cI a o f g h) s.heap.size = A at hD ⊢
  have hA : ∀ q : Nat, s.heap.size ≤ q → A q := fun q h => by rw [← hAe]; exact Or.inr h
  obtain ⟨H, hHe⟩ : ∃ H : Heap, H = s.heap := ⟨_, rfl⟩
  have hS : va_S A s.heap H [] := by rw [hHe]; exact va_S.rf
  rw [← hHe] at hP ⊢
  have hP : va_P (dC, dI) vwCl (mW cI a o f g h) H := hP
  have hl := lv_entry ([.ref (a)]) (n := 2) (Nat.le_of_ble_eq_true rfl)
  rw [lg_entry_eq]
  generalize (lg_sl ([.ref (a)]) ++ List.replicate (2 - (lg_sl ([.ref (a)])).length) Slot.unset).toArray = ls at hl ⊢
  have hl : lv_has ls 2 [(0, .ref (a))] := hl
  have hin8 : ∀ w ∈ wsX80, w ∈ wsX8_sign := fun _ h => List.mem_cons_of_mem _ (List.mem_append_right _ h)
  have hW0 := hts (.fieldLink RX8 71 "EachEyeModel" "people" "I") (by decide +kernel)
  have hW1 := hts (.fieldLink RX8 74 "EachEyeModel" "inks" "I") (by decide +kernel)
  have hW2 := hts (.fieldLink RX8 77 "EachEyeModel" "cards" "I") (by decide +kernel)
  have hW3 := hts (.fieldLink RX8 80 "EachEyeModel" "layers" "I") (by decide +kernel)
  have hW4 := hts (.fieldLink RX8 63 "EachEyeModel" "isThere" "Z") (by decide +kernel)
  have hW5 := hts (.fieldLink RX8 83 "EachEyeModel" "signsRead" "I") (by decide +kernel)
  have hW6 := hts (.fieldLink RX8 52 "EachEyeModel" "pageMany" "I") (by decide +kernel)
  have hW7 := hts (.fieldLink RX8 13 "EachEyeModel" "hues" "[I") (by decide +kernel)
  have hW8 := hts (.fieldLink RX8 7 "EachEyeModel" "page" "[I") (by decide +kernel)
  refine lv_aload_n hx hb dX8_sign_0 rfl (lv_at hl 0 rfl) ?_
  refine vp_callSi (va_Run.run (va_runV (As := []) (rest := []) ⟨hx, hb, hml, hown, hts⟩ (c8_isSix l dC dI cI a o (f) (g) (h) e1 (by omega)  ) (cwV 0 hts gX8_sign_X8_isSix rfl rfl rfl (by decide +kernel) ⟨Nat.le_of_ble_eq_true rfl, Nat.le_of_ble_eq_true rfl⟩) ⟨fun a U g mk q => ⟨q.1, q.2.1, va_K.moved (u := U) (U := U.calling g mk a) (Vm.Alike.refl U.vm) q.2.2⟩, va_recv hK hP (ci := 8) (q0 := 0) rfl rfl, fun U hU hW => ⟨rfl, by rw [hU]; exact hP, va_K.moved hW.alike hK⟩⟩ rfl rfl hl.1 rfl (lv_room (Nat.le_of_ble_eq_true rfl)) dX8_sign_1 ⟨Nat.le_of_ble_eq_true rfl, Nat.le_of_ble_eq_true rfl⟩)) (fun r hrc => ?_)
  have hrc : r = b2i ((k1) = 6 ∧ mfl (g) (k1) = 6) := hrc
  subst hrc
  refine lv_if_ne (tgt := 10) hx hb dX8_sign_4 (by decide) (fun c_1 => ?_) (fun c_1 => ?_)
  · skip
    have c_1 := b2i_1 c_1
    refine lv_iconst (v := nI (0)) hx hb dX8_sign_10 (by decide +kernel) ?_
    refine lv_istore_n (lv' := [(1, .int (nI (0))), (0, .ref (a))]) hx hb dX8_sign_11 rfl hl (by decide) rfl (fun ls hl => ?_)
    have hP0 : va_P (dC, dI) vwCl (mW cI a o (f) (su g 5 (fil (g 5) (fun j => g 0 j - nI 48) (0))) (h)) H := by rw [fil_0]; exact hP
    have hD0 : va_D A (mW cI a o (f) (su g 5 (fil (g 5) (fun j => g 0 j - nI 48) (0))) (h)) := by rw [fil_0]; exact hD
    refine lp_rw (fun k : Nat => 6 - k) (fun k : Nat => k ≤ 6) (fun k : Nat => [(0, .ref (a)), (1, .int (nI (k)))]) (fun k : Nat => mW cI a o (f) (su g 5 (fil (g 5) (fun j => g 0 j - nI 48) (k))) (h)) (0) (by omega) hP0 hD0 hS (by show lv_has ls 2 [(0, .ref (a)), (1, .int (nI (0)))]; exact lv_sub hl [1, 0] rfl) (fun k hI ih_12 H locs ls hP hD hS hl => ?_)
    have hP : va_P (dC, dI) vwCl (mW cI a o (f) (su g 5 (fil (g 5) (fun j => g 0 j - nI 48) (k))) (h)) H := hP
    have hD : va_D A (mW cI a o (f) (su g 5 (fil (g 5) (fun j => g 0 j - nI 48) (k))) (h)) := hD
    have hI : k ≤ 6 := hI
    have hl : lv_has ls 2 [(0, .ref (a)), (1, .int (nI (k)))] := hl
    refine lv_iload_n hx hb dX8_sign_12 rfl (lv_at hl 1 rfl) ?_
    refine lv_bipush (v := nI (6)) hx hb dX8_sign_13 (by decide +kernel) ?_
    refine lv_icmp_ge (tgt := 39) hx hb dX8_sign_15 (by decide) (fun c_2 => ?_) (fun c_2 => ?_)
    · skip
      rw [nI_leI (a := 6) (b := k) (by omega) (by omega)] at c_2
      have hE : 6 = k := by omega
      subst hE
      refine lv_aload_n hx hb dX8_sign_39 rfl (lv_at hl 0 rfl) ?_
      refine lv_iconst (v := nI (0)) hx hb dX8_sign_40 (by decide +kernel) ?_
      refine va_put (D := (dC, dI)) (ci := 8) (v := .int (nI (0))) (ty := .int) (C := RX8) (T := TX8) (N := 25) hx hb hts hin8 tyX8 tyX8_ok nmX8 hown hK hP hD hS 0 rfl rfl 6 (by decide) hW0 (fun _ h9 => h9) rfl (by decide +kernel) rfl rfl (Nat.le_of_ble_eq_true rfl) dX8_sign_41 (fun H locs hP hD hS => ?_)
      have hP : va_P (dC, dI) vwCl (mW cI a o (su f 6 (nI (0))) (su g 5 (fil (g 5) (fun j => g 0 j - nI 48) (6))) (h)) H := hP
      have hD : va_D A (mW cI a o (su f 6 (nI (0))) (su g 5 (fil (g 5) (fun j => g 0 j - nI 48) (6))) (h)) := hD
      refine lv_aload_n hx hb dX8_sign_44 rfl (lv_at hl 0 rfl) ?_
      refine lv_iconst (v := nI (0)) hx hb dX8_sign_45 (by decide +kernel) ?_
      refine va_put (D := (dC, dI)) (ci := 8) (v := .int (nI (0))) (ty := .int) (C := RX8) (T := TX8) (N := 25) hx hb hts hin8 tyX8 tyX8_ok nmX8 hown hK hP hD hS 0 rfl rfl 7 (by decide) hW1 (fun _ h9 => h9) rfl (by decide +kernel) rfl rfl (Nat.le_of_ble_eq_true rfl) dX8_sign_46 (fun H locs hP hD hS => ?_)
      have hP : va_P (dC, dI) vwCl (mW cI a o (su (su f 6 (nI (0))) 7 (nI (0))) (su g 5 (fil (g 5) (fun j => g 0 j - nI 48) (6))) (h)) H := hP
      have hD : va_D A (mW cI a o (su (su f 6 (nI (0))) 7 (nI (0))) (su g 5 (fil (g 5) (fun j => g 0 j - nI 48) (6))) (h)) := hD
      refine lv_aload_n hx hb dX8_sign_49 rfl (lv_at hl 0 rfl) ?_
      refine lv_iconst (v := nI (0)) hx hb dX8_sign_50 (by decide +kernel) ?_
      refine va_put (D := (dC, dI)) (ci := 8) (v := .int (nI (0))) (ty := .int) (C := RX8) (T := TX8) (N := 25) hx hb hts hin8 tyX8 tyX8_ok nmX8 hown hK hP hD hS 0 rfl rfl 10 (by decide) hW2 (fun _ h9 => h9) rfl (by decide +kernel) rfl rfl (Nat.le_of_ble_eq_true rfl) dX8_sign_51 (fun H locs hP hD hS => ?_)
      have hP : va_P (dC, dI) vwCl (mW cI a o (su (su (su f 6 (nI (0))) 7 (nI (0))) 10 (nI (0))) (su g 5 (fil (g 5) (fun j => g 0 j - nI 48) (6))) (h)) H := hP
      have hD : va_D A (mW cI a o (su (su (su f 6 (nI (0))) 7 (nI (0))) 10 (nI (0))) (su g 5 (fil (g 5) (fun j => g 0 j - nI 48) (6))) (h)) := hD
      refine lv_aload_n hx hb dX8_sign_54 rfl (lv_at hl 0 rfl) ?_
      refine lv_iconst (v := nI (0)) hx hb dX8_sign_55 (by decide +kernel) ?_
      refine va_put (D := (dC, dI)) (ci := 8) (v := .int (nI (0))) (ty := .int) (C := RX8) (T := TX8) (N := 25) hx hb hts hin8 tyX8 tyX8_ok nmX8 hown hK hP hD hS 0 rfl rfl 3 (by decide) hW3 (fun _ h9 => h9) rfl (by decide +kernel) rfl rfl (Nat.le_of_ble_eq_true rfl) dX8_sign_56 (fun H locs hP hD hS => ?_)
      have hP : va_P (dC, dI) vwCl (mW cI a o (su (su (su (su f 6 (nI (0))) 7 (nI (0))) 10 (nI (0))) 3 (nI (0))) (su g 5 (fil (g 5) (fun j => g 0 j - nI 48) (6))) (h)) H := hP
      have hD : va_D A (mW cI a o (su (su (su (su f 6 (nI (0))) 7 (nI (0))) 10 (nI (0))) 3 (nI (0))) (su g 5 (fil (g 5) (fun j => g 0 j - nI 48) (6))) (h)) := hD
      refine lv_aload_n hx hb dX8_sign_59 rfl (lv_at hl 0 rfl) ?_
      refine lv_iconst (v := nI (1)) hx hb dX8_sign_60 (by decide +kernel) ?_
      refine va_put (D := (dC, dI)) (ci := 8) (v := .int (nI (1))) (ty := .boolean) (C := RX8) (T := TX8) (N := 25) hx hb hts hin8 tyX8 tyX8_ok nmX8 hown hK hP hD hS 0 rfl rfl 2 (by decide) hW4 (fun _ h9 => h9) rfl (by decide +kernel) rfl rfl (Nat.le_of_ble_eq_true rfl) dX8_sign_61 (fun H locs hP hD hS => ?_)
      have hP : va_P (dC, dI) vwCl (mW cI a o (su (su (su (su (su f 6 (nI (0))) 7 (nI (0))) 10 (nI (0))) 3 (nI (0))) 2 (nI (1))) (su g 5 (fil (g 5) (fun j => g 0 j - nI 48) (6))) (h)) H := hP
      have hD : va_D A (mW cI a o (su (su (su (su (su f 6 (nI (0))) 7 (nI (0))) 10 (nI (0))) 3 (nI (0))) 2 (nI (1))) (su g 5 (fil (g 5) (fun j => g 0 j - nI 48) (6))) (h)) := hD
      refine lv_aload_n hx hb dX8_sign_64 rfl (lv_at hl 0 rfl) ?_
      refine lv_dup hx hb dX8_sign_65 rfl ?_
      refine va_get (D := (dC, dI)) (ci := 8) (v := .int (f 4)) (C := RX8) (T := TX8) (N := 25) hx hb hts hin8 hown hK hP 0 rfl rfl 4 (by decide) hW5 (fun _ h9 => h9) rfl dX8_sign_66 ?_
      refine lv_iconst (v := nI (1)) hx hb dX8_sign_69 (by decide +kernel) ?_
      refine lv_iadd hx hb dX8_sign_70 ?_
      refine va_put (D := (dC, dI)) (ci := 8) (v := .int ((f 4) + (nI (1)))) (ty := .int) (C := RX8) (T := TX8) (N := 25) hx hb hts hin8 tyX8 tyX8_ok nmX8 hown hK hP hD hS 0 rfl rfl 4 (by decide) hW5 (fun _ h9 => h9) rfl (by decide +kernel) rfl rfl (Nat.le_of_ble_eq_true rfl) dX8_sign_71 (fun H locs hP hD hS => ?_)
      have hP : va_P (dC, dI) vwCl (mW cI a o (su (su (su (su (su (su f 6 (nI (0))) 7 (nI (0))) 10 (nI (0))) 3 (nI (0))) 2 (nI (1))) 4 ((f 4) + (nI (1)))) (su g 5 (fil (g 5) (fun j => g 0 j - nI 48) (6))) (h)) H := hP
      have hD : va_D A (mW cI a o (su (su (su (su (su (su f 6 (nI (0))) 7 (nI (0))) 10 (nI (0))) 3 (nI (0))) 2 (nI (1))) 4 ((f 4) + (nI (1)))) (su g 5 (fil (g 5) (fun j => g 0 j - nI 48) (6))) (h)) := hD
      refine lv_aload_n hx hb dX8_sign_74 rfl (lv_at hl 0 rfl) ?_
      refine lv_iconst (v := nI (0)) hx hb dX8_sign_75 (by decide +kernel) ?_
      refine va_put (D := (dC, dI)) (ci := 8) (v := .int (nI (0))) (ty := .int) (C := RX8) (T := TX8) (N := 25) hx hb hts hin8 tyX8 tyX8_ok nmX8 hown hK hP hD hS 0 rfl rfl 1 (by decide) hW6 (fun _ h9 => h9) rfl (by decide +kernel) rfl rfl (Nat.le_of_ble_eq_true rfl) dX8_sign_76 (fun H locs hP hD hS => ?_)
      have hP : va_P (dC, dI) vwCl (mW cI a o (su (su (su (su (su (su (su f 6 (nI (0))) 7 (nI (0))) 10 (nI (0))) 3 (nI (0))) 2 (nI (1))) 4 ((f 4) + (nI (1)))) 1 (nI (0))) (su g 5 (fil (g 5) (fun j => g 0 j - nI 48) (6))) (h)) H := hP
      have hD : va_D A (mW cI a o (su (su (su (su (su (su (su f 6 (nI (0))) 7 (nI (0))) 10 (nI (0))) 3 (nI (0))) 2 (nI (1))) 4 ((f 4) + (nI (1)))) 1 (nI (0))) (su g 5 (fil (g 5) (fun j => g 0 j - nI 48) (6))) (h)) := hD
      refine lv_aload_n hx hb dX8_sign_79 rfl (lv_at hl 0 rfl) ?_
      refine vp_callSi (va_Run.run (va_runV (As := []) (rest := []) ⟨hx, hb, hml, hown, hts⟩ (c8_inkedCells l dC dI cI a o (su (su (su (su (su (su (su f 6 (nI (0))) 7 (nI (0))) 10 (nI (0))) 3 (nI (0))) 2 (nI (1))) 4 ((f 4) + (nI (1)))) 1 (nI (0))) (su g 5 (fil (g 5) (fun j => g 0 j - nI 48) (6))) (h)   ) (cwV 0 hts gX8_sign_X8_inkedCells rfl rfl rfl (by decide +kernel) ⟨Nat.le_of_ble_eq_true rfl, Nat.le_of_ble_eq_true rfl⟩) ⟨fun a U g mk q => ⟨q.1, q.2.1, va_K.moved (u := U) (U := U.calling g mk a) (Vm.Alike.refl U.vm) q.2.2⟩, va_recv hK hP (ci := 8) (q0 := 0) rfl rfl, fun U hU hW => ⟨rfl, by rw [hU]; exact hP, va_K.moved hW.alike hK⟩⟩ rfl rfl hl.1 rfl (lv_room (Nat.le_of_ble_eq_true rfl)) dX8_sign_80 ⟨Nat.le_of_ble_eq_true rfl, Nat.le_of_ble_eq_true rfl⟩)) (fun r hrc => ?_)
      have hrc : r = mInk (su (su (su (su (su (su (su f 6 (nI (0))) 7 (nI (0))) 10 (nI (0))) 3 (nI (0))) 2 (nI (1))) 4 ((f 4) + (nI (1)))) 1 (nI (0))) (su g 5 (fil (g 5) (fun j => g 0 j - nI 48) (6))) := hrc
      subst hrc
      have hP9 : va_P (dC, dI) vwCl (mW cI a o (su (su (su (su (su (su (su f 6 (nI (0))) 7 (nI (0))) 10 (nI (0))) 3 (nI (0))) 2 (nI (1))) 4 ((f 4) + (nI (1)))) 1 (nI (0))) (su g 5 (fil (g 5) (fun j => g 0 j - nI 48) (6))) (h)) H := hP
      exact W.iret (v := mInk (su (su (su (su (su (su (su f 6 (nI (0))) 7 (nI (0))) 10 (nI (0))) 3 (nI (0))) 2 (nI (1))) 4 ((f 4) + (nI (1)))) 1 (nI (0))) (su g 5 (fil (g 5) (fun j => g 0 j - nI 48) (6)))) hx hb hr (fun t ht hW => ⟨⟨mInk (su (su (su (su (su (su (su f 6 (nI (0))) 7 (nI (0))) 10 (nI (0))) 3 (nI (0))) 2 (nI (1))) 4 ((f 4) + (nI (1)))) 1 (nI (0))) (su g 5 (fil (g 5) (fun j => g 0 j - nI 48) (6))), (su (su (su (su (su (su (su f 6 (nI (0))) 7 (nI (0))) 10 (nI (0))) 3 (nI (0))) 2 (nI (1))) 4 ((f 4) + (nI (1)))) 1 (nI (0)), su g 5 (fil (g 5) (fun j => g 0 j - nI 48) (6)), h), rfl, (by show ((mInk (su (su (su (su (su (su (su f 6 (nI (0))) 7 (nI (0))) 10 (nI (0))) 3 (nI (0))) 2 (nI (1))) 4 ((f 4) + (nI (1)))) 1 (nI (0))) (su g 5 (fil (g 5) (fun j => g 0 j - nI 48) (6))), (su (su (su (su (su (su (su f 6 (nI (0))) 7 (nI (0))) 10 (nI (0))) 3 (nI (0))) 2 (nI (1))) 4 ((f 4) + (nI (1)))) 1 (nI (0)), su g 5 (fil (g 5) (fun j => g 0 j - nI 48) (6)), h)) : _ × MSt) = mSign f g h k1; rw [mSign, if_pos c_1]; rfl), by rw [ht]; exact hP9, va_K.moved hW.alike hK, hD⟩, hS.F ht⟩) hS.2.2 dX8_sign_83
    · skip
      rw [nI_leI (a := 6) (b := k) (by omega) (by omega)] at c_2
      refine lv_aload_n hx hb dX8_sign_18 rfl (lv_at hl 0 rfl) ?_
      refine va_get (D := (dC, dI)) (ci := 8) (v := .ref (o 5)) (C := RX8) (T := TX8) (N := 25) hx hb hts hin8 hown hK hP 0 rfl rfl 5 (by decide) hW7 (fun _ h9 => h9) rfl dX8_sign_19 ?_
      refine lv_iload_n hx hb dX8_sign_22 rfl (lv_at hl 1 rfl) ?_
      refine lv_aload_n hx hb dX8_sign_23 rfl (lv_at hl 0 rfl) ?_
      refine va_get (D := (dC, dI)) (ci := 8) (v := .ref (o 0)) (C := RX8) (T := TX8) (N := 25) hx hb hts hin8 hown hK hP 0 rfl rfl 0 (by decide) hW8 (fun _ h9 => h9) rfl dX8_sign_24 ?_
      refine lv_iload_n hx hb dX8_sign_27 rfl (lv_at hl 1 rfl) ?_
      refine ald hx hb hK hP (f := g 0) (k := k) 1 0 rfl rfl rfl (by omega) (by decide) dX8_sign_28 ?_
      refine lv_bipush (v := nI (48)) hx hb dX8_sign_29 (by decide +kernel) ?_
      refine lv_isub hx hb dX8_sign_31 ?_
      refine ast hx hb hK hP hD hS (f := fil (g 5) (fun j => g 0 j - nI 48) (k)) (k := k) 2 0 rfl rfl rfl (by omega) (by decide) dX8_sign_32 (fun H locs hP hD hS => ?_)
      have hP : va_P (dC, dI) vwCl (mW cI a o (f) (su g 5 (su (fil (g 5) (fun j => g 0 j - nI 48) (k)) (k) ((g 0 (k)) - (nI (48))))) (h)) H := hP
      have hD : va_D A (mW cI a o (f) (su g 5 (su (fil (g 5) (fun j => g 0 j - nI 48) (k)) (k) ((g 0 (k)) - (nI (48))))) (h)) := hD
      refine lv_iinc (v := nI (k + 1)) (lv' := [(1, .int (nI (k + 1))), (0, .ref (a))]) hx hb dX8_sign_33 hl (k := 1) rfl (nI_1 _) (by decide) rfl (fun ls hl => ?_)
      refine lv_goto (tgt := 12) hx hb dX8_sign_36 (by decide) ?_
      have e2_0 : su (fil (g 5) (fun j => g 0 j - nI 48) (k)) (k) ((g 0 (k)) - (nI (48))) = fil (g 5) (fun j => g 0 j - nI 48) (k + 1) := by rw [← fil_s]
      have hP : va_P (dC, dI) vwCl (mW cI a o (f) (su g 5 (fil (g 5) (fun j => g 0 j - nI 48) (k + 1))) (h)) H := by rw [← e2_0]; exact hP
      have hD : va_D A (mW cI a o (f) (su g 5 (fil (g 5) (fun j => g 0 j - nI 48) (k + 1))) (h)) := by rw [← e2_0]; exact hD
      exact ih_12 (k + 1) H locs ls (by show _ < _; omega) (by show _; omega) hP hD hS (by show lv_has ls 2 [(0, .ref (a)), (1, .int (nI ((k + 1))))]; exact lv_sub hl [1, 0] rfl)
  · skip
    have c_1 := b2i_0 c_1
    refine lv_bipush (v := (-103)) hx hb dX8_sign_7 (by decide +kernel) ?_
    have hP9 : va_P (dC, dI) vwCl (mW cI a o (f) (g) (h)) H := hP
    exact W.iret (v := (-103)) hx hb hr (fun t ht hW => ⟨⟨(-103), (f, g, h), rfl, (by show (((-103), (f, g, h)) : _ × MSt) = mSign f g h k1; first | (simp only [mSign, mSignF, mSignG, if_neg c_1]; done) | (simp only [mSign, mSignF, mSignG, if_neg c_1]; rfl) | rfl | (simp [mSign, mSignF, mSignG, if_neg c_1]; done)), by rw [ht]; exact hP9, va_K.moved hW.alike hK, hD⟩, hS.F ht⟩) hS.2.2 dX8_sign_9

set_option maxHeartbeats 1200000 in
set_option maxRecDepth 100000 in
theorem c8_layer (l : Launch) (dC : Nat → ClassId) (dI : Nat → Nat → Nat) (cI : ClassId) (a : Nat) (o : Nat → Nat) (f : Nat → Int32) (g : Nat → Nat → Int32) (h : Int64) (sz : Nat) {k7 : Nat} (e7 : f 7 = nI k7) (b7 : k7 ≤ 5) (q : Int32) (x : Int32) : Met l yX8_layer wsX8_layer ({ frames := 2, cells := 0, slots := 0, locals := 46 } : Room) (va_Pc [.ref (a), .int (q), .int (x)] (fun U => U.heap.size = sz ∧ va_P (dC, dI) vwCl (mW cI a o f g h) U.heap ∧ va_K (dC, dI) vwCl [(cI, .int)] U ∧ va_D (fun _ => True) (mW cI a o f g h))) (va_Qi (fun (r : Int32) (u : MSt) => (r, u) = mLayer f g h k7 q x) (mB dC dI cI a o (va_A (mW cI a o f g h) sz)) (va_A (mW cI a o f g h) sz)) 0 0 (va_A (mW cI a o f g h) sz) := by
  refine Met.ofW (cc := cX8_layer) (maxL := 6) (ret := (some .int)) (by decide) rfl ?_
  intro p_ e_ s m args below meth c_0 s₁ B hml hv
  obtain ⟨rfl, hsz, hP, hK, hD0⟩ := hv
  have hx := B.exec
  have hb := B.bytes
  have hr := B.returns
  have hts := atoms_spec (ws := wsX8_layer) B.pre
  have hown : s.vm.findClass RX8 = some m.cls := findClass_of_methodNamed B.named
  have hlocks := B.notSynchronized
  subst hsz
  have hD := hD0.self (sz := s.heap.size)
  generalize hAe : va_A (mW cI a o f g h) s.heap.size = A at hD ⊢
  have hA : ∀ q : Nat, s.heap.size ≤ q → A q := fun q h => by rw [← hAe]; exact Or.inr h
  obtain ⟨H, hHe⟩ : ∃ H : Heap, H = s.heap := ⟨_, rfl⟩
  have hS : va_S A s.heap H [] := by rw [hHe]; exact va_S.rf
  rw [← hHe] at hP ⊢
  have hP : va_P (dC, dI) vwCl (mW cI a o f g h) H := hP
  have hl := lv_entry ([.ref (a), .int (q), .int (x)]) (n := 6) (Nat.le_of_ble_eq_true rfl)
  rw [lg_entry_eq]
  generalize (lg_sl ([.ref (a), .int (q), .int (x)]) ++ List.replicate (6 - (lg_sl ([.ref (a), .int (q), .int (x)])).length) Slot.unset).toArray = ls at hl ⊢
  have hl : lv_has ls 6 [(0, .ref (a)), (1, .int (q)), (2, .int (x))] := hl
  have hin8 : ∀ w ∈ wsX80, w ∈ wsX8_layer := fun _ h => List.mem_cons_of_mem _ (List.mem_append_right _ h)
  have hW0 := hts (.constantLong RX8 95 (63)) (by decide +kernel)
  have hW1 := hts (.fieldLink RX8 80 "EachEyeModel" "layers" "I") (by decide +kernel)
  have hW2 := hts (.fieldLink RX8 13 "EachEyeModel" "hues" "[I") (by decide +kernel)
  have hW3 := hts (.fieldLink RX8 19 "EachEyeModel" "inkHues" "[I") (by decide +kernel)
  refine lv_aload_n hx hb dX8_layer_0 rfl (lv_at hl 0 rfl) ?_
  refine lv_iload_n hx hb dX8_layer_1 rfl (lv_at hl 1 rfl) ?_
  refine vp_callSi (va_Run.run (va_runV (As := [.int (q)]) (rest := []) ⟨hx, hb, hml, hown, hts⟩ (c8_isInk l dC dI cI a o (f) (g) (h) e7 (by omega) (q) ) (cwV 1 hts gX8_layer_X8_isInk rfl rfl rfl (by decide +kernel) ⟨Nat.le_of_ble_eq_true rfl, Nat.le_of_ble_eq_true rfl⟩) ⟨fun a U g mk q => ⟨q.1, q.2.1, va_K.moved (u := U) (U := U.calling g mk a) (Vm.Alike.refl U.vm) q.2.2⟩, va_recv hK hP (ci := 8) (q0 := 0) rfl rfl, fun U hU hW => ⟨rfl, by rw [hU]; exact hP, va_K.moved hW.alike hK⟩⟩ rfl rfl hl.1 rfl (lv_room (Nat.le_of_ble_eq_true rfl)) dX8_layer_2 ⟨Nat.le_of_ble_eq_true rfl, Nat.le_of_ble_eq_true rfl⟩)) (fun r hrc => ?_)
  have hrc : r = b2i (0 ≤ (q).toInt ∧ (q).toInt ≤ (k7 : Int) - 1) := hrc
  subst hrc
  refine lv_if_ne (tgt := 11) hx hb dX8_layer_5 (by decide) (fun c_1 => ?_) (fun c_1 => ?_)
  · skip
    have c_1 := b2i_1 c_1
    refine lv_iload_n hx hb dX8_layer_11 rfl (lv_at hl 2 rfl) ?_
    refine lv_i2l hx hb dX8_layer_12 rfl ?_
    refine lv_lconst (v := 0) hx hb dX8_layer_13 (by decide +kernel) ?_
    refine lv_ldc2 (v := 63) hx hb hown hW0 dX8_layer_14 ?_
    refine vp_callSi (va_Run.run (va_runS (As := [.long ((x).toInt64), .long (0), .long (63)]) (rest := []) ⟨hx, hb, hml, hown, hts⟩ (c8_in l (x) (0) (63) (0) (63) rfl rfl) (va_cwS 3 hts gX8_layer_X8_in rfl rfl rfl (by decide +kernel) ⟨Nat.le_of_ble_eq_true rfl, Nat.le_of_ble_eq_true rfl⟩) ⟨fun _ _ _ _ q => q, fun U hU hW => ⟨rfl, trivial⟩⟩ rfl rfl hl.1 rfl (lv_room (Nat.le_of_ble_eq_true rfl)) dX8_layer_17 ⟨Nat.le_of_ble_eq_true rfl, Nat.le_of_ble_eq_true rfl⟩)) (fun r hrc => ?_)
    have hrc : r = b2i ((0) ≤ (x).toInt ∧ (x).toInt ≤ (63)) := hrc
    subst hrc
    refine lv_if_ne (tgt := 26) hx hb dX8_layer_20 (by decide) (fun c_2 => ?_) (fun c_2 => ?_)
    · skip
      have c_2 := b2i_1 c_2
      refine lv_iconst (v := nI (0)) hx hb dX8_layer_26 (by decide +kernel) ?_
      refine lv_istore_n (lv' := [(3, .int (nI (0))), (0, .ref (a)), (1, .int (q)), (2, .int (x))]) hx hb dX8_layer_27 rfl hl (by decide) rfl (fun ls hl => ?_)
      refine lv_iconst (v := nI (0)) hx hb dX8_layer_28 (by decide +kernel) ?_
      refine lv_istore (lv' := [(4, .int (nI (0))), (3, .int (nI (0))), (0, .ref (a)), (1, .int (q)), (2, .int (x))]) hx hb dX8_layer_29 hl (by decide) rfl (fun ls hl => ?_)
      have e0_3 : (nI (0)) = sm (fun c => if mLay g q.toInt.toNat x c = g 5 c then nI 0 else nI 1) 0 := rfl
      have hP0 : va_P (dC, dI) vwCl (mW cI a o (f) (su g 5 (fil (g 5) (mLay g q.toInt.toNat x) (0))) (h)) H := by rw [fil_0]; exact hP
      have hD0 : va_D A (mW cI a o (f) (su g 5 (fil (g 5) (mLay g q.toInt.toNat x) (0))) (h)) := by rw [fil_0]; exact hD
      refine lp_rw (fun k : Nat => 6 - k) (fun k : Nat => k ≤ 6) (fun k : Nat => [(0, .ref (a)), (1, .int (q)), (2, .int (x)), (3, .int (sm (fun c => if mLay g q.toInt.toNat x c = g 5 c then nI 0 else nI 1) k)), (4, .int (nI (k)))]) (fun k : Nat => mW cI a o (f) (su g 5 (fil (g 5) (mLay g q.toInt.toNat x) (k))) (h)) (0) (by omega) hP0 hD0 hS (by show lv_has ls 6 [(0, .ref (a)), (1, .int (q)), (2, .int (x)), (3, .int (sm (fun c => if mLay g q.toInt.toNat x c = g 5 c then nI 0 else nI 1) 0)), (4, .int (nI (0)))]; rw [← e0_3]; exact lv_sub hl [2, 3, 4, 1, 0] rfl) (fun k hI ih_31 H locs ls hP hD hS hl => ?_)
      have hP : va_P (dC, dI) vwCl (mW cI a o (f) (su g 5 (fil (g 5) (mLay g q.toInt.toNat x) (k))) (h)) H := hP
      have hD : va_D A (mW cI a o (f) (su g 5 (fil (g 5) (mLay g q.toInt.toNat x) (k))) (h)) := hD
      have hI : k ≤ 6 := hI
      have hl : lv_has ls 6 [(0, .ref (a)), (1, .int (q)), (2, .int (x)), (3, .int (sm (fun c => if mLay g q.toInt.toNat x c = g 5 c then nI 0 else nI 1) k)), (4, .int (nI (k)))] := hl
      refine lv_iload hx hb dX8_layer_31 (lv_at hl 4 rfl) ?_
      refine lv_bipush (v := nI (6)) hx hb dX8_layer_33 (by decide +kernel) ?_
      refine lv_icmp_ge (tgt := 104) hx hb dX8_layer_35 (by decide) (fun c_3 => ?_) (fun c_3 => ?_)
      · skip
        rw [nI_leI (a := 6) (b := k) (by omega) (by omega)] at c_3
        have hE : 6 = k := by omega
        subst hE
        refine lv_aload_n hx hb dX8_layer_104 rfl (lv_at hl 0 rfl) ?_
        refine lv_dup hx hb dX8_layer_105 rfl ?_
        refine va_get (D := (dC, dI)) (ci := 8) (v := .int (f 3)) (C := RX8) (T := TX8) (N := 25) hx hb hts hin8 hown hK hP 0 rfl rfl 3 (by decide) hW1 (fun _ h9 => h9) rfl dX8_layer_106 ?_
        refine lv_iconst (v := nI (1)) hx hb dX8_layer_109 (by decide +kernel) ?_
        refine lv_iadd hx hb dX8_layer_110 ?_
        refine va_put (D := (dC, dI)) (ci := 8) (v := .int ((f 3) + (nI (1)))) (ty := .int) (C := RX8) (T := TX8) (N := 25) hx hb hts hin8 tyX8 tyX8_ok nmX8 hown hK hP hD hS 0 rfl rfl 3 (by decide) hW1 (fun _ h9 => h9) rfl (by decide +kernel) rfl rfl (Nat.le_of_ble_eq_true rfl) dX8_layer_111 (fun H locs hP hD hS => ?_)
        have hP : va_P (dC, dI) vwCl (mW cI a o (su f 3 ((f 3) + (nI (1)))) (su g 5 (fil (g 5) (mLay g q.toInt.toNat x) (6))) (h)) H := hP
        have hD : va_D A (mW cI a o (su f 3 ((f 3) + (nI (1)))) (su g 5 (fil (g 5) (mLay g q.toInt.toNat x) (6))) (h)) := hD
        refine lv_iload_n hx hb dX8_layer_114 rfl (lv_at hl 3 rfl) ?_
        have hP9 : va_P (dC, dI) vwCl (mW cI a o (su f 3 ((f 3) + (nI (1)))) (su g 5 (fil (g 5) (mLay g q.toInt.toNat x) (6))) (h)) H := hP
        exact W.iret (v := sm (fun c => if mLay g q.toInt.toNat x c = g 5 c then nI 0 else nI 1) 6) hx hb hr (fun t ht hW => ⟨⟨sm (fun c => if mLay g q.toInt.toNat x c = g 5 c then nI 0 else nI 1) 6, (su f 3 ((f 3) + (nI (1))), su g 5 (fil (g 5) (mLay g q.toInt.toNat x) (6)), h), rfl, (by show ((sm (fun c => if mLay g q.toInt.toNat x c = g 5 c then nI 0 else nI 1) 6, (su f 3 ((f 3) + (nI (1))), su g 5 (fil (g 5) (mLay g q.toInt.toNat x) (6)), h)) : _ × MSt) = mLayer f g h k7 q x; first | (simp only [mLayer, if_pos c_1, if_pos c_2, if_pos c_3]; done) | (simp only [mLayer, if_pos c_1, if_pos c_2, if_pos c_3]; rfl) | rfl | (simp [mLayer, if_pos c_1, if_pos c_2, if_pos c_3]; done)), by rw [ht]; exact hP9, va_K.moved hW.alike hK, hD⟩, hS.F ht⟩) hS.2.2 dX8_layer_115
      · skip
        rw [nI_leI (a := 6) (b := k) (by omega) (by omega)] at c_3
        refine lv_aload_n hx hb dX8_layer_38 rfl (lv_at hl 0 rfl) ?_
        refine va_get (D := (dC, dI)) (ci := 8) (v := .ref (o 5)) (C := RX8) (T := TX8) (N := 25) hx hb hts hin8 hown hK hP 0 rfl rfl 5 (by decide) hW2 (fun _ h9 => h9) rfl dX8_layer_39 ?_
        refine lv_iload hx hb dX8_layer_42 (lv_at hl 4 rfl) ?_
        refine ald hx hb hK hP (f := fil (g 5) (mLay g q.toInt.toNat x) (k)) (k := k) 2 0 rfl rfl rfl (by omega) (by decide) dX8_layer_44 ?_
        refine tv (su_fil_at _ _ _) ?_
        refine lv_istore (lv' := [(5, .int (g 5 k)), (0, .ref (a)), (1, .int (q)), (2, .int (x)), (3, .int (sm (fun c => if mLay g q.toInt.toNat x c = g 5 c then nI 0 else nI 1) k)), (4, .int (nI (k)))]) hx hb dX8_layer_45 hl (by decide) rfl (fun ls hl => ?_)
        refine lv_aload_n hx hb dX8_layer_47 rfl (lv_at hl 1 rfl) ?_
        refine va_get (D := (dC, dI)) (ci := 8) (v := .ref (o 5)) (C := RX8) (T := TX8) (N := 25) hx hb hts hin8 hown hK hP 0 rfl rfl 5 (by decide) hW2 (fun _ h9 => h9) rfl dX8_layer_48 ?_
        refine lv_iload hx hb dX8_layer_51 (lv_at hl 5 rfl) ?_
        refine lv_iload_n hx hb dX8_layer_53 rfl (lv_at hl 3 rfl) ?_
        refine lv_iload hx hb dX8_layer_54 (lv_at hl 5 rfl) ?_
        refine lv_ishr hx hb dX8_layer_56 ?_
        refine lv_iconst (v := nI (1)) hx hb dX8_layer_57 (by decide +kernel) ?_
        refine lv_iand hx hb dX8_layer_58 ?_
        refine lv_iconst (v := nI (1)) hx hb dX8_layer_59 (by decide +kernel) ?_
        refine lv_icmp_ne (tgt := 75) hx hb dX8_layer_60 (by decide) (fun c_4 => ?_) (fun c_4 => ?_)
        · skip
          have hLB := c_4
          refine lv_iload hx hb dX8_layer_75 (lv_at hl 0 rfl) ?_
          refine ast hx hb hK hP hD hS (f := fil (g 5) (mLay g q.toInt.toNat x) (k)) (k := k) 2 0 rfl rfl rfl (by omega) (by decide) dX8_layer_77 (fun H locs hP hD hS => ?_)
          have hP : va_P (dC, dI) vwCl (mW cI a o (f) (su g 5 (su (fil (g 5) (mLay g q.toInt.toNat x) (k)) (k) (g 5 k))) (h)) H := hP
          have hD : va_D A (mW cI a o (f) (su g 5 (su (fil (g 5) (mLay g q.toInt.toNat x) (k)) (k) (g 5 k))) (h)) := hD
          refine lv_iload_n hx hb dX8_layer_78 rfl (lv_at hl 4 rfl) ?_
          refine lv_aload_n hx hb dX8_layer_79 rfl (lv_at hl 1 rfl) ?_
          refine va_get (D := (dC, dI)) (ci := 8) (v := .ref (o 5)) (C := RX8) (T := TX8) (N := 25) hx hb hts hin8 hown hK hP 0 rfl rfl 5 (by decide) hW2 (fun _ h9 => h9) rfl dX8_layer_80 ?_
          refine lv_iload hx hb dX8_layer_83 (lv_at hl 5 rfl) ?_
          refine ald hx hb hK hP (f := su (fil (g 5) (mLay g q.toInt.toNat x) (k)) (k) (g 5 k)) (k := k) 2 0 rfl rfl rfl (by omega) (by decide) dX8_layer_85 ?_
          refine tv (su_s _ _ _) ?_
          refine lv_iload hx hb dX8_layer_86 (lv_at hl 0 rfl) ?_
          refine lv_icmp_ne (tgt := 95) hx hb dX8_layer_88 (by decide) (fun c_5 => ?_) (fun c_5 => ?_)
          · skip
            refine lv_iconst (v := nI (1)) hx hb dX8_layer_95 (by decide +kernel) ?_
            refine lv_iadd hx hb dX8_layer_96 ?_
            refine lv_istore_n (lv' := [(3, .int ((sm (fun c => if mLay g q.toInt.toNat x c = g 5 c then nI 0 else nI 1) k) + (nI (1)))), (5, .int (g 5 k)), (0, .ref (a)), (1, .int (q)), (2, .int (x)), (4, .int (nI (k)))]) hx hb dX8_layer_97 rfl hl (by decide) rfl (fun ls hl => ?_)
            refine lv_iinc (v := nI (k + 1)) (lv' := [(4, .int (nI (k + 1))), (3, .int ((sm (fun c => if mLay g q.toInt.toNat x c = g 5 c then nI 0 else nI 1) k) + (nI (1)))), (5, .int (g 5 k)), (0, .ref (a)), (1, .int (q)), (2, .int (x))]) hx hb dX8_layer_98 hl (k := 5) rfl (nI_1 _) (by decide) rfl (fun ls hl => ?_)
            refine lv_goto (tgt := 31) hx hb dX8_layer_101 (by decide) ?_
            have e1_3 : ((sm (fun c => if mLay g q.toInt.toNat x c = g 5 c then nI 0 else nI 1) k) + (nI (1))) = sm (fun c => if mLay g q.toInt.toNat x c = g 5 c then nI 0 else nI 1) (k + 1) := by rw [sm]; first | (rw [if_pos (by first | (rw [mLay, if_pos hLB]; exact c_5) | (rw [mLay, if_neg hLB]))]; done) | (rw [if_neg (by first | (rw [mLay, if_pos hLB]; exact c_5) | (rw [mLay, if_neg hLB]; exact c_5))]; done)
            have e2_0 : su (fil (g 5) (mLay g q.toInt.toNat x) (k)) (k) (g 5 k) = fil (g 5) (mLay g q.toInt.toNat x) (k + 1) := by rw [← fil_s]; first | (rw [mLay, if_pos hLB]; done) | (rw [mLay, if_neg hLB]; done)
            have hP : va_P (dC, dI) vwCl (mW cI a o (f) (su g 5 (fil (g 5) (mLay g q.toInt.toNat x) (k + 1))) (h)) H := by rw [← e2_0]; exact hP
            have hD : va_D A (mW cI a o (f) (su g 5 (fil (g 5) (mLay g q.toInt.toNat x) (k + 1))) (h)) := by rw [← e2_0]; exact hD
            exact ih_31 (k + 1) H locs ls (by show _ < _; omega) (by show _; omega) hP hD hS (by show lv_has ls 6 [(0, .ref (a)), (1, .int (q)), (2, .int (x)), (3, .int (sm (fun c => if mLay g q.toInt.toNat x c = g 5 c then nI 0 else nI 1) (k + 1))), (4, .int (nI ((k + 1))))]; rw [← e1_3]; exact lv_sub hl [3, 4, 5, 1, 0] rfl)
          · skip
            refine lv_iconst (v := nI (0)) hx hb dX8_layer_91 (by decide +kernel) ?_
            refine lv_goto (tgt := 96) hx hb dX8_layer_92 (by decide) ?_
            refine lv_iadd hx hb dX8_layer_96 ?_
            refine lv_istore_n (lv' := [(3, .int ((sm (fun c => if mLay g q.toInt.toNat x c = g 5 c then nI 0 else nI 1) k) + (nI (0)))), (5, .int (g 5 k)), (0, .ref (a)), (1, .int (q)), (2, .int (x)), (4, .int (nI (k)))]) hx hb dX8_layer_97 rfl hl (by decide) rfl (fun ls hl => ?_)
            refine lv_iinc (v := nI (k + 1)) (lv' := [(4, .int (nI (k + 1))), (3, .int ((sm (fun c => if mLay g q.toInt.toNat x c = g 5 c then nI 0 else nI 1) k) + (nI (0)))), (5, .int (g 5 k)), (0, .ref (a)), (1, .int (q)), (2, .int (x))]) hx hb dX8_layer_98 hl (k := 5) rfl (nI_1 _) (by decide) rfl (fun ls hl => ?_)
            refine lv_goto (tgt := 31) hx hb dX8_layer_101 (by decide) ?_
            have e1_3 : ((sm (fun c => if mLay g q.toInt.toNat x c = g 5 c then nI 0 else nI 1) k) + (nI (0))) = sm (fun c => if mLay g q.toInt.toNat x c = g 5 c then nI 0 else nI 1) (k + 1) := by rw [sm]; first | (rw [if_pos (by first | (rw [mLay, if_pos hLB]; exact c_5) | (rw [mLay, if_neg hLB]))]; done) | (rw [if_neg (by first | (rw [mLay, if_pos hLB]; exact c_5) | (rw [mLay, if_neg hLB]; exact c_5))]; done)
            have e2_0 : su (fil (g 5) (mLay g q.toInt.toNat x) (k)) (k) (g 5 k) = fil (g 5) (mLay g q.toInt.toNat x) (k + 1) := by rw [← fil_s]; first | (rw [mLay, if_pos hLB]; done) | (rw [mLay, if_neg hLB]; done)
            have hP : va_P (dC, dI) vwCl (mW cI a o (f) (su g 5 (fil (g 5) (mLay g q.toInt.toNat x) (k + 1))) (h)) H := by rw [← e2_0]; exact hP
            have hD : va_D A (mW cI a o (f) (su g 5 (fil (g 5) (mLay g q.toInt.toNat x) (k + 1))) (h)) := by rw [← e2_0]; exact hD
            exact ih_31 (k + 1) H locs ls (by show _ < _; omega) (by show _; omega) hP hD hS (by show lv_has ls 6 [(0, .ref (a)), (1, .int (q)), (2, .int (x)), (3, .int (sm (fun c => if mLay g q.toInt.toNat x c = g 5 c then nI 0 else nI 1) (k + 1))), (4, .int (nI ((k + 1))))]; rw [← e1_3]; exact lv_sub hl [3, 4, 5, 1, 0] rfl)
        · skip
          have hLB := c_4
          refine lv_iload hx hb dX8_layer_63 (lv_at hl 0 rfl) ?_
          refine lv_aload_n hx hb dX8_layer_65 rfl (lv_at hl 1 rfl) ?_
          refine va_get (D := (dC, dI)) (ci := 8) (v := .ref (o 9)) (C := RX8) (T := TX8) (N := 25) hx hb hts hin8 hown hK hP 0 rfl rfl 9 (by decide) hW3 (fun _ h9 => h9) rfl dX8_layer_66 ?_
          refine lv_iload_n hx hb dX8_layer_69 rfl (lv_at hl 2 rfl) ?_
          refine tv (ix_int (by omega)) ?_
          refine ald hx hb hK hP (f := g 9) (k := q.toInt.toNat) 4 0 rfl rfl rfl (by omega) (by decide) dX8_layer_70 ?_
          refine lv_ior hx hb dX8_layer_71 ?_
          refine lv_goto (tgt := 77) hx hb dX8_layer_72 (by decide) ?_
          refine ast hx hb hK hP hD hS (f := fil (g 5) (mLay g q.toInt.toNat x) (k)) (k := k) 2 0 rfl rfl rfl (by omega) (by decide) dX8_layer_77 (fun H locs hP hD hS => ?_)
          have hP : va_P (dC, dI) vwCl (mW cI a o (f) (su g 5 (su (fil (g 5) (mLay g q.toInt.toNat x) (k)) (k) ((g 5 k) ||| (g 9 (q.toInt.toNat))))) (h)) H := hP
          have hD : va_D A (mW cI a o (f) (su g 5 (su (fil (g 5) (mLay g q.toInt.toNat x) (k)) (k) ((g 5 k) ||| (g 9 (q.toInt.toNat))))) (h)) := hD
          refine lv_iload_n hx hb dX8_layer_78 rfl (lv_at hl 4 rfl) ?_
          refine lv_aload_n hx hb dX8_layer_79 rfl (lv_at hl 1 rfl) ?_
          refine va_get (D := (dC, dI)) (ci := 8) (v := .ref (o 5)) (C := RX8) (T := TX8) (N := 25) hx hb hts hin8 hown hK hP 0 rfl rfl 5 (by decide) hW2 (fun _ h9 => h9) rfl dX8_layer_80 ?_
          refine lv_iload hx hb dX8_layer_83 (lv_at hl 5 rfl) ?_
          refine ald hx hb hK hP (f := su (fil (g 5) (mLay g q.toInt.toNat x) (k)) (k) ((g 5 k) ||| (g 9 (q.toInt.toNat)))) (k := k) 2 0 rfl rfl rfl (by omega) (by decide) dX8_layer_85 ?_
          refine tv (su_s _ _ _) ?_
          refine lv_iload hx hb dX8_layer_86 (lv_at hl 0 rfl) ?_
          refine lv_icmp_ne (tgt := 95) hx hb dX8_layer_88 (by decide) (fun c_6 => ?_) (fun c_6 => ?_)
          · skip
            refine lv_iconst (v := nI (1)) hx hb dX8_layer_95 (by decide +kernel) ?_
            refine lv_iadd hx hb dX8_layer_96 ?_
            refine lv_istore_n (lv' := [(3, .int ((sm (fun c => if mLay g q.toInt.toNat x c = g 5 c then nI 0 else nI 1) k) + (nI (1)))), (5, .int (g 5 k)), (0, .ref (a)), (1, .int (q)), (2, .int (x)), (4, .int (nI (k)))]) hx hb dX8_layer_97 rfl hl (by decide) rfl (fun ls hl => ?_)
            refine lv_iinc (v := nI (k + 1)) (lv' := [(4, .int (nI (k + 1))), (3, .int ((sm (fun c => if mLay g q.toInt.toNat x c = g 5 c then nI 0 else nI 1) k) + (nI (1)))), (5, .int (g 5 k)), (0, .ref (a)), (1, .int (q)), (2, .int (x))]) hx hb dX8_layer_98 hl (k := 5) rfl (nI_1 _) (by decide) rfl (fun ls hl => ?_)
            refine lv_goto (tgt := 31) hx hb dX8_layer_101 (by decide) ?_
            have e1_3 : ((sm (fun c => if mLay g q.toInt.toNat x c = g 5 c then nI 0 else nI 1) k) + (nI (1))) = sm (fun c => if mLay g q.toInt.toNat x c = g 5 c then nI 0 else nI 1) (k + 1) := by rw [sm]; first | (rw [if_pos (by first | (rw [mLay, if_pos hLB]; exact c_6) | (rw [mLay, if_neg hLB]))]; done) | (rw [if_neg (by first | (rw [mLay, if_pos hLB]; exact c_6) | (rw [mLay, if_neg hLB]; exact c_6))]; done)
            have e2_0 : su (fil (g 5) (mLay g q.toInt.toNat x) (k)) (k) ((g 5 k) ||| (g 9 (q.toInt.toNat))) = fil (g 5) (mLay g q.toInt.toNat x) (k + 1) := by rw [← fil_s]; first | (rw [mLay, if_pos hLB]; done) | (rw [mLay, if_neg hLB]; done)
            have hP : va_P (dC, dI) vwCl (mW cI a o (f) (su g 5 (fil (g 5) (mLay g q.toInt.toNat x) (k + 1))) (h)) H := by rw [← e2_0]; exact hP
            have hD : va_D A (mW cI a o (f) (su g 5 (fil (g 5) (mLay g q.toInt.toNat x) (k + 1))) (h)) := by rw [← e2_0]; exact hD
            exact ih_31 (k + 1) H locs ls (by show _ < _; omega) (by show _; omega) hP hD hS (by show lv_has ls 6 [(0, .ref (a)), (1, .int (q)), (2, .int (x)), (3, .int (sm (fun c => if mLay g q.toInt.toNat x c = g 5 c then nI 0 else nI 1) (k + 1))), (4, .int (nI ((k + 1))))]; rw [← e1_3]; exact lv_sub hl [3, 4, 5, 1, 0] rfl)
          · skip
            refine lv_iconst (v := nI (0)) hx hb dX8_layer_91 (by decide +kernel) ?_
            refine lv_goto (tgt := 96) hx hb dX8_layer_92 (by decide) ?_
            refine lv_iadd hx hb dX8_layer_96 ?_
            refine lv_istore_n (lv' := [(3, .int ((sm (fun c => if mLay g q.toInt.toNat x c = g 5 c then nI 0 else nI 1) k) + (nI (0)))), (5, .int (g 5 k)), (0, .ref (a)), (1, .int (q)), (2, .int (x)), (4, .int (nI (k)))]) hx hb dX8_layer_97 rfl hl (by decide) rfl (fun ls hl => ?_)
            refine lv_iinc (v := nI (k + 1)) (lv' := [(4, .int (nI (k + 1))), (3, .int ((sm (fun c => if mLay g q.toInt.toNat x c = g 5 c then nI 0 else nI 1) k) + (nI (0)))), (5, .int (g 5 k)), (0, .ref (a)), (1, .int (q)), (2, .int (x))]) hx hb dX8_layer_98 hl (k := 5) rfl (nI_1 _) (by decide) rfl (fun ls hl => ?_)
            refine lv_goto (tgt := 31) hx hb dX8_layer_101 (by decide) ?_
            have e1_3 : ((sm (fun c => if mLay g q.toInt.toNat x c = g 5 c then nI 0 else nI 1) k) + (nI (0))) = sm (fun c => if mLay g q.toInt.toNat x c = g 5 c then nI 0 else nI 1) (k + 1) := by rw [sm]; first | (rw [if_pos (by first | (rw [mLay, if_pos hLB]; exact c_6) | (rw [mLay, if_neg hLB]))]; done) | (rw [if_neg (by first | (rw [mLay, if_pos hLB]; exact c_6) | (rw [mLay, if_neg hLB]; exact c_6))]; done)
            have e2_0 : su (fil (g 5) (mLay g q.toInt.toNat x) (k)) (k) ((g 5 k) ||| (g 9 (q.toInt.toNat))) = fil (g 5) (mLay g q.toInt.toNat x) (k + 1) := by rw [← fil_s]; first | (rw [mLay, if_pos hLB]; done) | (rw [mLay, if_neg hLB]; done)
            have hP : va_P (dC, dI) vwCl (mW cI a o (f) (su g 5 (fil (g 5) (mLay g q.toInt.toNat x) (k + 1))) (h)) H := by rw [← e2_0]; exact hP
            have hD : va_D A (mW cI a o (f) (su g 5 (fil (g 5) (mLay g q.toInt.toNat x) (k + 1))) (h)) := by rw [← e2_0]; exact hD
            exact ih_31 (k + 1) H locs ls (by show _ < _; omega) (by show _; omega) hP hD hS (by show lv_has ls 6 [(0, .ref (a)), (1, .int (q)), (2, .int (x)), (3, .int (sm (fun c => if mLay g q.toInt.toNat x c = g 5 c then nI 0 else nI 1) (k + 1))), (4, .int (nI ((k + 1))))]; rw [← e1_3]; exact lv_sub hl [3, 4, 5, 1, 0] rfl)
    · skip
      have c_2 := b2i_0 c_2
      refine lv_bipush (v := (-102)) hx hb dX8_layer_23 (by decide +kernel) ?_
      have hP9 : va_P (dC, dI) vwCl (mW cI a o (f) (g) (h)) H := hP
      exact W.iret (v := (-102)) hx hb hr (fun t ht hW => ⟨⟨(-102), (f, g, h), rfl, (by show (((-102), (f, g, h)) : _ × MSt) = mLayer f g h k7 q x; first | (simp only [mLayer, if_pos c_1, if_neg c_2]; done) | (simp only [mLayer, if_pos c_1, if_neg c_2]; rfl) | rfl | (simp [mLayer, if_pos c_1, if_neg c_2]; done)), by rw [ht]; exact hP9, va_K.moved hW.alike hK, hD⟩, hS.F ht⟩) hS.2.2 dX8_layer_25
  · skip
    have c_1 := b2i_0 c_1
    refine lv_bipush (v := (-101)) hx hb dX8_layer_8 (by decide +kernel) ?_
    have hP9 : va_P (dC, dI) vwCl (mW cI a o (f) (g) (h)) H := hP
    exact W.iret (v := (-101)) hx hb hr (fun t ht hW => ⟨⟨(-101), (f, g, h), rfl, (by show (((-101), (f, g, h)) : _ × MSt) = mLayer f g h k7 q x; first | (simp only [mLayer, if_neg c_1]; done) | (simp only [mLayer, if_neg c_1]; rfl) | rfl | (simp [mLayer, if_neg c_1]; done)), by rw [ht]; exact hP9, va_K.moved hW.alike hK, hD⟩, hS.F ht⟩) hS.2.2 dX8_layer_10

set_option maxHeartbeats 1200000 in
set_option maxRecDepth 100000 in
theorem c8_person (l : Launch) (dC : Nat → ClassId) (dI : Nat → Nat → Nat) (cI : ClassId) (a : Nat) (o : Nat → Nat) (f : Nat → Int32) (g : Nat → Nat → Int32) (h : Int64) (sz : Nat) {k6 : Nat} (e6 : f 6 = nI k6) (b6 : k6 ≤ 4) (k : Int32) (x : Int32) (y : Int32) : Met l yX8_person wsX8_person ({ frames := 2, cells := 0, slots := 0, locals := 45 } : Room) (va_Pc [.ref (a), .int (k), .int (x), .int (y)] (fun U => U.heap.size = sz ∧ va_P (dC, dI) vwCl (mW cI a o f g h) U.heap ∧ va_K (dC, dI) vwCl [(cI, .int)] U ∧ va_D (fun _ => True) (mW cI a o f g h))) (va_Qi (fun (r : Int32) (u : MSt) => (r, u) = mPerson f g h k6 k x y) (mB dC dI cI a o (va_A (mW cI a o f g h) sz)) (va_A (mW cI a o f g h) sz)) 0 0 (va_A (mW cI a o f g h) sz) := by
  refine Met.ofW (cc := cX8_person) (maxL := 4) (ret := (some .int)) (by decide) rfl ?_
  intro p_ e_ s m args below meth c_0 s₁ B hml hv
  obtain ⟨rfl, hsz, hP, hK, hD0⟩ := hv
  have hx := B.exec
  have hb := B.bytes
  have hr := B.returns
  have hts := atoms_spec (ws := wsX8_person) B.pre
  have hown : s.vm.findClass RX8 = some m.cls := findClass_of_methodNamed B.named
  have hlocks := B.notSynchronized
  subst hsz
  have hD := hD0.self (sz := s.heap.size)
  generalize hAe : va_A (mW cI a o f g h) s.heap.size = A at hD ⊢
  have hA : ∀ q : Nat, s.heap.size ≤ q → A q := fun q h => by rw [← hAe]; exact Or.inr h
  obtain ⟨H, hHe⟩ : ∃ H : Heap, H = s.heap := ⟨_, rfl⟩
  have hS : va_S A s.heap H [] := by rw [hHe]; exact va_S.rf
  rw [← hHe] at hP ⊢
  have hP : va_P (dC, dI) vwCl (mW cI a o f g h) H := hP
  have hl := lv_entry ([.ref (a), .int (k), .int (x), .int (y)]) (n := 4) (Nat.le_of_ble_eq_true rfl)
  rw [lg_entry_eq]
  generalize (lg_sl ([.ref (a), .int (k), .int (x), .int (y)]) ++ List.replicate (4 - (lg_sl ([.ref (a), .int (k), .int (x), .int (y)])).length) Slot.unset).toArray = ls at hl ⊢
  have hl : lv_has ls 4 [(0, .ref (a)), (1, .int (k)), (2, .int (x)), (3, .int (y))] := hl
  have hin8 : ∀ w ∈ wsX80, w ∈ wsX8_person := fun _ h => List.mem_cons_of_mem _ (List.mem_append_right _ h)
  have hW0 := hts (.constantLong RX8 101 (4)) (by decide +kernel)
  have hW1 := hts (.fieldLink RX8 63 "EachEyeModel" "isThere" "Z") (by decide +kernel)
  have hW2 := hts (.fieldLink RX8 71 "EachEyeModel" "people" "I") (by decide +kernel)
  have hW3 := hts (.fieldLink RX8 16 "EachEyeModel" "rows" "[I") (by decide +kernel)
  refine lv_iload_n hx hb dX8_person_0 rfl (lv_at hl 1 rfl) ?_
  refine lv_i2l hx hb dX8_person_1 rfl ?_
  refine lv_lconst (v := 0) hx hb dX8_person_2 (by decide +kernel) ?_
  refine lv_ldc2 (v := 4) hx hb hown hW0 dX8_person_3 ?_
  refine vp_callSi (va_Run.run (va_runS (As := [.long ((k).toInt64), .long (0), .long (4)]) (rest := []) ⟨hx, hb, hml, hown, hts⟩ (c8_in l (k) (0) (4) (0) (4) rfl rfl) (va_cwS 3 hts gX8_person_X8_in rfl rfl rfl (by decide +kernel) ⟨Nat.le_of_ble_eq_true rfl, Nat.le_of_ble_eq_true rfl⟩) ⟨fun _ _ _ _ q => q, fun U hU hW => ⟨rfl, trivial⟩⟩ rfl rfl hl.1 rfl (lv_room (Nat.le_of_ble_eq_true rfl)) dX8_person_6 ⟨Nat.le_of_ble_eq_true rfl, Nat.le_of_ble_eq_true rfl⟩)) (fun r hrc => ?_)
  have hrc : r = b2i ((0) ≤ (k).toInt ∧ (k).toInt ≤ (4)) := hrc
  subst hrc
  refine lv_if_eq (tgt := 26) hx hb dX8_person_9 (by decide) (fun c_1 => ?_) (fun c_1 => ?_)
  · skip
    have c_1 := b2i_0 c_1
    refine lv_bipush (v := (-102)) hx hb dX8_person_26 (by decide +kernel) ?_
    have hP9 : va_P (dC, dI) vwCl (mW cI a o (f) (g) (h)) H := hP
    exact W.iret (v := (-102)) hx hb hr (fun t ht hW => ⟨⟨(-102), (f, g, h), rfl, (by show (((-102), (f, g, h)) : _ × MSt) = mPerson f g h k6 k x y; first | (simp only [mPerson, if_neg c_1]; done) | (simp only [mPerson, if_neg c_1]; rfl) | rfl | (simp [mPerson, if_neg c_1]; done)), by rw [ht]; exact hP9, va_K.moved hW.alike hK, hD⟩, hS.F ht⟩) hS.2.2 dX8_person_28
  · skip
    have c_1 := b2i_1 c_1
    refine lv_iload_n hx hb dX8_person_12 rfl (lv_at hl 2 rfl) ?_
    refine vp_callSi (va_Run.run (va_runS (As := [.int (x)]) (rest := []) ⟨hx, hb, hml, hown, hts⟩ (c8_isHue l (x)) (va_cwS 1 hts gX8_person_X8_isHue rfl rfl rfl (by decide +kernel) ⟨Nat.le_of_ble_eq_true rfl, Nat.le_of_ble_eq_true rfl⟩) ⟨fun _ _ _ _ q => q, fun U hU hW => ⟨rfl, trivial⟩⟩ rfl rfl hl.1 rfl (lv_room (Nat.le_of_ble_eq_true rfl)) dX8_person_13 ⟨Nat.le_of_ble_eq_true rfl, Nat.le_of_ble_eq_true rfl⟩)) (fun r hrc => ?_)
    have hrc : r = b2i (0 ≤ (x).toInt ∧ (x).toInt ≤ 7) := hrc
    subst hrc
    refine lv_if_eq (tgt := 26) hx hb dX8_person_16 (by decide) (fun c_2 => ?_) (fun c_2 => ?_)
    · skip
      have c_2 := b2i_0 c_2
      refine lv_bipush (v := (-102)) hx hb dX8_person_26 (by decide +kernel) ?_
      have hP9 : va_P (dC, dI) vwCl (mW cI a o (f) (g) (h)) H := hP
      exact W.iret (v := (-102)) hx hb hr (fun t ht hW => ⟨⟨(-102), (f, g, h), rfl, (by show (((-102), (f, g, h)) : _ × MSt) = mPerson f g h k6 k x y; first | (simp only [mPerson, if_pos c_1, if_neg c_2]; done) | (simp only [mPerson, if_pos c_1, if_neg c_2]; rfl) | rfl | (simp [mPerson, if_pos c_1, if_neg c_2]; done)), by rw [ht]; exact hP9, va_K.moved hW.alike hK, hD⟩, hS.F ht⟩) hS.2.2 dX8_person_28
    · skip
      have c_2 := b2i_1 c_2
      refine lv_iload_n hx hb dX8_person_19 rfl (lv_at hl 3 rfl) ?_
      refine vp_callSi (va_Run.run (va_runS (As := [.int (y)]) (rest := []) ⟨hx, hb, hml, hown, hts⟩ (c8_isHue l (y)) (va_cwS 1 hts gX8_person_X8_isHue rfl rfl rfl (by decide +kernel) ⟨Nat.le_of_ble_eq_true rfl, Nat.le_of_ble_eq_true rfl⟩) ⟨fun _ _ _ _ q => q, fun U hU hW => ⟨rfl, trivial⟩⟩ rfl rfl hl.1 rfl (lv_room (Nat.le_of_ble_eq_true rfl)) dX8_person_20 ⟨Nat.le_of_ble_eq_true rfl, Nat.le_of_ble_eq_true rfl⟩)) (fun r hrc => ?_)
      have hrc : r = b2i (0 ≤ (y).toInt ∧ (y).toInt ≤ 7) := hrc
      subst hrc
      refine lv_if_ne (tgt := 29) hx hb dX8_person_23 (by decide) (fun c_3 => ?_) (fun c_3 => ?_)
      · skip
        have c_3 := b2i_1 c_3
        refine lv_aload_n hx hb dX8_person_29 rfl (lv_at hl 0 rfl) ?_
        refine va_get (D := (dC, dI)) (ci := 8) (v := .int (f 2)) (C := RX8) (T := TX8) (N := 25) hx hb hts hin8 hown hK hP 0 rfl rfl 2 (by decide) hW1 (fun _ h9 => h9) rfl dX8_person_30 ?_
        refine lv_if_ne (tgt := 39) hx hb dX8_person_33 (by decide) (fun c_4 => ?_) (fun c_4 => ?_)
        · skip
          have c_4 : ¬ (f 2) = nI 0 := c_4
          refine lv_aload_n hx hb dX8_person_39 rfl (lv_at hl 0 rfl) ?_
          refine va_get (D := (dC, dI)) (ci := 8) (v := .int (nI (k6))) (C := RX8) (T := TX8) (N := 25) hx hb hts hin8 hown hK hP 0 rfl rfl 6 (by decide) hW2 (fun _ h9 => h9) (congrArg (fun z => some (Value.int z)) e6) dX8_person_40 ?_
          refine lv_iconst (v := nI (4)) hx hb dX8_person_43 (by decide +kernel) ?_
          refine lv_icmp_ne (tgt := 50) hx hb dX8_person_44 (by decide) (fun c_5 => ?_) (fun c_5 => ?_)
          · skip
            rw [nI_eq (a := k6) (b := 4) (by omega) (by omega)] at c_5
            refine lv_aload_n hx hb dX8_person_50 rfl (lv_at hl 0 rfl) ?_
            refine va_get (D := (dC, dI)) (ci := 8) (v := .ref (o 8)) (C := RX8) (T := TX8) (N := 25) hx hb hts hin8 hown hK hP 0 rfl rfl 8 (by decide) hW3 (fun _ h9 => h9) rfl dX8_person_51 ?_
            refine lv_bipush (v := nI (10)) hx hb dX8_person_54 (by decide +kernel) ?_
            refine lv_aload_n hx hb dX8_person_56 rfl (lv_at hl 0 rfl) ?_
            refine va_get (D := (dC, dI)) (ci := 8) (v := .int (nI (k6))) (C := RX8) (T := TX8) (N := 25) hx hb hts hin8 hown hK hP 0 rfl rfl 6 (by decide) hW2 (fun _ h9 => h9) (congrArg (fun z => some (Value.int z)) e6) dX8_person_57 ?_
            refine lv_imul hx hb dX8_person_60 ?_
            refine tv (pk_mul (10) (k6)) ?_
            refine lv_iload_n hx hb dX8_person_61 rfl (lv_at hl 1 rfl) ?_
            refine ast hx hb hK hP hD hS (f := g 8) (k := 10 * (k6)) 3 0 rfl rfl rfl (by omega) (by decide) dX8_person_62 (fun H locs hP hD hS => ?_)
            have hP : va_P (dC, dI) vwCl (mW cI a o (f) (su g 8 (su (g 8) (10 * (k6)) (k))) (h)) H := hP
            have hD : va_D A (mW cI a o (f) (su g 8 (su (g 8) (10 * (k6)) (k))) (h)) := hD
            refine lv_aload_n hx hb dX8_person_63 rfl (lv_at hl 0 rfl) ?_
            refine va_get (D := (dC, dI)) (ci := 8) (v := .ref (o 8)) (C := RX8) (T := TX8) (N := 25) hx hb hts hin8 hown hK hP 0 rfl rfl 8 (by decide) hW3 (fun _ h9 => h9) rfl dX8_person_64 ?_
            refine lv_bipush (v := nI (10)) hx hb dX8_person_67 (by decide +kernel) ?_
            refine lv_aload_n hx hb dX8_person_69 rfl (lv_at hl 0 rfl) ?_
            refine va_get (D := (dC, dI)) (ci := 8) (v := .int (nI (k6))) (C := RX8) (T := TX8) (N := 25) hx hb hts hin8 hown hK hP 0 rfl rfl 6 (by decide) hW2 (fun _ h9 => h9) (congrArg (fun z => some (Value.int z)) e6) dX8_person_70 ?_
            refine lv_imul hx hb dX8_person_73 ?_
            refine tv (pk_mul (10) (k6)) ?_
            refine lv_iconst (v := nI (1)) hx hb dX8_person_74 (by decide +kernel) ?_
            refine lv_iadd hx hb dX8_person_75 ?_
            refine tv (nI_add (10 * (k6)) (1)) ?_
            refine lv_iload_n hx hb dX8_person_76 rfl (lv_at hl 2 rfl) ?_
            refine ast hx hb hK hP hD hS (f := su (g 8) (10 * (k6)) (k)) (k := 10 * (k6) + 1) 3 0 rfl rfl rfl (by omega) (by decide) dX8_person_77 (fun H locs hP hD hS => ?_)
            have hP : va_P (dC, dI) vwCl (mW cI a o (f) (su g 8 (su (su (g 8) (10 * (k6)) (k)) (10 * (k6) + 1) (x))) (h)) H := hP
            have hD : va_D A (mW cI a o (f) (su g 8 (su (su (g 8) (10 * (k6)) (k)) (10 * (k6) + 1) (x))) (h)) := hD
            refine lv_aload_n hx hb dX8_person_78 rfl (lv_at hl 0 rfl) ?_
            refine va_get (D := (dC, dI)) (ci := 8) (v := .ref (o 8)) (C := RX8) (T := TX8) (N := 25) hx hb hts hin8 hown hK hP 0 rfl rfl 8 (by decide) hW3 (fun _ h9 => h9) rfl dX8_person_79 ?_
            refine lv_bipush (v := nI (10)) hx hb dX8_person_82 (by decide +kernel) ?_
            refine lv_aload_n hx hb dX8_person_84 rfl (lv_at hl 0 rfl) ?_
            refine va_get (D := (dC, dI)) (ci := 8) (v := .int (nI (k6))) (C := RX8) (T := TX8) (N := 25) hx hb hts hin8 hown hK hP 0 rfl rfl 6 (by decide) hW2 (fun _ h9 => h9) (congrArg (fun z => some (Value.int z)) e6) dX8_person_85 ?_
            refine lv_imul hx hb dX8_person_88 ?_
            refine tv (pk_mul (10) (k6)) ?_
            refine lv_iconst (v := nI (2)) hx hb dX8_person_89 (by decide +kernel) ?_
            refine lv_iadd hx hb dX8_person_90 ?_
            refine tv (nI_add (10 * (k6)) (2)) ?_
            refine lv_iload_n hx hb dX8_person_91 rfl (lv_at hl 3 rfl) ?_
            refine ast hx hb hK hP hD hS (f := su (su (g 8) (10 * (k6)) (k)) (10 * (k6) + 1) (x)) (k := 10 * (k6) + 2) 3 0 rfl rfl rfl (by omega) (by decide) dX8_person_92 (fun H locs hP hD hS => ?_)
            have hP : va_P (dC, dI) vwCl (mW cI a o (f) (su g 8 (su (su (su (g 8) (10 * (k6)) (k)) (10 * (k6) + 1) (x)) (10 * (k6) + 2) (y))) (h)) H := hP
            have hD : va_D A (mW cI a o (f) (su g 8 (su (su (su (g 8) (10 * (k6)) (k)) (10 * (k6) + 1) (x)) (10 * (k6) + 2) (y))) (h)) := hD
            refine lv_aload_n hx hb dX8_person_93 rfl (lv_at hl 0 rfl) ?_
            refine va_get (D := (dC, dI)) (ci := 8) (v := .ref (o 8)) (C := RX8) (T := TX8) (N := 25) hx hb hts hin8 hown hK hP 0 rfl rfl 8 (by decide) hW3 (fun _ h9 => h9) rfl dX8_person_94 ?_
            refine lv_bipush (v := nI (10)) hx hb dX8_person_97 (by decide +kernel) ?_
            refine lv_aload_n hx hb dX8_person_99 rfl (lv_at hl 0 rfl) ?_
            refine va_get (D := (dC, dI)) (ci := 8) (v := .int (nI (k6))) (C := RX8) (T := TX8) (N := 25) hx hb hts hin8 hown hK hP 0 rfl rfl 6 (by decide) hW2 (fun _ h9 => h9) (congrArg (fun z => some (Value.int z)) e6) dX8_person_100 ?_
            refine lv_imul hx hb dX8_person_103 ?_
            refine tv (pk_mul (10) (k6)) ?_
            refine lv_iconst (v := nI (3)) hx hb dX8_person_104 (by decide +kernel) ?_
            refine lv_iadd hx hb dX8_person_105 ?_
            refine tv (nI_add (10 * (k6)) (3)) ?_
            refine lv_iconst (v := nI (0)) hx hb dX8_person_106 (by decide +kernel) ?_
            refine ast hx hb hK hP hD hS (f := su (su (su (g 8) (10 * (k6)) (k)) (10 * (k6) + 1) (x)) (10 * (k6) + 2) (y)) (k := 10 * (k6) + 3) 3 0 rfl rfl rfl (by omega) (by decide) dX8_person_107 (fun H locs hP hD hS => ?_)
            have hP : va_P (dC, dI) vwCl (mW cI a o (f) (su g 8 (su (su (su (su (g 8) (10 * (k6)) (k)) (10 * (k6) + 1) (x)) (10 * (k6) + 2) (y)) (10 * (k6) + 3) (nI (0)))) (h)) H := hP
            have hD : va_D A (mW cI a o (f) (su g 8 (su (su (su (su (g 8) (10 * (k6)) (k)) (10 * (k6) + 1) (x)) (10 * (k6) + 2) (y)) (10 * (k6) + 3) (nI (0)))) (h)) := hD
            refine lv_aload_n hx hb dX8_person_108 rfl (lv_at hl 0 rfl) ?_
            refine lv_dup hx hb dX8_person_109 rfl ?_
            refine va_get (D := (dC, dI)) (ci := 8) (v := .int (nI (k6))) (C := RX8) (T := TX8) (N := 25) hx hb hts hin8 hown hK hP 0 rfl rfl 6 (by decide) hW2 (fun _ h9 => h9) (congrArg (fun z => some (Value.int z)) e6) dX8_person_110 ?_
            refine lv_iconst (v := nI (1)) hx hb dX8_person_113 (by decide +kernel) ?_
            refine lv_iadd hx hb dX8_person_114 ?_
            refine tv (nI_add (k6) (1)) ?_
            refine va_put (D := (dC, dI)) (ci := 8) (v := .int (nI (k6 + 1))) (ty := .int) (C := RX8) (T := TX8) (N := 25) hx hb hts hin8 tyX8 tyX8_ok nmX8 hown hK hP hD hS 0 rfl rfl 6 (by decide) hW2 (fun _ h9 => h9) rfl (by decide +kernel) rfl rfl (Nat.le_of_ble_eq_true rfl) dX8_person_115 (fun H locs hP hD hS => ?_)
            have hP : va_P (dC, dI) vwCl (mW cI a o (su f 6 (nI (k6 + 1))) (su g 8 (su (su (su (su (g 8) (10 * (k6)) (k)) (10 * (k6) + 1) (x)) (10 * (k6) + 2) (y)) (10 * (k6) + 3) (nI (0)))) (h)) H := hP
            have hD : va_D A (mW cI a o (su f 6 (nI (k6 + 1))) (su g 8 (su (su (su (su (g 8) (10 * (k6)) (k)) (10 * (k6) + 1) (x)) (10 * (k6) + 2) (y)) (10 * (k6) + 3) (nI (0)))) (h)) := hD
            refine lv_aload_n hx hb dX8_person_118 rfl (lv_at hl 0 rfl) ?_
            refine va_get (D := (dC, dI)) (ci := 8) (v := .int (nI (k6 + 1))) (C := RX8) (T := TX8) (N := 25) hx hb hts hin8 hown hK hP 0 rfl rfl 6 (by decide) hW2 (fun _ h9 => h9) rfl dX8_person_119 ?_
            refine lv_iconst (v := nI (1)) hx hb dX8_person_122 (by decide +kernel) ?_
            refine lv_isub hx hb dX8_person_123 ?_
            refine tv (pk_sub (a := k6 + 1) (b := 1) (by omega)) ?_
            have hP9 : va_P (dC, dI) vwCl (mW cI a o (su f 6 (nI (k6 + 1))) (su g 8 (su (su (su (su (g 8) (10 * (k6)) (k)) (10 * (k6) + 1) (x)) (10 * (k6) + 2) (y)) (10 * (k6) + 3) (nI (0)))) (h)) H := hP
            exact W.iret (v := nI ((k6 + 1) - 1)) hx hb hr (fun t ht hW => ⟨⟨nI ((k6 + 1) - 1), (su f 6 (nI (k6 + 1)), su g 8 (su (su (su (su (g 8) (10 * (k6)) (k)) (10 * (k6) + 1) (x)) (10 * (k6) + 2) (y)) (10 * (k6) + 3) (nI (0))), h), rfl, (by show ((nI ((k6 + 1) - 1), (su f 6 (nI (k6 + 1)), su g 8 (su (su (su (su (g 8) (10 * (k6)) (k)) (10 * (k6) + 1) (x)) (10 * (k6) + 2) (y)) (10 * (k6) + 3) (nI (0))), h)) : _ × MSt) = mPerson f g h k6 k x y; first | (simp only [mPerson, if_pos c_1, if_pos c_2, if_pos c_3, if_neg c_4, if_neg c_5]; done) | (simp only [mPerson, if_pos c_1, if_pos c_2, if_pos c_3, if_neg c_4, if_neg c_5]; rfl) | rfl | (simp [mPerson, if_pos c_1, if_pos c_2, if_pos c_3, if_neg c_4, if_neg c_5]; done)), by rw [ht]; exact hP9, va_K.moved hW.alike hK, hD⟩, hS.F ht⟩) hS.2.2 dX8_person_124
          · skip
            rw [nI_eq (a := k6) (b := 4) (by omega) (by omega)] at c_5
            refine lv_bipush (v := (-104)) hx hb dX8_person_47 (by decide +kernel) ?_
            have hP9 : va_P (dC, dI) vwCl (mW cI a o (f) (g) (h)) H := hP
            exact W.iret (v := (-104)) hx hb hr (fun t ht hW => ⟨⟨(-104), (f, g, h), rfl, (by show (((-104), (f, g, h)) : _ × MSt) = mPerson f g h k6 k x y; first | (simp only [mPerson, if_pos c_1, if_pos c_2, if_pos c_3, if_neg c_4, if_pos c_5]; done) | (simp only [mPerson, if_pos c_1, if_pos c_2, if_pos c_3, if_neg c_4, if_pos c_5]; rfl) | rfl | (simp [mPerson, if_pos c_1, if_pos c_2, if_pos c_3, if_neg c_4, if_pos c_5]; done)), by rw [ht]; exact hP9, va_K.moved hW.alike hK, hD⟩, hS.F ht⟩) hS.2.2 dX8_person_49
        · skip
          have c_4 : (f 2) = nI 0 := c_4
          refine lv_bipush (v := (-103)) hx hb dX8_person_36 (by decide +kernel) ?_
          have hP9 : va_P (dC, dI) vwCl (mW cI a o (f) (g) (h)) H := hP
          exact W.iret (v := (-103)) hx hb hr (fun t ht hW => ⟨⟨(-103), (f, g, h), rfl, (by show (((-103), (f, g, h)) : _ × MSt) = mPerson f g h k6 k x y; first | (simp only [mPerson, if_pos c_1, if_pos c_2, if_pos c_3, if_pos c_4]; done) | (simp only [mPerson, if_pos c_1, if_pos c_2, if_pos c_3, if_pos c_4]; rfl) | rfl | (simp [mPerson, if_pos c_1, if_pos c_2, if_pos c_3, if_pos c_4]; done)), by rw [ht]; exact hP9, va_K.moved hW.alike hK, hD⟩, hS.F ht⟩) hS.2.2 dX8_person_38
      · skip
        have c_3 := b2i_0 c_3
        refine lv_bipush (v := (-102)) hx hb dX8_person_26 (by decide +kernel) ?_
        have hP9 : va_P (dC, dI) vwCl (mW cI a o (f) (g) (h)) H := hP
        exact W.iret (v := (-102)) hx hb hr (fun t ht hW => ⟨⟨(-102), (f, g, h), rfl, (by show (((-102), (f, g, h)) : _ × MSt) = mPerson f g h k6 k x y; first | (simp only [mPerson, if_pos c_1, if_pos c_2, if_neg c_3]; done) | (simp only [mPerson, if_pos c_1, if_pos c_2, if_neg c_3]; rfl) | rfl | (simp [mPerson, if_pos c_1, if_pos c_2, if_neg c_3]; done)), by rw [ht]; exact hP9, va_K.moved hW.alike hK, hD⟩, hS.F ht⟩) hS.2.2 dX8_person_28

set_option maxHeartbeats 1200000 in
set_option maxRecDepth 100000 in
theorem c8_eye (l : Launch) (dC : Nat → ClassId) (dI : Nat → Nat → Nat) (cI : ClassId) (a : Nat) (o : Nat → Nat) (f : Nat → Int32) (g : Nat → Nat → Int32) (h : Int64) (sz : Nat) {k6 : Nat} (e6 : f 6 = nI k6) (b6 : k6 ≤ 4) (q : Int32) (x : Int32) (y : Int32) : Met l yX8_eye wsX8_eye ({ frames := 2, cells := 0, slots := 0, locals := 46 } : Room) (va_Pc [.ref (a), .int (q), .int (x), .int (y)] (fun U => U.heap.size = sz ∧ va_P (dC, dI) vwCl (mW cI a o f g h) U.heap ∧ va_K (dC, dI) vwCl [(cI, .int)] U ∧ va_D (fun _ => True) (mW cI a o f g h))) (va_Qi (fun (r : Int32) (u : MSt) => (r, u) = mEye f g h k6 q x y) (mB dC dI cI a o (va_A (mW cI a o f g h) sz)) (va_A (mW cI a o f g h) sz)) 0 0 (va_A (mW cI a o f g h) sz) := by
  refine Met.ofW (cc := cX8_eye) (maxL := 5) (ret := (some .int)) (by decide) rfl ?_
  intro p_ e_ s m args below meth c_0 s₁ B hml hv
  obtain ⟨rfl, hsz, hP, hK, hD0⟩ := hv
  have hx := B.exec
  have hb := B.bytes
  have hr := B.returns
  have hts := atoms_spec (ws := wsX8_eye) B.pre
  have hown : s.vm.findClass RX8 = some m.cls := findClass_of_methodNamed B.named
  have hlocks := B.notSynchronized
  subst hsz
  have hD := hD0.self (sz := s.heap.size)
  generalize hAe : va_A (mW cI a o f g h) s.heap.size = A at hD ⊢
  have hA : ∀ q : Nat, s.heap.size ≤ q → A q := fun q h => by rw [← hAe]; exact Or.inr h
  obtain ⟨H, hHe⟩ : ∃ H : Heap, H = s.heap := ⟨_, rfl⟩
  have hS : va_S A s.heap H [] := by rw [hHe]; exact va_S.rf
  rw [← hHe] at hP ⊢
  have hP : va_P (dC, dI) vwCl (mW cI a o f g h) H := hP
  have hl := lv_entry ([.ref (a), .int (q), .int (x), .int (y)]) (n := 5) (Nat.le_of_ble_eq_true rfl)
  rw [lg_entry_eq]
  generalize (lg_sl ([.ref (a), .int (q), .int (x), .int (y)]) ++ List.replicate (5 - (lg_sl ([.ref (a), .int (q), .int (x), .int (y)])).length) Slot.unset).toArray = ls at hl ⊢
  have hl : lv_has ls 5 [(0, .ref (a)), (1, .int (q)), (2, .int (x)), (3, .int (y))] := hl
  have hin8 : ∀ w ∈ wsX80, w ∈ wsX8_eye := fun _ h => List.mem_cons_of_mem _ (List.mem_append_right _ h)
  have hW0 := hts (.fieldLink RX8 16 "EachEyeModel" "rows" "[I") (by decide +kernel)
  refine lv_aload_n hx hb dX8_eye_0 rfl (lv_at hl 0 rfl) ?_
  refine lv_iload_n hx hb dX8_eye_1 rfl (lv_at hl 1 rfl) ?_
  refine vp_callSi (va_Run.run (va_runV (As := [.int (q)]) (rest := []) ⟨hx, hb, hml, hown, hts⟩ (c8_isPerson l dC dI cI a o (f) (g) (h) e6 (by omega) (q) ) (cwV 1 hts gX8_eye_X8_isPerson rfl rfl rfl (by decide +kernel) ⟨Nat.le_of_ble_eq_true rfl, Nat.le_of_ble_eq_true rfl⟩) ⟨fun a U g mk q => ⟨q.1, q.2.1, va_K.moved (u := U) (U := U.calling g mk a) (Vm.Alike.refl U.vm) q.2.2⟩, va_recv hK hP (ci := 8) (q0 := 0) rfl rfl, fun U hU hW => ⟨rfl, by rw [hU]; exact hP, va_K.moved hW.alike hK⟩⟩ rfl rfl hl.1 rfl (lv_room (Nat.le_of_ble_eq_true rfl)) dX8_eye_2 ⟨Nat.le_of_ble_eq_true rfl, Nat.le_of_ble_eq_true rfl⟩)) (fun r hrc => ?_)
  have hrc : r = b2i (0 ≤ (q).toInt ∧ (q).toInt ≤ (k6 : Int) - 1) := hrc
  subst hrc
  refine lv_if_ne (tgt := 11) hx hb dX8_eye_5 (by decide) (fun c_1 => ?_) (fun c_1 => ?_)
  · skip
    have c_1 := b2i_1 c_1
    refine lv_iload_n hx hb dX8_eye_11 rfl (lv_at hl 2 rfl) ?_
    refine lv_i2l hx hb dX8_eye_12 rfl ?_
    refine lv_lconst (v := 0) hx hb dX8_eye_13 (by decide +kernel) ?_
    refine lv_lconst (v := 1) hx hb dX8_eye_14 (by decide +kernel) ?_
    refine vp_callSi (va_Run.run (va_runS (As := [.long ((x).toInt64), .long (0), .long (1)]) (rest := []) ⟨hx, hb, hml, hown, hts⟩ (c8_in l (x) (0) (1) (0) (1) rfl rfl) (va_cwS 3 hts gX8_eye_X8_in rfl rfl rfl (by decide +kernel) ⟨Nat.le_of_ble_eq_true rfl, Nat.le_of_ble_eq_true rfl⟩) ⟨fun _ _ _ _ q => q, fun U hU hW => ⟨rfl, trivial⟩⟩ rfl rfl hl.1 rfl (lv_room (Nat.le_of_ble_eq_true rfl)) dX8_eye_15 ⟨Nat.le_of_ble_eq_true rfl, Nat.le_of_ble_eq_true rfl⟩)) (fun r hrc => ?_)
    have hrc : r = b2i ((0) ≤ (x).toInt ∧ (x).toInt ≤ (1)) := hrc
    subst hrc
    refine lv_if_eq (tgt := 28) hx hb dX8_eye_18 (by decide) (fun c_2 => ?_) (fun c_2 => ?_)
    · skip
      have c_2 := b2i_0 c_2
      refine lv_bipush (v := (-102)) hx hb dX8_eye_28 (by decide +kernel) ?_
      have hP9 : va_P (dC, dI) vwCl (mW cI a o (f) (g) (h)) H := hP
      exact W.iret (v := (-102)) hx hb hr (fun t ht hW => ⟨⟨(-102), (f, g, h), rfl, (by show (((-102), (f, g, h)) : _ × MSt) = mEye f g h k6 q x y; first | (simp only [mEye, if_pos c_1, if_neg c_2]; done) | (simp only [mEye, if_pos c_1, if_neg c_2]; rfl) | rfl | (simp [mEye, if_pos c_1, if_neg c_2]; done)), by rw [ht]; exact hP9, va_K.moved hW.alike hK, hD⟩, hS.F ht⟩) hS.2.2 dX8_eye_30
    · skip
      have c_2 := b2i_1 c_2
      refine lv_iload_n hx hb dX8_eye_21 rfl (lv_at hl 3 rfl) ?_
      refine vp_callSi (va_Run.run (va_runS (As := [.int (y)]) (rest := []) ⟨hx, hb, hml, hown, hts⟩ (c8_isHue l (y)) (va_cwS 1 hts gX8_eye_X8_isHue rfl rfl rfl (by decide +kernel) ⟨Nat.le_of_ble_eq_true rfl, Nat.le_of_ble_eq_true rfl⟩) ⟨fun _ _ _ _ q => q, fun U hU hW => ⟨rfl, trivial⟩⟩ rfl rfl hl.1 rfl (lv_room (Nat.le_of_ble_eq_true rfl)) dX8_eye_22 ⟨Nat.le_of_ble_eq_true rfl, Nat.le_of_ble_eq_true rfl⟩)) (fun r hrc => ?_)
      have hrc : r = b2i (0 ≤ (y).toInt ∧ (y).toInt ≤ 7) := hrc
      subst hrc
      refine lv_if_ne (tgt := 31) hx hb dX8_eye_25 (by decide) (fun c_3 => ?_) (fun c_3 => ?_)
      · skip
        have c_3 := b2i_1 c_3
        refine lv_aload_n hx hb dX8_eye_31 rfl (lv_at hl 0 rfl) ?_
        refine va_get (D := (dC, dI)) (ci := 8) (v := .ref (o 8)) (C := RX8) (T := TX8) (N := 25) hx hb hts hin8 hown hK hP 0 rfl rfl 8 (by decide) hW0 (fun _ h9 => h9) rfl dX8_eye_32 ?_
        refine lv_bipush (v := nI (10)) hx hb dX8_eye_35 (by decide +kernel) ?_
        refine lv_iload_n hx hb dX8_eye_37 rfl (lv_at hl 1 rfl) ?_
        refine tv (ix_int (by omega)) ?_
        refine lv_imul hx hb dX8_eye_38 ?_
        refine tv (pk_mul (10) (q.toInt.toNat)) ?_
        refine lv_iconst (v := nI (1)) hx hb dX8_eye_39 (by decide +kernel) ?_
        refine lv_iadd hx hb dX8_eye_40 ?_
        refine tv (nI_add (10 * (q.toInt.toNat)) (1)) ?_
        refine lv_iload_n hx hb dX8_eye_41 rfl (lv_at hl 2 rfl) ?_
        refine tv (ix_int (by omega)) ?_
        refine lv_iadd hx hb dX8_eye_42 ?_
        refine tv (nI_add (10 * (q.toInt.toNat) + 1) (x.toInt.toNat)) ?_
        refine ald hx hb hK hP (f := g 8) (k := 10 * (q.toInt.toNat) + 1 + x.toInt.toNat) 3 0 rfl rfl rfl (by omega) (by decide) dX8_eye_43 ?_
        refine lv_istore (lv' := [(4, .int (g 8 (10 * (q.toInt.toNat) + 1 + x.toInt.toNat))), (0, .ref (a)), (1, .int (q)), (2, .int (x)), (3, .int (y))]) hx hb dX8_eye_44 hl (by decide) rfl (fun ls hl => ?_)
        refine lv_aload_n hx hb dX8_eye_46 rfl (lv_at hl 1 rfl) ?_
        refine va_get (D := (dC, dI)) (ci := 8) (v := .ref (o 8)) (C := RX8) (T := TX8) (N := 25) hx hb hts hin8 hown hK hP 0 rfl rfl 8 (by decide) hW0 (fun _ h9 => h9) rfl dX8_eye_47 ?_
        refine lv_bipush (v := nI (10)) hx hb dX8_eye_50 (by decide +kernel) ?_
        refine lv_iload_n hx hb dX8_eye_52 rfl (lv_at hl 2 rfl) ?_
        refine tv (ix_int (by omega)) ?_
        refine lv_imul hx hb dX8_eye_53 ?_
        refine tv (pk_mul (10) (q.toInt.toNat)) ?_
        refine lv_iconst (v := nI (1)) hx hb dX8_eye_54 (by decide +kernel) ?_
        refine lv_iadd hx hb dX8_eye_55 ?_
        refine tv (nI_add (10 * (q.toInt.toNat)) (1)) ?_
        refine lv_iload_n hx hb dX8_eye_56 rfl (lv_at hl 3 rfl) ?_
        refine tv (ix_int (by omega)) ?_
        refine lv_iadd hx hb dX8_eye_57 ?_
        refine tv (nI_add (10 * (q.toInt.toNat) + 1) (x.toInt.toNat)) ?_
        refine lv_iload_n hx hb dX8_eye_58 rfl (lv_at hl 4 rfl) ?_
        refine ast hx hb hK hP hD hS (f := g 8) (k := 10 * (q.toInt.toNat) + 1 + x.toInt.toNat) 3 0 rfl rfl rfl (by omega) (by decide) dX8_eye_59 (fun H locs hP hD hS => ?_)
        have hP : va_P (dC, dI) vwCl (mW cI a o (f) (su g 8 (su (g 8) (10 * (q.toInt.toNat) + 1 + x.toInt.toNat) (y))) (h)) H := hP
        have hD : va_D A (mW cI a o (f) (su g 8 (su (g 8) (10 * (q.toInt.toNat) + 1 + x.toInt.toNat) (y))) (h)) := hD
        refine lv_iload hx hb dX8_eye_60 (lv_at hl 0 rfl) ?_
        have hP9 : va_P (dC, dI) vwCl (mW cI a o (f) (su g 8 (su (g 8) (10 * (q.toInt.toNat) + 1 + x.toInt.toNat) (y))) (h)) H := hP
        exact W.iret (v := g 8 (10 * (q.toInt.toNat) + 1 + x.toInt.toNat)) hx hb hr (fun t ht hW => ⟨⟨g 8 (10 * (q.toInt.toNat) + 1 + x.toInt.toNat), (f, su g 8 (su (g 8) (10 * (q.toInt.toNat) + 1 + x.toInt.toNat) (y)), h), rfl, (by show ((g 8 (10 * (q.toInt.toNat) + 1 + x.toInt.toNat), (f, su g 8 (su (g 8) (10 * (q.toInt.toNat) + 1 + x.toInt.toNat) (y)), h)) : _ × MSt) = mEye f g h k6 q x y; first | (simp only [mEye, if_pos c_1, if_pos c_2, if_pos c_3]; done) | (simp only [mEye, if_pos c_1, if_pos c_2, if_pos c_3]; rfl) | rfl | (simp [mEye, if_pos c_1, if_pos c_2, if_pos c_3]; done)), by rw [ht]; exact hP9, va_K.moved hW.alike hK, hD⟩, hS.F ht⟩) hS.2.2 dX8_eye_62
      · skip
        have c_3 := b2i_0 c_3
        refine lv_bipush (v := (-102)) hx hb dX8_eye_28 (by decide +kernel) ?_
        have hP9 : va_P (dC, dI) vwCl (mW cI a o (f) (g) (h)) H := hP
        exact W.iret (v := (-102)) hx hb hr (fun t ht hW => ⟨⟨(-102), (f, g, h), rfl, (by show (((-102), (f, g, h)) : _ × MSt) = mEye f g h k6 q x y; first | (simp only [mEye, if_pos c_1, if_pos c_2, if_neg c_3]; done) | (simp only [mEye, if_pos c_1, if_pos c_2, if_neg c_3]; rfl) | rfl | (simp [mEye, if_pos c_1, if_pos c_2, if_neg c_3]; done)), by rw [ht]; exact hP9, va_K.moved hW.alike hK, hD⟩, hS.F ht⟩) hS.2.2 dX8_eye_30
  · skip
    have c_1 := b2i_0 c_1
    refine lv_bipush (v := (-101)) hx hb dX8_eye_8 (by decide +kernel) ?_
    have hP9 : va_P (dC, dI) vwCl (mW cI a o (f) (g) (h)) H := hP
    exact W.iret (v := (-101)) hx hb hr (fun t ht hW => ⟨⟨(-101), (f, g, h), rfl, (by show (((-101), (f, g, h)) : _ × MSt) = mEye f g h k6 q x y; first | (simp only [mEye, if_neg c_1]; done) | (simp only [mEye, if_neg c_1]; rfl) | rfl | (simp [mEye, if_neg c_1]; done)), by rw [ht]; exact hP9, va_K.moved hW.alike hK, hD⟩, hS.F ht⟩) hS.2.2 dX8_eye_10

set_option maxHeartbeats 1200000 in
set_option maxRecDepth 100000 in
theorem c8_ink (l : Launch) (dC : Nat → ClassId) (dI : Nat → Nat → Nat) (cI : ClassId) (a : Nat) (o : Nat → Nat) (f : Nat → Int32) (g : Nat → Nat → Int32) (h : Int64) (sz : Nat) {k7 : Nat} (e7 : f 7 = nI k7) (b7 : k7 ≤ 5) (x : Int32) : Met l yX8_ink wsX8_ink ({ frames := 1, cells := 0, slots := 0, locals := 25 } : Room) (va_Pc [.ref (a), .int (x)] (fun U => U.heap.size = sz ∧ va_P (dC, dI) vwCl (mW cI a o f g h) U.heap ∧ va_K (dC, dI) vwCl [(cI, .int)] U ∧ va_D (fun _ => True) (mW cI a o f g h))) (va_Qi (fun (r : Int32) (u : MSt) => (r, u) = mInkM f g h k7 x) (mB dC dI cI a o (va_A (mW cI a o f g h) sz)) (va_A (mW cI a o f g h) sz)) 0 0 (va_A (mW cI a o f g h) sz) := by
  refine Met.ofW (cc := cX8_ink) (maxL := 2) (ret := (some .int)) (by decide) rfl ?_
  intro p_ e_ s m args below meth c_0 s₁ B hml hv
  obtain ⟨rfl, hsz, hP, hK, hD0⟩ := hv
  have hx := B.exec
  have hb := B.bytes
  have hr := B.returns
  have hts := atoms_spec (ws := wsX8_ink) B.pre
  have hown : s.vm.findClass RX8 = some m.cls := findClass_of_methodNamed B.named
  have hlocks := B.notSynchronized
  subst hsz
  have hD := hD0.self (sz := s.heap.size)
  generalize hAe : va_A (mW cI a o f g h) s.heap.size = A at hD ⊢
  have hA : ∀ q : Nat, s.heap.size ≤ q → A q := fun q h => by rw [← hAe]; exact Or.inr h
  obtain ⟨H, hHe⟩ : ∃ H : Heap, H = s.heap := ⟨_, rfl⟩
  have hS : va_S A s.heap H [] := by rw [hHe]; exact va_S.rf
  rw [← hHe] at hP ⊢
  have hP : va_P (dC, dI) vwCl (mW cI a o f g h) H := hP
  have hl := lv_entry ([.ref (a), .int (x)]) (n := 2) (Nat.le_of_ble_eq_true rfl)
  rw [lg_entry_eq]
  generalize (lg_sl ([.ref (a), .int (x)]) ++ List.replicate (2 - (lg_sl ([.ref (a), .int (x)])).length) Slot.unset).toArray = ls at hl ⊢
  have hl : lv_has ls 2 [(0, .ref (a)), (1, .int (x))] := hl
  have hin8 : ∀ w ∈ wsX80, w ∈ wsX8_ink := fun _ h => List.mem_cons_of_mem _ (List.mem_append_right _ h)
  have hW0 := hts (.constantLong RX8 44 (7)) (by decide +kernel)
  have hW1 := hts (.fieldLink RX8 63 "EachEyeModel" "isThere" "Z") (by decide +kernel)
  have hW2 := hts (.fieldLink RX8 74 "EachEyeModel" "inks" "I") (by decide +kernel)
  have hW3 := hts (.fieldLink RX8 19 "EachEyeModel" "inkHues" "[I") (by decide +kernel)
  refine lv_iload_n hx hb dX8_ink_0 rfl (lv_at hl 1 rfl) ?_
  refine lv_i2l hx hb dX8_ink_1 rfl ?_
  refine lv_lconst (v := 1) hx hb dX8_ink_2 (by decide +kernel) ?_
  refine lv_ldc2 (v := 7) hx hb hown hW0 dX8_ink_3 ?_
  refine vp_callSi (va_Run.run (va_runS (As := [.long ((x).toInt64), .long (1), .long (7)]) (rest := []) ⟨hx, hb, hml, hown, hts⟩ (c8_in l (x) (1) (7) (1) (7) rfl rfl) (va_cwS 3 hts gX8_ink_X8_in rfl rfl rfl (by decide +kernel) ⟨Nat.le_of_ble_eq_true rfl, Nat.le_of_ble_eq_true rfl⟩) ⟨fun _ _ _ _ q => q, fun U hU hW => ⟨rfl, trivial⟩⟩ rfl rfl hl.1 rfl (lv_room (Nat.le_of_ble_eq_true rfl)) dX8_ink_6 ⟨Nat.le_of_ble_eq_true rfl, Nat.le_of_ble_eq_true rfl⟩)) (fun r hrc => ?_)
  have hrc : r = b2i ((1) ≤ (x).toInt ∧ (x).toInt ≤ (7)) := hrc
  subst hrc
  refine lv_if_ne (tgt := 15) hx hb dX8_ink_9 (by decide) (fun c_1 => ?_) (fun c_1 => ?_)
  · skip
    have c_1 := b2i_1 c_1
    refine lv_aload_n hx hb dX8_ink_15 rfl (lv_at hl 0 rfl) ?_
    refine va_get (D := (dC, dI)) (ci := 8) (v := .int (f 2)) (C := RX8) (T := TX8) (N := 25) hx hb hts hin8 hown hK hP 0 rfl rfl 2 (by decide) hW1 (fun _ h9 => h9) rfl dX8_ink_16 ?_
    refine lv_if_ne (tgt := 25) hx hb dX8_ink_19 (by decide) (fun c_2 => ?_) (fun c_2 => ?_)
    · skip
      have c_2 : ¬ (f 2) = nI 0 := c_2
      refine lv_aload_n hx hb dX8_ink_25 rfl (lv_at hl 0 rfl) ?_
      refine va_get (D := (dC, dI)) (ci := 8) (v := .int (nI (k7))) (C := RX8) (T := TX8) (N := 25) hx hb hts hin8 hown hK hP 0 rfl rfl 7 (by decide) hW2 (fun _ h9 => h9) (congrArg (fun z => some (Value.int z)) e7) dX8_ink_26 ?_
      refine lv_iconst (v := nI (5)) hx hb dX8_ink_29 (by decide +kernel) ?_
      refine lv_icmp_ne (tgt := 36) hx hb dX8_ink_30 (by decide) (fun c_3 => ?_) (fun c_3 => ?_)
      · skip
        rw [nI_eq (a := k7) (b := 5) (by omega) (by omega)] at c_3
        refine lv_aload_n hx hb dX8_ink_36 rfl (lv_at hl 0 rfl) ?_
        refine va_get (D := (dC, dI)) (ci := 8) (v := .ref (o 9)) (C := RX8) (T := TX8) (N := 25) hx hb hts hin8 hown hK hP 0 rfl rfl 9 (by decide) hW3 (fun _ h9 => h9) rfl dX8_ink_37 ?_
        refine lv_aload_n hx hb dX8_ink_40 rfl (lv_at hl 0 rfl) ?_
        refine va_get (D := (dC, dI)) (ci := 8) (v := .int (nI (k7))) (C := RX8) (T := TX8) (N := 25) hx hb hts hin8 hown hK hP 0 rfl rfl 7 (by decide) hW2 (fun _ h9 => h9) (congrArg (fun z => some (Value.int z)) e7) dX8_ink_41 ?_
        refine lv_iload_n hx hb dX8_ink_44 rfl (lv_at hl 1 rfl) ?_
        refine ast hx hb hK hP hD hS (f := g 9) (k := k7) 4 0 rfl rfl rfl (by omega) (by decide) dX8_ink_45 (fun H locs hP hD hS => ?_)
        have hP : va_P (dC, dI) vwCl (mW cI a o (f) (su g 9 (su (g 9) (k7) (x))) (h)) H := hP
        have hD : va_D A (mW cI a o (f) (su g 9 (su (g 9) (k7) (x))) (h)) := hD
        refine lv_aload_n hx hb dX8_ink_46 rfl (lv_at hl 0 rfl) ?_
        refine lv_dup hx hb dX8_ink_47 rfl ?_
        refine va_get (D := (dC, dI)) (ci := 8) (v := .int (nI (k7))) (C := RX8) (T := TX8) (N := 25) hx hb hts hin8 hown hK hP 0 rfl rfl 7 (by decide) hW2 (fun _ h9 => h9) (congrArg (fun z => some (Value.int z)) e7) dX8_ink_48 ?_
        refine lv_iconst (v := nI (1)) hx hb dX8_ink_51 (by decide +kernel) ?_
        refine lv_iadd hx hb dX8_ink_52 ?_
        refine tv (nI_add (k7) (1)) ?_
        refine va_put (D := (dC, dI)) (ci := 8) (v := .int (nI (k7 + 1))) (ty := .int) (C := RX8) (T := TX8) (N := 25) hx hb hts hin8 tyX8 tyX8_ok nmX8 hown hK hP hD hS 0 rfl rfl 7 (by decide) hW2 (fun _ h9 => h9) rfl (by decide +kernel) rfl rfl (Nat.le_of_ble_eq_true rfl) dX8_ink_53 (fun H locs hP hD hS => ?_)
        have hP : va_P (dC, dI) vwCl (mW cI a o (su f 7 (nI (k7 + 1))) (su g 9 (su (g 9) (k7) (x))) (h)) H := hP
        have hD : va_D A (mW cI a o (su f 7 (nI (k7 + 1))) (su g 9 (su (g 9) (k7) (x))) (h)) := hD
        refine lv_aload_n hx hb dX8_ink_56 rfl (lv_at hl 0 rfl) ?_
        refine va_get (D := (dC, dI)) (ci := 8) (v := .int (nI (k7 + 1))) (C := RX8) (T := TX8) (N := 25) hx hb hts hin8 hown hK hP 0 rfl rfl 7 (by decide) hW2 (fun _ h9 => h9) rfl dX8_ink_57 ?_
        refine lv_iconst (v := nI (1)) hx hb dX8_ink_60 (by decide +kernel) ?_
        refine lv_isub hx hb dX8_ink_61 ?_
        refine tv (pk_sub (a := k7 + 1) (b := 1) (by omega)) ?_
        have hP9 : va_P (dC, dI) vwCl (mW cI a o (su f 7 (nI (k7 + 1))) (su g 9 (su (g 9) (k7) (x))) (h)) H := hP
        exact W.iret (v := nI ((k7 + 1) - 1)) hx hb hr (fun t ht hW => ⟨⟨nI ((k7 + 1) - 1), (su f 7 (nI (k7 + 1)), su g 9 (su (g 9) (k7) (x)), h), rfl, (by show ((nI ((k7 + 1) - 1), (su f 7 (nI (k7 + 1)), su g 9 (su (g 9) (k7) (x)), h)) : _ × MSt) = mInkM f g h k7 x; first | (simp only [mInkM, if_pos c_1, if_neg c_2, if_neg c_3]; done) | (simp only [mInkM, if_pos c_1, if_neg c_2, if_neg c_3]; rfl) | rfl | (simp [mInkM, if_pos c_1, if_neg c_2, if_neg c_3]; done)), by rw [ht]; exact hP9, va_K.moved hW.alike hK, hD⟩, hS.F ht⟩) hS.2.2 dX8_ink_62
      · skip
        rw [nI_eq (a := k7) (b := 5) (by omega) (by omega)] at c_3
        refine lv_bipush (v := (-104)) hx hb dX8_ink_33 (by decide +kernel) ?_
        have hP9 : va_P (dC, dI) vwCl (mW cI a o (f) (g) (h)) H := hP
        exact W.iret (v := (-104)) hx hb hr (fun t ht hW => ⟨⟨(-104), (f, g, h), rfl, (by show (((-104), (f, g, h)) : _ × MSt) = mInkM f g h k7 x; first | (simp only [mInkM, if_pos c_1, if_neg c_2, if_pos c_3]; done) | (simp only [mInkM, if_pos c_1, if_neg c_2, if_pos c_3]; rfl) | rfl | (simp [mInkM, if_pos c_1, if_neg c_2, if_pos c_3]; done)), by rw [ht]; exact hP9, va_K.moved hW.alike hK, hD⟩, hS.F ht⟩) hS.2.2 dX8_ink_35
    · skip
      have c_2 : (f 2) = nI 0 := c_2
      refine lv_bipush (v := (-103)) hx hb dX8_ink_22 (by decide +kernel) ?_
      have hP9 : va_P (dC, dI) vwCl (mW cI a o (f) (g) (h)) H := hP
      exact W.iret (v := (-103)) hx hb hr (fun t ht hW => ⟨⟨(-103), (f, g, h), rfl, (by show (((-103), (f, g, h)) : _ × MSt) = mInkM f g h k7 x; first | (simp only [mInkM, if_pos c_1, if_pos c_2]; done) | (simp only [mInkM, if_pos c_1, if_pos c_2]; rfl) | rfl | (simp [mInkM, if_pos c_1, if_pos c_2]; done)), by rw [ht]; exact hP9, va_K.moved hW.alike hK, hD⟩, hS.F ht⟩) hS.2.2 dX8_ink_24
  · skip
    have c_1 := b2i_0 c_1
    refine lv_bipush (v := (-102)) hx hb dX8_ink_12 (by decide +kernel) ?_
    have hP9 : va_P (dC, dI) vwCl (mW cI a o (f) (g) (h)) H := hP
    exact W.iret (v := (-102)) hx hb hr (fun t ht hW => ⟨⟨(-102), (f, g, h), rfl, (by show (((-102), (f, g, h)) : _ × MSt) = mInkM f g h k7 x; first | (simp only [mInkM, if_neg c_1]; done) | (simp only [mInkM, if_neg c_1]; rfl) | rfl | (simp [mInkM, if_neg c_1]; done)), by rw [ht]; exact hP9, va_K.moved hW.alike hK, hD⟩, hS.F ht⟩) hS.2.2 dX8_ink_14

set_option maxHeartbeats 1200000 in
set_option maxRecDepth 100000 in
theorem c8_word (l : Launch) (dC : Nat → ClassId) (dI : Nat → Nat → Nat) (cI : ClassId) (a : Nat) (o : Nat → Nat) (f : Nat → Int32) (g : Nat → Nat → Int32) (h : Int64) (sz : Nat) {k1 : Nat} (e1 : f 1 = nI k1) (b1 : k1 ≤ 10) {k6 : Nat} (e6 : f 6 = nI k6) (b6 : k6 ≤ 4) (q : Int32) : Met l yX8_word wsX8_word ({ frames := 3, cells := 0, slots := 0, locals := 66 } : Room) (va_Pc [.ref (a), .int (q)] (fun U => U.heap.size = sz ∧ va_P (dC, dI) vwCl (mW cI a o f g h) U.heap ∧ va_K (dC, dI) vwCl [(cI, .int)] U ∧ va_D (fun _ => True) (mW cI a o f g h))) (va_Qi (fun (r : Int32) (u : MSt) => (r, u) = mWord f g h k1 k6 q) (mB dC dI cI a o (va_A (mW cI a o f g h) sz)) (va_A (mW cI a o f g h) sz)) 0 0 (va_A (mW cI a o f g h) sz) := by
  refine Met.ofW (cc := cX8_word) (maxL := 3) (ret := (some .int)) (by decide) rfl ?_
  intro p_ e_ s m args below meth c_0 s₁ B hml hv
  obtain ⟨rfl, hsz, hP, hK, hD0⟩ := hv
  have hx := B.exec
  have hb := B.bytes
  have hr := B.returns
  have hts := atoms_spec (ws := wsX8_word) B.pre
  have hown : s.vm.findClass RX8 = some m.cls := findClass_of_methodNamed B.named
  have hlocks := B.notSynchronized
  subst hsz
  have hD := hD0.self (sz := s.heap.size)
  generalize hAe : va_A (mW cI a o f g h) s.heap.size = A at hD ⊢
  have hA : ∀ q : Nat, s.heap.size ≤ q → A q := fun q h => by rw [← hAe]; exact Or.inr h
  obtain ⟨H, hHe⟩ : ∃ H : Heap, H = s.heap := ⟨_, rfl⟩
  have hS : va_S A s.heap H [] := by rw [hHe]; exact va_S.rf
  rw [← hHe] at hP ⊢
  have hP : va_P (dC, dI) vwCl (mW cI a o f g h) H := hP
  have hl := lv_entry ([.ref (a), .int (q)]) (n := 3) (Nat.le_of_ble_eq_true rfl)
  rw [lg_entry_eq]
  generalize (lg_sl ([.ref (a), .int (q)]) ++ List.replicate (3 - (lg_sl ([.ref (a), .int (q)])).length) Slot.unset).toArray = ls at hl ⊢
  have hl : lv_has ls 3 [(0, .ref (a)), (1, .int (q))] := hl
  have hin8 : ∀ w ∈ wsX80, w ∈ wsX8_word := fun _ h => List.mem_cons_of_mem _ (List.mem_append_right _ h)
  have hW0 := hts (.fieldLink RX8 16 "EachEyeModel" "rows" "[I") (by decide +kernel)
  have hW1 := hts (.fieldLink RX8 52 "EachEyeModel" "pageMany" "I") (by decide +kernel)
  have hW2 := hts (.fieldLink RX8 7 "EachEyeModel" "page" "[I") (by decide +kernel)
  refine lv_aload_n hx hb dX8_word_0 rfl (lv_at hl 0 rfl) ?_
  refine lv_iload_n hx hb dX8_word_1 rfl (lv_at hl 1 rfl) ?_
  refine vp_callSi (va_Run.run (va_runV (As := [.int (q)]) (rest := []) ⟨hx, hb, hml, hown, hts⟩ (c8_isPerson l dC dI cI a o (f) (g) (h) e6 (by omega) (q) ) (cwV 1 hts gX8_word_X8_isPerson rfl rfl rfl (by decide +kernel) ⟨Nat.le_of_ble_eq_true rfl, Nat.le_of_ble_eq_true rfl⟩) ⟨fun a U g mk q => ⟨q.1, q.2.1, va_K.moved (u := U) (U := U.calling g mk a) (Vm.Alike.refl U.vm) q.2.2⟩, va_recv hK hP (ci := 8) (q0 := 0) rfl rfl, fun U hU hW => ⟨rfl, by rw [hU]; exact hP, va_K.moved hW.alike hK⟩⟩ rfl rfl hl.1 rfl (lv_room (Nat.le_of_ble_eq_true rfl)) dX8_word_2 ⟨Nat.le_of_ble_eq_true rfl, Nat.le_of_ble_eq_true rfl⟩)) (fun r hrc => ?_)
  have hrc : r = b2i (0 ≤ (q).toInt ∧ (q).toInt ≤ (k6 : Int) - 1) := hrc
  subst hrc
  refine lv_if_ne (tgt := 11) hx hb dX8_word_5 (by decide) (fun c_1 => ?_) (fun c_1 => ?_)
  · skip
    have c_1 := b2i_1 c_1
    refine lv_aload_n hx hb dX8_word_11 rfl (lv_at hl 0 rfl) ?_
    refine vp_callSi (va_Run.run (va_runV (As := []) (rest := []) ⟨hx, hb, hml, hown, hts⟩ (c8_isSix l dC dI cI a o (f) (g) (h) e1 (by omega)  ) (cwV 0 hts gX8_word_X8_isSix rfl rfl rfl (by decide +kernel) ⟨Nat.le_of_ble_eq_true rfl, Nat.le_of_ble_eq_true rfl⟩) ⟨fun a U g mk q => ⟨q.1, q.2.1, va_K.moved (u := U) (U := U.calling g mk a) (Vm.Alike.refl U.vm) q.2.2⟩, va_recv hK hP (ci := 8) (q0 := 0) rfl rfl, fun U hU hW => ⟨rfl, by rw [hU]; exact hP, va_K.moved hW.alike hK⟩⟩ rfl rfl hl.1 rfl (lv_room (Nat.le_of_ble_eq_true rfl)) dX8_word_12 ⟨Nat.le_of_ble_eq_true rfl, Nat.le_of_ble_eq_true rfl⟩)) (fun r hrc => ?_)
    have hrc : r = b2i ((k1) = 6 ∧ mfl (g) (k1) = 6) := hrc
    subst hrc
    refine lv_if_ne (tgt := 21) hx hb dX8_word_15 (by decide) (fun c_2 => ?_) (fun c_2 => ?_)
    · skip
      have c_2 := b2i_1 c_2
      refine lv_iconst (v := nI (0)) hx hb dX8_word_21 (by decide +kernel) ?_
      refine lv_istore_n (lv' := [(2, .int (nI (0))), (0, .ref (a)), (1, .int (q))]) hx hb dX8_word_22 rfl hl (by decide) rfl (fun ls hl => ?_)
      have hP0 : va_P (dC, dI) vwCl (mW cI a o (f) (su g 8 (pur (g 8) (10 * (q.toInt.toNat) + 4) (fun j => g 0 j - nI 48) (0))) (h)) H := by rw [pur_0]; exact hP
      have hD0 : va_D A (mW cI a o (f) (su g 8 (pur (g 8) (10 * (q.toInt.toNat) + 4) (fun j => g 0 j - nI 48) (0))) (h)) := by rw [pur_0]; exact hD
      refine lp_rw (fun k : Nat => 6 - k) (fun k : Nat => k ≤ 6) (fun k : Nat => [(0, .ref (a)), (1, .int (q)), (2, .int (nI (k)))]) (fun k : Nat => mW cI a o (f) (su g 8 (pur (g 8) (10 * (q.toInt.toNat) + 4) (fun j => g 0 j - nI 48) (k))) (h)) (0) (by omega) hP0 hD0 hS (by show lv_has ls 3 [(0, .ref (a)), (1, .int (q)), (2, .int (nI (0)))]; exact lv_sub hl [1, 2, 0] rfl) (fun k hI ih_23 H locs ls hP hD hS hl => ?_)
      have hP : va_P (dC, dI) vwCl (mW cI a o (f) (su g 8 (pur (g 8) (10 * (q.toInt.toNat) + 4) (fun j => g 0 j - nI 48) (k))) (h)) H := hP
      have hD : va_D A (mW cI a o (f) (su g 8 (pur (g 8) (10 * (q.toInt.toNat) + 4) (fun j => g 0 j - nI 48) (k))) (h)) := hD
      have hI : k ≤ 6 := hI
      have hl : lv_has ls 3 [(0, .ref (a)), (1, .int (q)), (2, .int (nI (k)))] := hl
      refine lv_iload_n hx hb dX8_word_23 rfl (lv_at hl 2 rfl) ?_
      refine lv_bipush (v := nI (6)) hx hb dX8_word_24 (by decide +kernel) ?_
      refine lv_icmp_ge (tgt := 57) hx hb dX8_word_26 (by decide) (fun c_3 => ?_) (fun c_3 => ?_)
      · skip
        rw [nI_leI (a := 6) (b := k) (by omega) (by omega)] at c_3
        have hE : 6 = k := by omega
        subst hE
        refine lv_aload_n hx hb dX8_word_57 rfl (lv_at hl 0 rfl) ?_
        refine va_get (D := (dC, dI)) (ci := 8) (v := .ref (o 8)) (C := RX8) (T := TX8) (N := 25) hx hb hts hin8 hown hK hP 0 rfl rfl 8 (by decide) hW0 (fun _ h9 => h9) rfl dX8_word_58 ?_
        refine lv_bipush (v := nI (10)) hx hb dX8_word_61 (by decide +kernel) ?_
        refine lv_iload_n hx hb dX8_word_63 rfl (lv_at hl 1 rfl) ?_
        refine tv (ix_int (by omega)) ?_
        refine lv_imul hx hb dX8_word_64 ?_
        refine tv (pk_mul (10) (q.toInt.toNat)) ?_
        refine lv_iconst (v := nI (3)) hx hb dX8_word_65 (by decide +kernel) ?_
        refine lv_iadd hx hb dX8_word_66 ?_
        refine tv (nI_add (10 * (q.toInt.toNat)) (3)) ?_
        refine lv_iconst (v := nI (1)) hx hb dX8_word_67 (by decide +kernel) ?_
        refine ast hx hb hK hP hD hS (f := pur (g 8) (10 * (q.toInt.toNat) + 4) (fun j => g 0 j - nI 48) (6)) (k := 10 * (q.toInt.toNat) + 3) 3 0 rfl rfl rfl (by omega) (by decide) dX8_word_68 (fun H locs hP hD hS => ?_)
        have hP : va_P (dC, dI) vwCl (mW cI a o (f) (su g 8 (su (pur (g 8) (10 * (q.toInt.toNat) + 4) (fun j => g 0 j - nI 48) (6)) (10 * (q.toInt.toNat) + 3) (nI (1)))) (h)) H := hP
        have hD : va_D A (mW cI a o (f) (su g 8 (su (pur (g 8) (10 * (q.toInt.toNat) + 4) (fun j => g 0 j - nI 48) (6)) (10 * (q.toInt.toNat) + 3) (nI (1)))) (h)) := hD
        refine lv_aload_n hx hb dX8_word_69 rfl (lv_at hl 0 rfl) ?_
        refine lv_iconst (v := nI (0)) hx hb dX8_word_70 (by decide +kernel) ?_
        refine va_put (D := (dC, dI)) (ci := 8) (v := .int (nI (0))) (ty := .int) (C := RX8) (T := TX8) (N := 25) hx hb hts hin8 tyX8 tyX8_ok nmX8 hown hK hP hD hS 0 rfl rfl 1 (by decide) hW1 (fun _ h9 => h9) rfl (by decide +kernel) rfl rfl (Nat.le_of_ble_eq_true rfl) dX8_word_71 (fun H locs hP hD hS => ?_)
        have hP : va_P (dC, dI) vwCl (mW cI a o (su f 1 (nI (0))) (su g 8 (su (pur (g 8) (10 * (q.toInt.toNat) + 4) (fun j => g 0 j - nI 48) (6)) (10 * (q.toInt.toNat) + 3) (nI (1)))) (h)) H := hP
        have hD : va_D A (mW cI a o (su f 1 (nI (0))) (su g 8 (su (pur (g 8) (10 * (q.toInt.toNat) + 4) (fun j => g 0 j - nI 48) (6)) (10 * (q.toInt.toNat) + 3) (nI (1)))) (h)) := hD
        refine lv_aload_n hx hb dX8_word_74 rfl (lv_at hl 0 rfl) ?_
        refine vp_callSi (va_Run.run (va_runV (As := []) (rest := []) ⟨hx, hb, hml, hown, hts⟩ (c8_wordMany l dC dI cI a o (su f 1 (nI (0))) (su g 8 (su (pur (g 8) (10 * (q.toInt.toNat) + 4) (fun j => g 0 j - nI 48) (6)) (10 * (q.toInt.toNat) + 3) (nI (1)))) (h) e6 (by omega)  ) (cwV 0 hts gX8_word_X8_wordMany rfl rfl rfl (by decide +kernel) ⟨Nat.le_of_ble_eq_true rfl, Nat.le_of_ble_eq_true rfl⟩) ⟨fun a U g mk q => ⟨q.1, q.2.1, va_K.moved (u := U) (U := U.calling g mk a) (Vm.Alike.refl U.vm) q.2.2⟩, va_recv hK hP (ci := 8) (q0 := 0) rfl rfl, fun U hU hW => ⟨rfl, by rw [hU]; exact hP, va_K.moved hW.alike hK⟩⟩ rfl rfl hl.1 rfl (lv_room (Nat.le_of_ble_eq_true rfl)) dX8_word_75 ⟨Nat.le_of_ble_eq_true rfl, Nat.le_of_ble_eq_true rfl⟩)) (fun r hrc => ?_)
        have hrc : r = mWm (su g 8 (su (pur (g 8) (10 * (q.toInt.toNat) + 4) (fun j => g 0 j - nI 48) (6)) (10 * (q.toInt.toNat) + 3) (nI (1)))) (k6) := hrc
        subst hrc
        have hP9 : va_P (dC, dI) vwCl (mW cI a o (su f 1 (nI (0))) (su g 8 (su (pur (g 8) (10 * (q.toInt.toNat) + 4) (fun j => g 0 j - nI 48) (6)) (10 * (q.toInt.toNat) + 3) (nI (1)))) (h)) H := hP
        exact W.iret (v := mWm (su g 8 (su (pur (g 8) (10 * (q.toInt.toNat) + 4) (fun j => g 0 j - nI 48) (6)) (10 * (q.toInt.toNat) + 3) (nI (1)))) (k6)) hx hb hr (fun t ht hW => ⟨⟨mWm (su g 8 (su (pur (g 8) (10 * (q.toInt.toNat) + 4) (fun j => g 0 j - nI 48) (6)) (10 * (q.toInt.toNat) + 3) (nI (1)))) (k6), (su f 1 (nI (0)), su g 8 (su (pur (g 8) (10 * (q.toInt.toNat) + 4) (fun j => g 0 j - nI 48) (6)) (10 * (q.toInt.toNat) + 3) (nI (1))), h), rfl, (by show ((mWm (su g 8 (su (pur (g 8) (10 * (q.toInt.toNat) + 4) (fun j => g 0 j - nI 48) (6)) (10 * (q.toInt.toNat) + 3) (nI (1)))) (k6), (su f 1 (nI (0)), su g 8 (su (pur (g 8) (10 * (q.toInt.toNat) + 4) (fun j => g 0 j - nI 48) (6)) (10 * (q.toInt.toNat) + 3) (nI (1))), h)) : _ × MSt) = mWord f g h k1 k6 q; first | (simp only [mWord, mWordG, if_pos c_1, if_pos c_2, if_pos c_3]; done) | (simp only [mWord, mWordG, if_pos c_1, if_pos c_2, if_pos c_3]; rfl) | rfl | (simp [mWord, mWordG, if_pos c_1, if_pos c_2, if_pos c_3]; done)), by rw [ht]; exact hP9, va_K.moved hW.alike hK, hD⟩, hS.F ht⟩) hS.2.2 dX8_word_78
      · skip
        rw [nI_leI (a := 6) (b := k) (by omega) (by omega)] at c_3
        refine lv_aload_n hx hb dX8_word_29 rfl (lv_at hl 0 rfl) ?_
        refine va_get (D := (dC, dI)) (ci := 8) (v := .ref (o 8)) (C := RX8) (T := TX8) (N := 25) hx hb hts hin8 hown hK hP 0 rfl rfl 8 (by decide) hW0 (fun _ h9 => h9) rfl dX8_word_30 ?_
        refine lv_bipush (v := nI (10)) hx hb dX8_word_33 (by decide +kernel) ?_
        refine lv_iload_n hx hb dX8_word_35 rfl (lv_at hl 1 rfl) ?_
        refine tv (ix_int (by omega)) ?_
        refine lv_imul hx hb dX8_word_36 ?_
        refine tv (pk_mul (10) (q.toInt.toNat)) ?_
        refine lv_iconst (v := nI (4)) hx hb dX8_word_37 (by decide +kernel) ?_
        refine lv_iadd hx hb dX8_word_38 ?_
        refine tv (nI_add (10 * (q.toInt.toNat)) (4)) ?_
        refine lv_iload_n hx hb dX8_word_39 rfl (lv_at hl 2 rfl) ?_
        refine lv_iadd hx hb dX8_word_40 ?_
        refine tv (nI_add (10 * (q.toInt.toNat) + 4) (k)) ?_
        refine lv_aload_n hx hb dX8_word_41 rfl (lv_at hl 0 rfl) ?_
        refine va_get (D := (dC, dI)) (ci := 8) (v := .ref (o 0)) (C := RX8) (T := TX8) (N := 25) hx hb hts hin8 hown hK hP 0 rfl rfl 0 (by decide) hW2 (fun _ h9 => h9) rfl dX8_word_42 ?_
        refine lv_iload_n hx hb dX8_word_45 rfl (lv_at hl 2 rfl) ?_
        refine ald hx hb hK hP (f := g 0) (k := k) 1 0 rfl rfl rfl (by omega) (by decide) dX8_word_46 ?_
        refine lv_bipush (v := nI (48)) hx hb dX8_word_47 (by decide +kernel) ?_
        refine lv_isub hx hb dX8_word_49 ?_
        refine ast hx hb hK hP hD hS (f := pur (g 8) (10 * (q.toInt.toNat) + 4) (fun j => g 0 j - nI 48) (k)) (k := 10 * (q.toInt.toNat) + 4 + k) 3 0 rfl rfl rfl (by omega) (by decide) dX8_word_50 (fun H locs hP hD hS => ?_)
        have hP : va_P (dC, dI) vwCl (mW cI a o (f) (su g 8 (su (pur (g 8) (10 * (q.toInt.toNat) + 4) (fun j => g 0 j - nI 48) (k)) (10 * (q.toInt.toNat) + 4 + k) ((g 0 (k)) - (nI (48))))) (h)) H := hP
        have hD : va_D A (mW cI a o (f) (su g 8 (su (pur (g 8) (10 * (q.toInt.toNat) + 4) (fun j => g 0 j - nI 48) (k)) (10 * (q.toInt.toNat) + 4 + k) ((g 0 (k)) - (nI (48))))) (h)) := hD
        refine lv_iinc (v := nI (k + 1)) (lv' := [(2, .int (nI (k + 1))), (0, .ref (a)), (1, .int (q))]) hx hb dX8_word_51 hl (k := 2) rfl (nI_1 _) (by decide) rfl (fun ls hl => ?_)
        refine lv_goto (tgt := 23) hx hb dX8_word_54 (by decide) ?_
        have e2_0 : su (pur (g 8) (10 * (q.toInt.toNat) + 4) (fun j => g 0 j - nI 48) (k)) (10 * (q.toInt.toNat) + 4 + k) ((g 0 (k)) - (nI (48))) = pur (g 8) (10 * (q.toInt.toNat) + 4) (fun j => g 0 j - nI 48) (k + 1) := by rw [← pur_s]
        have hP : va_P (dC, dI) vwCl (mW cI a o (f) (su g 8 (pur (g 8) (10 * (q.toInt.toNat) + 4) (fun j => g 0 j - nI 48) (k + 1))) (h)) H := by rw [← e2_0]; exact hP
        have hD : va_D A (mW cI a o (f) (su g 8 (pur (g 8) (10 * (q.toInt.toNat) + 4) (fun j => g 0 j - nI 48) (k + 1))) (h)) := by rw [← e2_0]; exact hD
        exact ih_23 (k + 1) H locs ls (by show _ < _; omega) (by show _; omega) hP hD hS (by show lv_has ls 3 [(0, .ref (a)), (1, .int (q)), (2, .int (nI ((k + 1))))]; exact lv_sub hl [1, 2, 0] rfl)
    · skip
      have c_2 := b2i_0 c_2
      refine lv_bipush (v := (-103)) hx hb dX8_word_18 (by decide +kernel) ?_
      have hP9 : va_P (dC, dI) vwCl (mW cI a o (f) (g) (h)) H := hP
      exact W.iret (v := (-103)) hx hb hr (fun t ht hW => ⟨⟨(-103), (f, g, h), rfl, (by show (((-103), (f, g, h)) : _ × MSt) = mWord f g h k1 k6 q; first | (simp only [mWord, mWordG, if_pos c_1, if_neg c_2]; done) | (simp only [mWord, mWordG, if_pos c_1, if_neg c_2]; rfl) | rfl | (simp [mWord, mWordG, if_pos c_1, if_neg c_2]; done)), by rw [ht]; exact hP9, va_K.moved hW.alike hK, hD⟩, hS.F ht⟩) hS.2.2 dX8_word_20
  · skip
    have c_1 := b2i_0 c_1
    refine lv_bipush (v := (-101)) hx hb dX8_word_8 (by decide +kernel) ?_
    have hP9 : va_P (dC, dI) vwCl (mW cI a o (f) (g) (h)) H := hP
    exact W.iret (v := (-101)) hx hb hr (fun t ht hW => ⟨⟨(-101), (f, g, h), rfl, (by show (((-101), (f, g, h)) : _ × MSt) = mWord f g h k1 k6 q; first | (simp only [mWord, mWordG, if_neg c_1]; done) | (simp only [mWord, mWordG, if_neg c_1]; rfl) | rfl | (simp [mWord, mWordG, if_neg c_1]; done)), by rw [ht]; exact hP9, va_K.moved hW.alike hK, hD⟩, hS.F ht⟩) hS.2.2 dX8_word_10

set_option maxHeartbeats 1200000 in
set_option maxRecDepth 100000 in
theorem c8_unword (l : Launch) (dC : Nat → ClassId) (dI : Nat → Nat → Nat) (cI : ClassId) (a : Nat) (o : Nat → Nat) (f : Nat → Int32) (g : Nat → Nat → Int32) (h : Int64) (sz : Nat) {k6 : Nat} (e6 : f 6 = nI k6) (b6 : k6 ≤ 4) (q : Int32) : Met l yX8_unword wsX8_unword ({ frames := 2, cells := 0, slots := 0, locals := 46 } : Room) (va_Pc [.ref (a), .int (q)] (fun U => U.heap.size = sz ∧ va_P (dC, dI) vwCl (mW cI a o f g h) U.heap ∧ va_K (dC, dI) vwCl [(cI, .int)] U ∧ va_D (fun _ => True) (mW cI a o f g h))) (va_Qi (fun (r : Int32) (u : MSt) => (r, u) = mUnword f g h k6 q) (mB dC dI cI a o (va_A (mW cI a o f g h) sz)) (va_A (mW cI a o f g h) sz)) 0 0 (va_A (mW cI a o f g h) sz) := by
  refine Met.ofW (cc := cX8_unword) (maxL := 3) (ret := (some .int)) (by decide) rfl ?_
  intro p_ e_ s m args below meth c_0 s₁ B hml hv
  obtain ⟨rfl, hsz, hP, hK, hD0⟩ := hv
  have hx := B.exec
  have hb := B.bytes
  have hr := B.returns
  have hts := atoms_spec (ws := wsX8_unword) B.pre
  have hown : s.vm.findClass RX8 = some m.cls := findClass_of_methodNamed B.named
  have hlocks := B.notSynchronized
  subst hsz
  have hD := hD0.self (sz := s.heap.size)
  generalize hAe : va_A (mW cI a o f g h) s.heap.size = A at hD ⊢
  have hA : ∀ q : Nat, s.heap.size ≤ q → A q := fun q h => by rw [← hAe]; exact Or.inr h
  obtain ⟨H, hHe⟩ : ∃ H : Heap, H = s.heap := ⟨_, rfl⟩
  have hS : va_S A s.heap H [] := by rw [hHe]; exact va_S.rf
  rw [← hHe] at hP ⊢
  have hP : va_P (dC, dI) vwCl (mW cI a o f g h) H := hP
  have hl := lv_entry ([.ref (a), .int (q)]) (n := 3) (Nat.le_of_ble_eq_true rfl)
  rw [lg_entry_eq]
  generalize (lg_sl ([.ref (a), .int (q)]) ++ List.replicate (3 - (lg_sl ([.ref (a), .int (q)])).length) Slot.unset).toArray = ls at hl ⊢
  have hl : lv_has ls 3 [(0, .ref (a)), (1, .int (q))] := hl
  have hin8 : ∀ w ∈ wsX80, w ∈ wsX8_unword := fun _ h => List.mem_cons_of_mem _ (List.mem_append_right _ h)
  have hW0 := hts (.fieldLink RX8 16 "EachEyeModel" "rows" "[I") (by decide +kernel)
  refine lv_aload_n hx hb dX8_unword_0 rfl (lv_at hl 0 rfl) ?_
  refine lv_iload_n hx hb dX8_unword_1 rfl (lv_at hl 1 rfl) ?_
  refine vp_callSi (va_Run.run (va_runV (As := [.int (q)]) (rest := []) ⟨hx, hb, hml, hown, hts⟩ (c8_isPerson l dC dI cI a o (f) (g) (h) e6 (by omega) (q) ) (cwV 1 hts gX8_unword_X8_isPerson rfl rfl rfl (by decide +kernel) ⟨Nat.le_of_ble_eq_true rfl, Nat.le_of_ble_eq_true rfl⟩) ⟨fun a U g mk q => ⟨q.1, q.2.1, va_K.moved (u := U) (U := U.calling g mk a) (Vm.Alike.refl U.vm) q.2.2⟩, va_recv hK hP (ci := 8) (q0 := 0) rfl rfl, fun U hU hW => ⟨rfl, by rw [hU]; exact hP, va_K.moved hW.alike hK⟩⟩ rfl rfl hl.1 rfl (lv_room (Nat.le_of_ble_eq_true rfl)) dX8_unword_2 ⟨Nat.le_of_ble_eq_true rfl, Nat.le_of_ble_eq_true rfl⟩)) (fun r hrc => ?_)
  have hrc : r = b2i (0 ≤ (q).toInt ∧ (q).toInt ≤ (k6 : Int) - 1) := hrc
  subst hrc
  refine lv_if_ne (tgt := 11) hx hb dX8_unword_5 (by decide) (fun c_1 => ?_) (fun c_1 => ?_)
  · skip
    have c_1 := b2i_1 c_1
    refine lv_aload_n hx hb dX8_unword_11 rfl (lv_at hl 0 rfl) ?_
    refine va_get (D := (dC, dI)) (ci := 8) (v := .ref (o 8)) (C := RX8) (T := TX8) (N := 25) hx hb hts hin8 hown hK hP 0 rfl rfl 8 (by decide) hW0 (fun _ h9 => h9) rfl dX8_unword_12 ?_
    refine lv_bipush (v := nI (10)) hx hb dX8_unword_15 (by decide +kernel) ?_
    refine lv_iload_n hx hb dX8_unword_17 rfl (lv_at hl 1 rfl) ?_
    refine tv (ix_int (by omega)) ?_
    refine lv_imul hx hb dX8_unword_18 ?_
    refine tv (pk_mul (10) (q.toInt.toNat)) ?_
    refine lv_iconst (v := nI (3)) hx hb dX8_unword_19 (by decide +kernel) ?_
    refine lv_iadd hx hb dX8_unword_20 ?_
    refine tv (nI_add (10 * (q.toInt.toNat)) (3)) ?_
    refine ald hx hb hK hP (f := g 8) (k := 10 * (q.toInt.toNat) + 3) 3 0 rfl rfl rfl (by omega) (by decide) dX8_unword_21 ?_
    refine lv_istore_n (lv' := [(2, .int (g 8 (10 * (q.toInt.toNat) + 3))), (0, .ref (a)), (1, .int (q))]) hx hb dX8_unword_22 rfl hl (by decide) rfl (fun ls hl => ?_)
    refine lv_aload_n hx hb dX8_unword_23 rfl (lv_at hl 1 rfl) ?_
    refine va_get (D := (dC, dI)) (ci := 8) (v := .ref (o 8)) (C := RX8) (T := TX8) (N := 25) hx hb hts hin8 hown hK hP 0 rfl rfl 8 (by decide) hW0 (fun _ h9 => h9) rfl dX8_unword_24 ?_
    refine lv_bipush (v := nI (10)) hx hb dX8_unword_27 (by decide +kernel) ?_
    refine lv_iload_n hx hb dX8_unword_29 rfl (lv_at hl 2 rfl) ?_
    refine tv (ix_int (by omega)) ?_
    refine lv_imul hx hb dX8_unword_30 ?_
    refine tv (pk_mul (10) (q.toInt.toNat)) ?_
    refine lv_iconst (v := nI (3)) hx hb dX8_unword_31 (by decide +kernel) ?_
    refine lv_iadd hx hb dX8_unword_32 ?_
    refine tv (nI_add (10 * (q.toInt.toNat)) (3)) ?_
    refine lv_iconst (v := nI (0)) hx hb dX8_unword_33 (by decide +kernel) ?_
    refine ast hx hb hK hP hD hS (f := g 8) (k := 10 * (q.toInt.toNat) + 3) 3 0 rfl rfl rfl (by omega) (by decide) dX8_unword_34 (fun H locs hP hD hS => ?_)
    have hP : va_P (dC, dI) vwCl (mW cI a o (f) (su g 8 (su (g 8) (10 * (q.toInt.toNat) + 3) (nI (0)))) (h)) H := hP
    have hD : va_D A (mW cI a o (f) (su g 8 (su (g 8) (10 * (q.toInt.toNat) + 3) (nI (0)))) (h)) := hD
    refine lv_iload_n hx hb dX8_unword_35 rfl (lv_at hl 0 rfl) ?_
    have hP9 : va_P (dC, dI) vwCl (mW cI a o (f) (su g 8 (su (g 8) (10 * (q.toInt.toNat) + 3) (nI (0)))) (h)) H := hP
    exact W.iret (v := g 8 (10 * (q.toInt.toNat) + 3)) hx hb hr (fun t ht hW => ⟨⟨g 8 (10 * (q.toInt.toNat) + 3), (f, su g 8 (su (g 8) (10 * (q.toInt.toNat) + 3) (nI (0))), h), rfl, (by show ((g 8 (10 * (q.toInt.toNat) + 3), (f, su g 8 (su (g 8) (10 * (q.toInt.toNat) + 3) (nI (0))), h)) : _ × MSt) = mUnword f g h k6 q; first | (simp only [mUnword, if_pos c_1]; done) | (simp only [mUnword, if_pos c_1]; rfl) | rfl | (simp [mUnword, if_pos c_1]; done)), by rw [ht]; exact hP9, va_K.moved hW.alike hK, hD⟩, hS.F ht⟩) hS.2.2 dX8_unword_36
  · skip
    have c_1 := b2i_0 c_1
    refine lv_bipush (v := (-101)) hx hb dX8_unword_8 (by decide +kernel) ?_
    have hP9 : va_P (dC, dI) vwCl (mW cI a o (f) (g) (h)) H := hP
    exact W.iret (v := (-101)) hx hb hr (fun t ht hW => ⟨⟨(-101), (f, g, h), rfl, (by show (((-101), (f, g, h)) : _ × MSt) = mUnword f g h k6 q; first | (simp only [mUnword, if_neg c_1]; done) | (simp only [mUnword, if_neg c_1]; rfl) | rfl | (simp [mUnword, if_neg c_1]; done)), by rw [ht]; exact hP9, va_K.moved hW.alike hK, hD⟩, hS.F ht⟩) hS.2.2 dX8_unword_10

set_option maxHeartbeats 1200000 in
set_option maxRecDepth 100000 in
theorem c8_card (l : Launch) (dC : Nat → ClassId) (dI : Nat → Nat → Nat) (cI : ClassId) (a : Nat) (o : Nat → Nat) (f : Nat → Int32) (g : Nat → Nat → Int32) (h : Int64) (sz : Nat) {k10 : Nat} (e10 : f 10 = nI k10) (b10 : k10 ≤ 8) (x : Int32) (y : Int32) : Met l yX8_card wsX8_card ({ frames := 2, cells := 0, slots := 0, locals := 45 } : Room) (va_Pc [.ref (a), .int (x), .int (y)] (fun U => U.heap.size = sz ∧ va_P (dC, dI) vwCl (mW cI a o f g h) U.heap ∧ va_K (dC, dI) vwCl [(cI, .int)] U ∧ va_D (fun _ => True) (mW cI a o f g h))) (va_Qi (fun (r : Int32) (u : MSt) => (r, u) = mCard f g h k10 x y) (mB dC dI cI a o (va_A (mW cI a o f g h) sz)) (va_A (mW cI a o f g h) sz)) 0 0 (va_A (mW cI a o f g h) sz) := by
  refine Met.ofW (cc := cX8_card) (maxL := 3) (ret := (some .int)) (by decide) rfl ?_
  intro p_ e_ s m args below meth c_0 s₁ B hml hv
  obtain ⟨rfl, hsz, hP, hK, hD0⟩ := hv
  have hx := B.exec
  have hb := B.bytes
  have hr := B.returns
  have hts := atoms_spec (ws := wsX8_card) B.pre
  have hown : s.vm.findClass RX8 = some m.cls := findClass_of_methodNamed B.named
  have hlocks := B.notSynchronized
  subst hsz
  have hD := hD0.self (sz := s.heap.size)
  generalize hAe : va_A (mW cI a o f g h) s.heap.size = A at hD ⊢
  have hA : ∀ q : Nat, s.heap.size ≤ q → A q := fun q h => by rw [← hAe]; exact Or.inr h
  obtain ⟨H, hHe⟩ : ∃ H : Heap, H = s.heap := ⟨_, rfl⟩
  have hS : va_S A s.heap H [] := by rw [hHe]; exact va_S.rf
  rw [← hHe] at hP ⊢
  have hP : va_P (dC, dI) vwCl (mW cI a o f g h) H := hP
  have hl := lv_entry ([.ref (a), .int (x), .int (y)]) (n := 3) (Nat.le_of_ble_eq_true rfl)
  rw [lg_entry_eq]
  generalize (lg_sl ([.ref (a), .int (x), .int (y)]) ++ List.replicate (3 - (lg_sl ([.ref (a), .int (x), .int (y)])).length) Slot.unset).toArray = ls at hl ⊢
  have hl : lv_has ls 3 [(0, .ref (a)), (1, .int (x)), (2, .int (y))] := hl
  have hin8 : ∀ w ∈ wsX80, w ∈ wsX8_card := fun _ h => List.mem_cons_of_mem _ (List.mem_append_right _ h)
  have hW0 := hts (.fieldLink RX8 77 "EachEyeModel" "cards" "I") (by decide +kernel)
  have hW1 := hts (.fieldLink RX8 22 "EachEyeModel" "cardRows" "[I") (by decide +kernel)
  refine lv_iload_n hx hb dX8_card_0 rfl (lv_at hl 1 rfl) ?_
  refine vp_callSi (va_Run.run (va_runS (As := [.int (x)]) (rest := []) ⟨hx, hb, hml, hown, hts⟩ (c8_isHue l (x)) (va_cwS 1 hts gX8_card_X8_isHue rfl rfl rfl (by decide +kernel) ⟨Nat.le_of_ble_eq_true rfl, Nat.le_of_ble_eq_true rfl⟩) ⟨fun _ _ _ _ q => q, fun U hU hW => ⟨rfl, trivial⟩⟩ rfl rfl hl.1 rfl (lv_room (Nat.le_of_ble_eq_true rfl)) dX8_card_1 ⟨Nat.le_of_ble_eq_true rfl, Nat.le_of_ble_eq_true rfl⟩)) (fun r hrc => ?_)
  have hrc : r = b2i (0 ≤ (x).toInt ∧ (x).toInt ≤ 7) := hrc
  subst hrc
  refine lv_if_eq (tgt := 14) hx hb dX8_card_4 (by decide) (fun c_1 => ?_) (fun c_1 => ?_)
  · skip
    have c_1 := b2i_0 c_1
    refine lv_bipush (v := (-102)) hx hb dX8_card_14 (by decide +kernel) ?_
    have hP9 : va_P (dC, dI) vwCl (mW cI a o (f) (g) (h)) H := hP
    exact W.iret (v := (-102)) hx hb hr (fun t ht hW => ⟨⟨(-102), (f, g, h), rfl, (by show (((-102), (f, g, h)) : _ × MSt) = mCard f g h k10 x y; first | (simp only [mCard, if_neg c_1]; done) | (simp only [mCard, if_neg c_1]; rfl) | rfl | (simp [mCard, if_neg c_1]; done)), by rw [ht]; exact hP9, va_K.moved hW.alike hK, hD⟩, hS.F ht⟩) hS.2.2 dX8_card_16
  · skip
    have c_1 := b2i_1 c_1
    refine lv_iload_n hx hb dX8_card_7 rfl (lv_at hl 2 rfl) ?_
    refine vp_callSi (va_Run.run (va_runS (As := [.int (y)]) (rest := []) ⟨hx, hb, hml, hown, hts⟩ (c8_isHue l (y)) (va_cwS 1 hts gX8_card_X8_isHue rfl rfl rfl (by decide +kernel) ⟨Nat.le_of_ble_eq_true rfl, Nat.le_of_ble_eq_true rfl⟩) ⟨fun _ _ _ _ q => q, fun U hU hW => ⟨rfl, trivial⟩⟩ rfl rfl hl.1 rfl (lv_room (Nat.le_of_ble_eq_true rfl)) dX8_card_8 ⟨Nat.le_of_ble_eq_true rfl, Nat.le_of_ble_eq_true rfl⟩)) (fun r hrc => ?_)
    have hrc : r = b2i (0 ≤ (y).toInt ∧ (y).toInt ≤ 7) := hrc
    subst hrc
    refine lv_if_ne (tgt := 17) hx hb dX8_card_11 (by decide) (fun c_2 => ?_) (fun c_2 => ?_)
    · skip
      have c_2 := b2i_1 c_2
      refine lv_aload_n hx hb dX8_card_17 rfl (lv_at hl 0 rfl) ?_
      refine va_get (D := (dC, dI)) (ci := 8) (v := .int (nI (k10))) (C := RX8) (T := TX8) (N := 25) hx hb hts hin8 hown hK hP 0 rfl rfl 10 (by decide) hW0 (fun _ h9 => h9) (congrArg (fun z => some (Value.int z)) e10) dX8_card_18 ?_
      refine lv_bipush (v := nI (8)) hx hb dX8_card_21 (by decide +kernel) ?_
      refine lv_icmp_ne (tgt := 29) hx hb dX8_card_23 (by decide) (fun c_3 => ?_) (fun c_3 => ?_)
      · skip
        rw [nI_eq (a := k10) (b := 8) (by omega) (by omega)] at c_3
        refine lv_aload_n hx hb dX8_card_29 rfl (lv_at hl 0 rfl) ?_
        refine va_get (D := (dC, dI)) (ci := 8) (v := .ref (o 12)) (C := RX8) (T := TX8) (N := 25) hx hb hts hin8 hown hK hP 0 rfl rfl 12 (by decide) hW1 (fun _ h9 => h9) rfl dX8_card_30 ?_
        refine lv_iconst (v := nI (2)) hx hb dX8_card_33 (by decide +kernel) ?_
        refine lv_aload_n hx hb dX8_card_34 rfl (lv_at hl 0 rfl) ?_
        refine va_get (D := (dC, dI)) (ci := 8) (v := .int (nI (k10))) (C := RX8) (T := TX8) (N := 25) hx hb hts hin8 hown hK hP 0 rfl rfl 10 (by decide) hW0 (fun _ h9 => h9) (congrArg (fun z => some (Value.int z)) e10) dX8_card_35 ?_
        refine lv_imul hx hb dX8_card_38 ?_
        refine tv (pk_mul (2) (k10)) ?_
        refine lv_iload_n hx hb dX8_card_39 rfl (lv_at hl 1 rfl) ?_
        refine ast hx hb hK hP hD hS (f := g 12) (k := 2 * (k10)) 5 0 rfl rfl rfl (by omega) (by decide) dX8_card_40 (fun H locs hP hD hS => ?_)
        have hP : va_P (dC, dI) vwCl (mW cI a o (f) (su g 12 (su (g 12) (2 * (k10)) (x))) (h)) H := hP
        have hD : va_D A (mW cI a o (f) (su g 12 (su (g 12) (2 * (k10)) (x))) (h)) := hD
        refine lv_aload_n hx hb dX8_card_41 rfl (lv_at hl 0 rfl) ?_
        refine va_get (D := (dC, dI)) (ci := 8) (v := .ref (o 12)) (C := RX8) (T := TX8) (N := 25) hx hb hts hin8 hown hK hP 0 rfl rfl 12 (by decide) hW1 (fun _ h9 => h9) rfl dX8_card_42 ?_
        refine lv_iconst (v := nI (2)) hx hb dX8_card_45 (by decide +kernel) ?_
        refine lv_aload_n hx hb dX8_card_46 rfl (lv_at hl 0 rfl) ?_
        refine va_get (D := (dC, dI)) (ci := 8) (v := .int (nI (k10))) (C := RX8) (T := TX8) (N := 25) hx hb hts hin8 hown hK hP 0 rfl rfl 10 (by decide) hW0 (fun _ h9 => h9) (congrArg (fun z => some (Value.int z)) e10) dX8_card_47 ?_
        refine lv_imul hx hb dX8_card_50 ?_
        refine tv (pk_mul (2) (k10)) ?_
        refine lv_iconst (v := nI (1)) hx hb dX8_card_51 (by decide +kernel) ?_
        refine lv_iadd hx hb dX8_card_52 ?_
        refine tv (nI_add (2 * (k10)) (1)) ?_
        refine lv_iload_n hx hb dX8_card_53 rfl (lv_at hl 2 rfl) ?_
        refine ast hx hb hK hP hD hS (f := su (g 12) (2 * (k10)) (x)) (k := 2 * (k10) + 1) 5 0 rfl rfl rfl (by omega) (by decide) dX8_card_54 (fun H locs hP hD hS => ?_)
        have hP : va_P (dC, dI) vwCl (mW cI a o (f) (su g 12 (su (su (g 12) (2 * (k10)) (x)) (2 * (k10) + 1) (y))) (h)) H := hP
        have hD : va_D A (mW cI a o (f) (su g 12 (su (su (g 12) (2 * (k10)) (x)) (2 * (k10) + 1) (y))) (h)) := hD
        refine lv_aload_n hx hb dX8_card_55 rfl (lv_at hl 0 rfl) ?_
        refine lv_dup hx hb dX8_card_56 rfl ?_
        refine va_get (D := (dC, dI)) (ci := 8) (v := .int (nI (k10))) (C := RX8) (T := TX8) (N := 25) hx hb hts hin8 hown hK hP 0 rfl rfl 10 (by decide) hW0 (fun _ h9 => h9) (congrArg (fun z => some (Value.int z)) e10) dX8_card_57 ?_
        refine lv_iconst (v := nI (1)) hx hb dX8_card_60 (by decide +kernel) ?_
        refine lv_iadd hx hb dX8_card_61 ?_
        refine tv (nI_add (k10) (1)) ?_
        refine va_put (D := (dC, dI)) (ci := 8) (v := .int (nI (k10 + 1))) (ty := .int) (C := RX8) (T := TX8) (N := 25) hx hb hts hin8 tyX8 tyX8_ok nmX8 hown hK hP hD hS 0 rfl rfl 10 (by decide) hW0 (fun _ h9 => h9) rfl (by decide +kernel) rfl rfl (Nat.le_of_ble_eq_true rfl) dX8_card_62 (fun H locs hP hD hS => ?_)
        have hP : va_P (dC, dI) vwCl (mW cI a o (su f 10 (nI (k10 + 1))) (su g 12 (su (su (g 12) (2 * (k10)) (x)) (2 * (k10) + 1) (y))) (h)) H := hP
        have hD : va_D A (mW cI a o (su f 10 (nI (k10 + 1))) (su g 12 (su (su (g 12) (2 * (k10)) (x)) (2 * (k10) + 1) (y))) (h)) := hD
        refine lv_aload_n hx hb dX8_card_65 rfl (lv_at hl 0 rfl) ?_
        refine va_get (D := (dC, dI)) (ci := 8) (v := .int (nI (k10 + 1))) (C := RX8) (T := TX8) (N := 25) hx hb hts hin8 hown hK hP 0 rfl rfl 10 (by decide) hW0 (fun _ h9 => h9) rfl dX8_card_66 ?_
        have hP9 : va_P (dC, dI) vwCl (mW cI a o (su f 10 (nI (k10 + 1))) (su g 12 (su (su (g 12) (2 * (k10)) (x)) (2 * (k10) + 1) (y))) (h)) H := hP
        exact W.iret (v := nI (k10 + 1)) hx hb hr (fun t ht hW => ⟨⟨nI (k10 + 1), (su f 10 (nI (k10 + 1)), su g 12 (su (su (g 12) (2 * (k10)) (x)) (2 * (k10) + 1) (y)), h), rfl, (by show ((nI (k10 + 1), (su f 10 (nI (k10 + 1)), su g 12 (su (su (g 12) (2 * (k10)) (x)) (2 * (k10) + 1) (y)), h)) : _ × MSt) = mCard f g h k10 x y; first | (simp only [mCard, if_pos c_1, if_pos c_2, if_neg c_3]; done) | (simp only [mCard, if_pos c_1, if_pos c_2, if_neg c_3]; rfl) | rfl | (simp [mCard, if_pos c_1, if_pos c_2, if_neg c_3]; done)), by rw [ht]; exact hP9, va_K.moved hW.alike hK, hD⟩, hS.F ht⟩) hS.2.2 dX8_card_69
      · skip
        rw [nI_eq (a := k10) (b := 8) (by omega) (by omega)] at c_3
        refine lv_bipush (v := (-104)) hx hb dX8_card_26 (by decide +kernel) ?_
        have hP9 : va_P (dC, dI) vwCl (mW cI a o (f) (g) (h)) H := hP
        exact W.iret (v := (-104)) hx hb hr (fun t ht hW => ⟨⟨(-104), (f, g, h), rfl, (by show (((-104), (f, g, h)) : _ × MSt) = mCard f g h k10 x y; first | (simp only [mCard, if_pos c_1, if_pos c_2, if_pos c_3]; done) | (simp only [mCard, if_pos c_1, if_pos c_2, if_pos c_3]; rfl) | rfl | (simp [mCard, if_pos c_1, if_pos c_2, if_pos c_3]; done)), by rw [ht]; exact hP9, va_K.moved hW.alike hK, hD⟩, hS.F ht⟩) hS.2.2 dX8_card_28
    · skip
      have c_2 := b2i_0 c_2
      refine lv_bipush (v := (-102)) hx hb dX8_card_14 (by decide +kernel) ?_
      have hP9 : va_P (dC, dI) vwCl (mW cI a o (f) (g) (h)) H := hP
      exact W.iret (v := (-102)) hx hb hr (fun t ht hW => ⟨⟨(-102), (f, g, h), rfl, (by show (((-102), (f, g, h)) : _ × MSt) = mCard f g h k10 x y; first | (simp only [mCard, if_pos c_1, if_neg c_2]; done) | (simp only [mCard, if_pos c_1, if_neg c_2]; rfl) | rfl | (simp [mCard, if_pos c_1, if_neg c_2]; done)), by rw [ht]; exact hP9, va_K.moved hW.alike hK, hD⟩, hS.F ht⟩) hS.2.2 dX8_card_16

set_option maxHeartbeats 1200000 in
set_option maxRecDepth 100000 in
theorem c8_forget (l : Launch) (dC : Nat → ClassId) (dI : Nat → Nat → Nat) (cI : ClassId) (a : Nat) (o : Nat → Nat) (f : Nat → Int32) (g : Nat → Nat → Int32) (h : Int64) (sz : Nat) {k10 : Nat} (e10 : f 10 = nI k10) (b10 : k10 ≤ 8) : Met l yX8_forget wsX8_forget ({ frames := 0, cells := 0, slots := 0, locals := 0 } : Room) (va_Pc [.ref (a)] (fun U => U.heap.size = sz ∧ va_P (dC, dI) vwCl (mW cI a o f g h) U.heap ∧ va_K (dC, dI) vwCl [(cI, .int)] U ∧ va_D (fun _ => True) (mW cI a o f g h))) (va_Qi (fun (r : Int32) (u : MSt) => (r, u) = mForget f g h k10) (mB dC dI cI a o (va_A (mW cI a o f g h) sz)) (va_A (mW cI a o f g h) sz)) 0 0 (va_A (mW cI a o f g h) sz) := by
  refine Met.ofW (cc := cX8_forget) (maxL := 2) (ret := (some .int)) (by decide) rfl ?_
  intro p_ e_ s m args below meth c_0 s₁ B hml hv
  obtain ⟨rfl, hsz, hP, hK, hD0⟩ := hv
  have hx := B.exec
  have hb := B.bytes
  have hr := B.returns
  have hts := atoms_spec (ws := wsX8_forget) B.pre
  have hown : s.vm.findClass RX8 = some m.cls := findClass_of_methodNamed B.named
  have hlocks := B.notSynchronized
  subst hsz
  have hD := hD0.self (sz := s.heap.size)
  generalize hAe : va_A (mW cI a o f g h) s.heap.size = A at hD ⊢
  have hA : ∀ q : Nat, s.heap.size ≤ q → A q := fun q h => by rw [← hAe]; exact Or.inr h
  obtain ⟨H, hHe⟩ : ∃ H : Heap, H = s.heap := ⟨_, rfl⟩
  have hS : va_S A s.heap H [] := by rw [hHe]; exact va_S.rf
  rw [← hHe] at hP ⊢
  have hP : va_P (dC, dI) vwCl (mW cI a o f g h) H := hP
  have hl := lv_entry ([.ref (a)]) (n := 2) (Nat.le_of_ble_eq_true rfl)
  rw [lg_entry_eq]
  generalize (lg_sl ([.ref (a)]) ++ List.replicate (2 - (lg_sl ([.ref (a)])).length) Slot.unset).toArray = ls at hl ⊢
  have hl : lv_has ls 2 [(0, .ref (a))] := hl
  have hin8 : ∀ w ∈ wsX80, w ∈ wsX8_forget := fun _ h => List.mem_cons_of_mem _ (List.mem_append_right _ h)
  have hW0 := hts (.fieldLink RX8 77 "EachEyeModel" "cards" "I") (by decide +kernel)
  refine lv_aload_n hx hb dX8_forget_0 rfl (lv_at hl 0 rfl) ?_
  refine va_get (D := (dC, dI)) (ci := 8) (v := .int (nI (k10))) (C := RX8) (T := TX8) (N := 25) hx hb hts hin8 hown hK hP 0 rfl rfl 10 (by decide) hW0 (fun _ h9 => h9) (congrArg (fun z => some (Value.int z)) e10) dX8_forget_1 ?_
  refine lv_istore_n (lv' := [(1, .int (nI (k10))), (0, .ref (a))]) hx hb dX8_forget_4 rfl hl (by decide) rfl (fun ls hl => ?_)
  refine lv_aload_n hx hb dX8_forget_5 rfl (lv_at hl 1 rfl) ?_
  refine lv_iconst (v := nI (0)) hx hb dX8_forget_6 (by decide +kernel) ?_
  refine va_put (D := (dC, dI)) (ci := 8) (v := .int (nI (0))) (ty := .int) (C := RX8) (T := TX8) (N := 25) hx hb hts hin8 tyX8 tyX8_ok nmX8 hown hK hP hD hS 0 rfl rfl 10 (by decide) hW0 (fun _ h9 => h9) rfl (by decide +kernel) rfl rfl (Nat.le_of_ble_eq_true rfl) dX8_forget_7 (fun H locs hP hD hS => ?_)
  have hP : va_P (dC, dI) vwCl (mW cI a o (su f 10 (nI (0))) (g) (h)) H := hP
  have hD : va_D A (mW cI a o (su f 10 (nI (0))) (g) (h)) := hD
  refine lv_iload_n hx hb dX8_forget_10 rfl (lv_at hl 0 rfl) ?_
  have hP9 : va_P (dC, dI) vwCl (mW cI a o (su f 10 (nI (0))) (g) (h)) H := hP
  exact W.iret (v := nI (k10)) hx hb hr (fun t ht hW => ⟨⟨nI (k10), (su f 10 (nI (0)), g, h), rfl, (by show ((nI (k10), (su f 10 (nI (0)), g, h)) : _ × MSt) = mForget f g h k10; first | (simp only [mForget]; done) | (simp only [mForget]; rfl) | rfl | (simp [mForget]; done)), by rw [ht]; exact hP9, va_K.moved hW.alike hK, hD⟩, hS.F ht⟩) hS.2.2 dX8_forget_11

set_option maxHeartbeats 1200000 in
set_option maxRecDepth 100000 in
theorem c8_who (l : Launch) (dC : Nat → ClassId) (dI : Nat → Nat → Nat) (cI : ClassId) (a : Nat) (o : Nat → Nat) (f : Nat → Int32) (g : Nat → Nat → Int32) (h : Int64) (sz : Nat) {k10 : Nat} (e10 : f 10 = nI k10) (b10 : k10 ≤ 8) {k11 : Nat} (e11 : f 11 = nI k11) (b11 : k11 ≤ 60) (x : Int32) : Met l yX8_who wsX8_who ({ frames := 3, cells := 0, slots := 0, locals := 69 } : Room) (va_Pc [.ref (a), .int (x)] (fun U => U.heap.size = sz ∧ va_P (dC, dI) vwCl (mW cI a o f g h) U.heap ∧ va_K (dC, dI) vwCl [(cI, .int)] U ∧ va_D (fun _ => True) (mW cI a o f g h))) (va_Qi (fun (r : Int32) (u : MSt) => (r, u) = mWho f g h k10 k11 x) (mB dC dI cI a o (va_A (mW cI a o f g h) sz)) (va_A (mW cI a o f g h) sz)) 0 0 (va_A (mW cI a o f g h) sz) := by
  refine Met.ofW (cc := cX8_who) (maxL := 5) (ret := (some .int)) (by decide) rfl ?_
  intro p_ e_ s m args below meth c_0 s₁ B hml hv
  obtain ⟨rfl, hsz, hP, hK, hD0⟩ := hv
  have hx := B.exec
  have hb := B.bytes
  have hr := B.returns
  have hts := atoms_spec (ws := wsX8_who) B.pre
  have hown : s.vm.findClass RX8 = some m.cls := findClass_of_methodNamed B.named
  have hlocks := B.notSynchronized
  subst hsz
  have hD := hD0.self (sz := s.heap.size)
  generalize hAe : va_A (mW cI a o f g h) s.heap.size = A at hD ⊢
  have hA : ∀ q : Nat, s.heap.size ≤ q → A q := fun q h => by rw [← hAe]; exact Or.inr h
  obtain ⟨H, hHe⟩ : ∃ H : Heap, H = s.heap := ⟨_, rfl⟩
  have hS : va_S A s.heap H [] := by rw [hHe]; exact va_S.rf
  rw [← hHe] at hP ⊢
  have hP : va_P (dC, dI) vwCl (mW cI a o f g h) H := hP
  have hl := lv_entry ([.ref (a), .int (x)]) (n := 5) (Nat.le_of_ble_eq_true rfl)
  rw [lg_entry_eq]
  generalize (lg_sl ([.ref (a), .int (x)]) ++ List.replicate (5 - (lg_sl ([.ref (a), .int (x)])).length) Slot.unset).toArray = ls at hl ⊢
  have hl : lv_has ls 5 [(0, .ref (a)), (1, .int (x))] := hl
  have hin8 : ∀ w ∈ wsX80, w ∈ wsX8_who := fun _ h => List.mem_cons_of_mem _ (List.mem_append_right _ h)
  have hW0 := hts (.fieldLink RX8 158 "EachEyeModel" "asked" "I") (by decide +kernel)
  refine lv_iload_n hx hb dX8_who_0 rfl (lv_at hl 1 rfl) ?_
  refine lv_i2l hx hb dX8_who_1 rfl ?_
  refine lv_lconst (v := 0) hx hb dX8_who_2 (by decide +kernel) ?_
  refine lv_lconst (v := 1) hx hb dX8_who_3 (by decide +kernel) ?_
  refine vp_callSi (va_Run.run (va_runS (As := [.long ((x).toInt64), .long (0), .long (1)]) (rest := []) ⟨hx, hb, hml, hown, hts⟩ (c8_in l (x) (0) (1) (0) (1) rfl rfl) (va_cwS 3 hts gX8_who_X8_in rfl rfl rfl (by decide +kernel) ⟨Nat.le_of_ble_eq_true rfl, Nat.le_of_ble_eq_true rfl⟩) ⟨fun _ _ _ _ q => q, fun U hU hW => ⟨rfl, trivial⟩⟩ rfl rfl hl.1 rfl (lv_room (Nat.le_of_ble_eq_true rfl)) dX8_who_4 ⟨Nat.le_of_ble_eq_true rfl, Nat.le_of_ble_eq_true rfl⟩)) (fun r hrc => ?_)
  have hrc : r = b2i ((0) ≤ (x).toInt ∧ (x).toInt ≤ (1)) := hrc
  subst hrc
  refine lv_if_ne (tgt := 13) hx hb dX8_who_7 (by decide) (fun c_1 => ?_) (fun c_1 => ?_)
  · skip
    have c_1 := b2i_1 c_1
    refine lv_aload_n hx hb dX8_who_13 rfl (lv_at hl 0 rfl) ?_
    refine va_get (D := (dC, dI)) (ci := 8) (v := .int (nI (k11))) (C := RX8) (T := TX8) (N := 25) hx hb hts hin8 hown hK hP 0 rfl rfl 11 (by decide) hW0 (fun _ h9 => h9) (congrArg (fun z => some (Value.int z)) e11) dX8_who_14 ?_
    refine lv_bipush (v := nI (60)) hx hb dX8_who_17 (by decide +kernel) ?_
    refine lv_icmp_ne (tgt := 25) hx hb dX8_who_19 (by decide) (fun c_2 => ?_) (fun c_2 => ?_)
    · skip
      rw [nI_eq (a := k11) (b := 60) (by omega) (by omega)] at c_2
      refine lv_aload_n hx hb dX8_who_25 rfl (lv_at hl 0 rfl) ?_
      refine lv_dup hx hb dX8_who_26 rfl ?_
      refine va_get (D := (dC, dI)) (ci := 8) (v := .int (nI (k11))) (C := RX8) (T := TX8) (N := 25) hx hb hts hin8 hown hK hP 0 rfl rfl 11 (by decide) hW0 (fun _ h9 => h9) (congrArg (fun z => some (Value.int z)) e11) dX8_who_27 ?_
      refine lv_iconst (v := nI (1)) hx hb dX8_who_30 (by decide +kernel) ?_
      refine lv_iadd hx hb dX8_who_31 ?_
      refine tv (nI_add (k11) (1)) ?_
      refine va_put (D := (dC, dI)) (ci := 8) (v := .int (nI (k11 + 1))) (ty := .int) (C := RX8) (T := TX8) (N := 25) hx hb hts hin8 tyX8 tyX8_ok nmX8 hown hK hP hD hS 0 rfl rfl 11 (by decide) hW0 (fun _ h9 => h9) rfl (by decide +kernel) rfl rfl (Nat.le_of_ble_eq_true rfl) dX8_who_32 (fun H locs hP hD hS => ?_)
      have hP : va_P (dC, dI) vwCl (mW cI a o (su f 11 (nI (k11 + 1))) (g) (h)) H := hP
      have hD : va_D A (mW cI a o (su f 11 (nI (k11 + 1))) (g) (h)) := hD
      refine lv_iconst (v := nI (0)) hx hb dX8_who_35 (by decide +kernel) ?_
      refine lv_istore_n (lv' := [(2, .int (nI (0))), (0, .ref (a)), (1, .int (x))]) hx hb dX8_who_36 rfl hl (by decide) rfl (fun ls hl => ?_)
      refine lv_iconst (v := (-1)) hx hb dX8_who_37 (by decide +kernel) ?_
      refine lv_istore_n (lv' := [(3, .int ((-1))), (2, .int (nI (0))), (0, .ref (a)), (1, .int (x))]) hx hb dX8_who_38 rfl hl (by decide) rfl (fun ls hl => ?_)
      refine lv_sipush (v := nI (319)) hx hb dX8_who_39 (by decide +kernel) ?_
      refine lv_istore (lv' := [(4, .int (nI (319))), (3, .int ((-1))), (2, .int (nI (0))), (0, .ref (a)), (1, .int (x))]) hx hb dX8_who_42 hl (by decide) rfl (fun ls hl => ?_)
      have e0_2 : (nI (0)) = mWhoN g k10 0 := rfl
      have e0_3 : ((-1)) = mWhoL g k10 0 := rfl
      have e0_4 : (nI (319)) = nI (319) - nI (0) := (by decide +kernel)
      have hP0 : va_P (dC, dI) vwCl (mW cI a o (su f 11 (nI (k11 + 1))) (g) (h)) H := by skip; exact hP
      have hD0 : va_D A (mW cI a o (su f 11 (nI (k11 + 1))) (g) (h)) := by skip; exact hD
      refine lp_rw (fun k : Nat => 320 - k) (fun k : Nat => k ≤ 320) (fun k : Nat => [(0, .ref (a)), (1, .int (x)), (2, .int (mWhoN g k10 k)), (3, .int (mWhoL g k10 k)), (4, .int (nI (319) - nI (k)))]) (fun k : Nat => mW cI a o (su f 11 (nI (k11 + 1))) (g) (h)) (0) (by omega) hP0 hD0 hS (by show lv_has ls 5 [(0, .ref (a)), (1, .int (x)), (2, .int (mWhoN g k10 0)), (3, .int (mWhoL g k10 0)), (4, .int (nI (319) - nI (0)))]; rw [← e0_2, ← e0_3, ← e0_4]; exact lv_sub hl [3, 4, 2, 1, 0] rfl) (fun k hI ih_44 H locs ls hP hD hS hl => ?_)
      have hP : va_P (dC, dI) vwCl (mW cI a o (su f 11 (nI (k11 + 1))) (g) (h)) H := hP
      have hD : va_D A (mW cI a o (su f 11 (nI (k11 + 1))) (g) (h)) := hD
      have hI : k ≤ 320 := hI
      have hl : lv_has ls 5 [(0, .ref (a)), (1, .int (x)), (2, .int (mWhoN g k10 k)), (3, .int (mWhoL g k10 k)), (4, .int (nI (319) - nI (k)))] := hl
      refine lv_iload hx hb dX8_who_44 (lv_at hl 4 rfl) ?_
      refine lv_if_lt (tgt := 70) hx hb dX8_who_46 (by decide) (fun c_3 => ?_) (fun c_3 => ?_)
      · skip
        rw [lti, show (0 : Int32).toInt = 0 from rfl] at c_3
        have hE : 320 = k := dn_t (by omega) c_3
        subst hE
        refine lv_iload_n hx hb dX8_who_70 rfl (lv_at hl 1 rfl) ?_
        refine lv_if_ne (tgt := 78) hx hb dX8_who_71 (by decide) (fun c_4 => ?_) (fun c_4 => ?_)
        · skip
          have c_4 : ¬ (x) = nI 0 := c_4
          refine lv_iload_n hx hb dX8_who_78 rfl (lv_at hl 3 rfl) ?_
          have hP9 : va_P (dC, dI) vwCl (mW cI a o (su f 11 (nI (k11 + 1))) (g) (h)) H := hP
          exact W.iret (v := mWhoL g k10 320) hx hb hr (fun t ht hW => ⟨⟨mWhoL g k10 320, (su f 11 (nI (k11 + 1)), g, h), rfl, (by show ((mWhoL g k10 320, (su f 11 (nI (k11 + 1)), g, h)) : _ × MSt) = mWho f g h k10 k11 x; first | (simp only [mWho, if_pos c_1, if_neg c_2, if_pos c_3, if_neg c_4]; done) | (simp only [mWho, if_pos c_1, if_neg c_2, if_pos c_3, if_neg c_4]; rfl) | rfl | (simp [mWho, if_pos c_1, if_neg c_2, if_pos c_3, if_neg c_4]; done)), by rw [ht]; exact hP9, va_K.moved hW.alike hK, hD⟩, hS.F ht⟩) hS.2.2 dX8_who_79
        · skip
          have c_4 : (x) = nI 0 := c_4
          refine lv_iload_n hx hb dX8_who_74 rfl (lv_at hl 2 rfl) ?_
          refine lv_goto (tgt := 79) hx hb dX8_who_75 (by decide) ?_
          have hP9 : va_P (dC, dI) vwCl (mW cI a o (su f 11 (nI (k11 + 1))) (g) (h)) H := hP
          exact W.iret (v := mWhoN g k10 320) hx hb hr (fun t ht hW => ⟨⟨mWhoN g k10 320, (su f 11 (nI (k11 + 1)), g, h), rfl, (by show ((mWhoN g k10 320, (su f 11 (nI (k11 + 1)), g, h)) : _ × MSt) = mWho f g h k10 k11 x; first | (simp only [mWho, if_pos c_1, if_neg c_2, if_pos c_3, if_pos c_4]; done) | (simp only [mWho, if_pos c_1, if_neg c_2, if_pos c_3, if_pos c_4]; rfl) | rfl | (simp [mWho, if_pos c_1, if_neg c_2, if_pos c_3, if_pos c_4]; done)), by rw [ht]; exact hP9, va_K.moved hW.alike hK, hD⟩, hS.F ht⟩) hS.2.2 dX8_who_79
      · skip
        rw [lti, show (0 : Int32).toInt = 0 from rfl] at c_3
        have hI : k ≤ 319 := dn_f (by omega) c_3
        refine lv_aload_n hx hb dX8_who_49 rfl (lv_at hl 0 rfl) ?_
        refine lv_iload hx hb dX8_who_50 (lv_at hl 4 rfl) ?_
        refine tv (pk_sub (a := 319) (b := k) (by omega)) ?_
        refine vp_callSi (va_Run.run (va_runV (As := [.int (nI (319 - k))]) (rest := []) ⟨hx, hb, hml, hown, hts⟩ (c8_isSo l dC dI cI a o (su f 11 (nI (k11 + 1))) (g) (h) e10 (by omega)  (319 - k) (by omega)) (cwV 1 hts gX8_who_X8_isSo rfl rfl rfl (by decide +kernel) ⟨Nat.le_of_ble_eq_true rfl, Nat.le_of_ble_eq_true rfl⟩) ⟨fun a U g mk q => ⟨q.1, q.2.1, va_K.moved (u := U) (U := U.calling g mk a) (Vm.Alike.refl U.vm) q.2.2⟩, va_recv hK hP (ci := 8) (q0 := 0) rfl rfl, fun U hU hW => ⟨rfl, by rw [hU]; exact hP, va_K.moved hW.alike hK⟩⟩ rfl rfl hl.1 rfl (lv_room (Nat.le_of_ble_eq_true rfl)) dX8_who_52 ⟨Nat.le_of_ble_eq_true rfl, Nat.le_of_ble_eq_true rfl⟩)) (fun r hrc => ?_)
        have hrc : r = b2i (mSo (g) (k10) (319 - k) = true) := hrc
        subst hrc
        refine lv_if_eq (tgt := 64) hx hb dX8_who_55 (by decide) (fun c_5 => ?_) (fun c_5 => ?_)
        · skip
          have c_5 := b2i_0 c_5
          refine lv_iinc (v := nI (319) - nI (k) + (-1)) (lv' := [(4, .int (nI (319) - nI (k) + (-1))), (0, .ref (a)), (1, .int (x)), (2, .int (mWhoN g k10 k)), (3, .int (mWhoL g k10 k))]) hx hb dX8_who_64 hl (k := 4) rfl rfl (by decide) rfl (fun ls hl => ?_)
          refine lv_goto (tgt := 44) hx hb dX8_who_67 (by decide) ?_
          have e1_2 : (mWhoN g k10 k) = mWhoN g k10 (k + 1) := by rw [mWhoN]; first | (rw [if_pos c_5]; done) | (rw [if_neg c_5]; done)
          have e1_3 : (mWhoL g k10 k) = mWhoL g k10 (k + 1) := by rw [mWhoL]; first | (rw [if_pos c_5]; done) | (rw [if_neg c_5]; done)
          have e1_4 : (nI (319) - nI (k) + (-1)) = nI (319) - nI ((k + 1)) := by exact dn319 k
          have hP : va_P (dC, dI) vwCl (mW cI a o (su f 11 (nI (k11 + 1))) (g) (h)) H := by exact hP
          have hD : va_D A (mW cI a o (su f 11 (nI (k11 + 1))) (g) (h)) := by exact hD
          exact ih_44 (k + 1) H locs ls (by show _ < _; omega) (by show _; omega) hP hD hS (by show lv_has ls 5 [(0, .ref (a)), (1, .int (x)), (2, .int (mWhoN g k10 (k + 1))), (3, .int (mWhoL g k10 (k + 1))), (4, .int (nI (319) - nI ((k + 1))))]; rw [← e1_2, ← e1_3, ← e1_4]; exact lv_sub hl [1, 2, 3, 4, 0] rfl)
        · skip
          have c_5 := b2i_1 c_5
          refine lv_iinc (v := mWhoN g k10 k + 1) (lv' := [(2, .int (mWhoN g k10 k + 1)), (0, .ref (a)), (1, .int (x)), (3, .int (mWhoL g k10 k)), (4, .int (nI (319) - nI (k)))]) hx hb dX8_who_58 hl (k := 2) rfl rfl (by decide) rfl (fun ls hl => ?_)
          refine lv_iload hx hb dX8_who_61 (lv_at hl 4 rfl) ?_
          refine tv (pk_sub (a := 319) (b := k) (by omega)) ?_
          refine lv_istore_n (lv' := [(3, .int (nI (319 - k))), (2, .int (mWhoN g k10 k + 1)), (0, .ref (a)), (1, .int (x)), (4, .int (nI (319) - nI (k)))]) hx hb dX8_who_63 rfl hl (by decide) rfl (fun ls hl => ?_)
          refine lv_iinc (v := nI (319) - nI (k) + (-1)) (lv' := [(4, .int (nI (319) - nI (k) + (-1))), (3, .int (nI (319 - k))), (2, .int (mWhoN g k10 k + 1)), (0, .ref (a)), (1, .int (x))]) hx hb dX8_who_64 hl (k := 4) rfl rfl (by decide) rfl (fun ls hl => ?_)
          refine lv_goto (tgt := 44) hx hb dX8_who_67 (by decide) ?_
          have e1_2 : (mWhoN g k10 k + 1) = mWhoN g k10 (k + 1) := by rw [mWhoN]; first | (rw [if_pos c_5]; done) | (rw [if_neg c_5]; done)
          have e1_3 : (nI (319 - k)) = mWhoL g k10 (k + 1) := by rw [mWhoL]; first | (rw [if_pos c_5]; done) | (rw [if_neg c_5]; done)
          have e1_4 : (nI (319) - nI (k) + (-1)) = nI (319) - nI ((k + 1)) := by exact dn319 k
          have hP : va_P (dC, dI) vwCl (mW cI a o (su f 11 (nI (k11 + 1))) (g) (h)) H := by exact hP
          have hD : va_D A (mW cI a o (su f 11 (nI (k11 + 1))) (g) (h)) := by exact hD
          exact ih_44 (k + 1) H locs ls (by show _ < _; omega) (by show _; omega) hP hD hS (by show lv_has ls 5 [(0, .ref (a)), (1, .int (x)), (2, .int (mWhoN g k10 (k + 1))), (3, .int (mWhoL g k10 (k + 1))), (4, .int (nI (319) - nI ((k + 1))))]; rw [← e1_2, ← e1_3, ← e1_4]; exact lv_sub hl [3, 4, 2, 1, 0] rfl)
    · skip
      rw [nI_eq (a := k11) (b := 60) (by omega) (by omega)] at c_2
      refine lv_bipush (v := (-103)) hx hb dX8_who_22 (by decide +kernel) ?_
      have hP9 : va_P (dC, dI) vwCl (mW cI a o (f) (g) (h)) H := hP
      exact W.iret (v := (-103)) hx hb hr (fun t ht hW => ⟨⟨(-103), (f, g, h), rfl, (by show (((-103), (f, g, h)) : _ × MSt) = mWho f g h k10 k11 x; first | (simp only [mWho, if_pos c_1, if_pos c_2]; done) | (simp only [mWho, if_pos c_1, if_pos c_2]; rfl) | rfl | (simp [mWho, if_pos c_1, if_pos c_2]; done)), by rw [ht]; exact hP9, va_K.moved hW.alike hK, hD⟩, hS.F ht⟩) hS.2.2 dX8_who_24
  · skip
    have c_1 := b2i_0 c_1
    refine lv_bipush (v := (-102)) hx hb dX8_who_10 (by decide +kernel) ?_
    have hP9 : va_P (dC, dI) vwCl (mW cI a o (f) (g) (h)) H := hP
    exact W.iret (v := (-102)) hx hb hr (fun t ht hW => ⟨⟨(-102), (f, g, h), rfl, (by show (((-102), (f, g, h)) : _ × MSt) = mWho f g h k10 k11 x; first | (simp only [mWho, if_neg c_1]; done) | (simp only [mWho, if_neg c_1]; rfl) | rfl | (simp [mWho, if_neg c_1]; done)), by rw [ht]; exact hP9, va_K.moved hW.alike hK, hD⟩, hS.F ht⟩) hS.2.2 dX8_who_12
