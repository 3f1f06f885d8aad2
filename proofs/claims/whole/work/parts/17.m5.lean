set_option maxHeartbeats 1200000 in
set_option maxRecDepth 100000 in
theorem c8_copy (l : Launch) (dC : Nat → ClassId) (dI : Nat → Nat → Nat) (cI : ClassId) (a1 a2 N_ : Nat) (hN : N_ < 2 ^ 31) (u v : Nat → Int32) (sz : Nat) : Met l yX8_copy wsX8_copy ({ frames := 0, cells := 0, slots := 0, locals := 0 } : Room) (va_Pc [.ref (a1), .ref (a2)] (fun U => U.heap.size = sz ∧ va_P (dC, dI) vwCl ([(a1, .inl (cI, N_, .inl u)), (a2, .inl (cI, N_, .inl v))]) U.heap ∧ va_K (dC, dI) vwCl [(cI, .int)] U ∧ va_D (fun _ => True) ([(a1, .inl (cI, N_, .inl u)), (a2, .inl (cI, N_, .inl v))]))) (va_Qv (fun (z : Nat → Int32) => z = fil v u N_) (fun z t => va_P (dC, dI) vwCl ([(a1, .inl (cI, N_, .inl u)), (a2, .inl (cI, N_, .inl z))]) t.heap ∧ va_K (dC, dI) vwCl [(cI, .int)] t ∧ va_D (va_A ([(a1, .inl (cI, N_, .inl u)), (a2, .inl (cI, N_, .inl v))]) sz) ([(a1, .inl (cI, N_, .inl u)), (a2, .inl (cI, N_, .inl z))])) (va_A ([(a1, .inl (cI, N_, .inl u)), (a2, .inl (cI, N_, .inl v))]) sz)) 0 0 (va_A ([(a1, .inl (cI, N_, .inl u)), (a2, .inl (cI, N_, .inl v))]) sz) := by
  refine Met.ofW (cc := cX8_copy) (maxL := 3) (ret := none) (by decide) rfl ?_
  intro p_ e_ s m args below meth c_0 s₁ B hml hv
  obtain ⟨rfl, hsz, hP, hK, hD0⟩ := hv
  have hx := B.exec
  have hb := B.bytes
  have hr := B.returns
  have hts := atoms_spec (ws := wsX8_copy) B.pre
  have hown : s.vm.findClass RX8 = some m.cls := findClass_of_methodNamed B.named
  have hlocks := B.notSynchronized
  subst hsz
  have hD := hD0.self (sz := s.heap.size)
  generalize hAe : va_A ([(a1, .inl (cI, N_, .inl u)), (a2, .inl (cI, N_, .inl v))]) s.heap.size = A at hD ⊢
  have hA : ∀ q : Nat, s.heap.size ≤ q → A q := fun q h => by rw [← hAe]; exact Or.inr h
  obtain ⟨H, hHe⟩ : ∃ H : Heap, H = s.heap := ⟨_, rfl⟩
  have hS : va_S A s.heap H [] := by rw [hHe]; exact va_S.rf
  rw [← hHe] at hP ⊢
  have hP : va_P (dC, dI) vwCl ([(a1, .inl (cI, N_, .inl u)), (a2, .inl (cI, N_, .inl v))]) H := hP
  have hl := lv_entry ([.ref (a1), .ref (a2)]) (n := 3) (Nat.le_of_ble_eq_true rfl)
  rw [lg_entry_eq]
  generalize (lg_sl ([.ref (a1), .ref (a2)]) ++ List.replicate (3 - (lg_sl ([.ref (a1), .ref (a2)])).length) Slot.unset).toArray = ls at hl ⊢
  have hl : lv_has ls 3 [(0, .ref (a1)), (1, .ref (a2))] := hl
  refine lv_iconst (v := nI (0)) hx hb dX8_copy_0 (by decide +kernel) ?_
  refine lv_istore_n (lv' := [(2, .int (nI (0))), (0, .ref (a1)), (1, .ref (a2))]) hx hb dX8_copy_1 rfl hl (by decide) rfl (fun ls hl => ?_)
  have hP0 : va_P (dC, dI) vwCl ([(a1, .inl (cI, N_, .inl (u))), (a2, .inl (cI, N_, .inl (fil v u (0))))]) H := by rw [fil_0]; exact hP
  have hD0 : va_D A ([(a1, .inl (cI, N_, .inl (u))), (a2, .inl (cI, N_, .inl (fil v u (0))))]) := by rw [fil_0]; exact hD
  refine lp_rw (fun k : Nat => N_ - k) (fun k : Nat => k ≤ N_) (fun k : Nat => [(0, .ref (a1)), (1, .ref (a2)), (2, .int (nI (k)))]) (fun k : Nat => [(a1, .inl (cI, N_, .inl (u))), (a2, .inl (cI, N_, .inl (fil v u (k))))]) (0) (by omega) hP0 hD0 hS (by show lv_has ls 3 [(0, .ref (a1)), (1, .ref (a2)), (2, .int (nI (0)))]; exact lv_sub hl [1, 2, 0] rfl) (fun k hI ih_2 H locs ls hP hD hS hl => ?_)
  have hP : va_P (dC, dI) vwCl ([(a1, .inl (cI, N_, .inl (u))), (a2, .inl (cI, N_, .inl (fil v u (k))))]) H := hP
  have hD : va_D A ([(a1, .inl (cI, N_, .inl (u))), (a2, .inl (cI, N_, .inl (fil v u (k))))]) := hD
  have hI : k ≤ N_ := hI
  have hl : lv_has ls 3 [(0, .ref (a1)), (1, .ref (a2)), (2, .int (nI (k)))] := hl
  refine lv_iload_n hx hb dX8_copy_2 rfl (lv_at hl 2 rfl) ?_
  refine lv_aload_n hx hb dX8_copy_3 rfl (lv_at hl 0 rfl) ?_
  refine va_alen hx hb hK hP 0 0 rfl rfl (v := nI N_) rfl dX8_copy_4 ?_
  refine lv_icmp_ge (tgt := 20) hx hb dX8_copy_5 (by decide) (fun c_1 => ?_) (fun c_1 => ?_)
  · skip
    rw [nI_leI (a := N_) (b := k) (by omega) (by omega)] at c_1
    have hE : N_ = k := by omega
    subst hE
    have hP9 : va_P (dC, dI) vwCl ([(a1, .inl (cI, N_, .inl (u))), (a2, .inl (cI, N_, .inl (fil v u (N_))))]) H := hP
    exact W.vret hx hb hr (fun t ht hW => ⟨⟨fil v u (N_), rfl, (by show (fil v u (N_)) = fil v u N_; rfl), by rw [ht]; exact hP9, va_K.moved hW.alike hK, hD⟩, hS.F ht⟩) hS.2.2 dX8_copy_20
  · skip
    rw [nI_leI (a := N_) (b := k) (by omega) (by omega)] at c_1
    refine lv_aload_n hx hb dX8_copy_8 rfl (lv_at hl 1 rfl) ?_
    refine lv_iload_n hx hb dX8_copy_9 rfl (lv_at hl 2 rfl) ?_
    refine lv_aload_n hx hb dX8_copy_10 rfl (lv_at hl 0 rfl) ?_
    refine lv_iload_n hx hb dX8_copy_11 rfl (lv_at hl 2 rfl) ?_
    refine ald hx hb hK hP (f := u) (k := k) 0 0 rfl rfl rfl (by omega) hN dX8_copy_12 ?_
    refine ast hx hb hK hP hD hS (f := fil v u (k)) (k := k) 1 0 rfl rfl rfl (by omega) hN dX8_copy_13 (fun H locs hP hD hS => ?_)
    have hP : va_P (dC, dI) vwCl ([(a1, .inl (cI, N_, .inl (u))), (a2, .inl (cI, N_, .inl (su (fil v u (k)) (k) (u (k)))))]) H := hP
    have hD : va_D A ([(a1, .inl (cI, N_, .inl (u))), (a2, .inl (cI, N_, .inl (su (fil v u (k)) (k) (u (k)))))]) := hD
    refine lv_iinc (v := nI (k + 1)) (lv' := [(2, .int (nI (k + 1))), (0, .ref (a1)), (1, .ref (a2))]) hx hb dX8_copy_14 hl (k := 2) rfl (nI_1 _) (by decide) rfl (fun ls hl => ?_)
    refine lv_goto (tgt := 2) hx hb dX8_copy_17 (by decide) ?_
    have e2_0 : su (fil v u (k)) (k) (u (k)) = fil v u (k + 1) := by rw [← fil_s]
    have hP : va_P (dC, dI) vwCl ([(a1, .inl (cI, N_, .inl (u))), (a2, .inl (cI, N_, .inl (fil v u (k + 1))))]) H := by rw [← e2_0]; exact hP
    have hD : va_D A ([(a1, .inl (cI, N_, .inl (u))), (a2, .inl (cI, N_, .inl (fil v u (k + 1))))]) := by rw [← e2_0]; exact hD
    exact ih_2 (k + 1) H locs ls (by show _ < _; omega) (by show _; omega) hP hD hS (by show lv_has ls 3 [(0, .ref (a1)), (1, .ref (a2)), (2, .int (nI ((k + 1))))]; exact lv_sub hl [1, 2, 0] rfl)

set_option maxHeartbeats 1200000 in
set_option maxRecDepth 100000 in
theorem c8_draw (l : Launch) (dC : Nat → ClassId) (dI : Nat → Nat → Nat) (cI : ClassId) (a : Nat) (o : Nat → Nat) (f : Nat → Int32) (g : Nat → Nat → Int32) (h : Int64) (sz : Nat) (w : Nat) (hw0 : w = 2 ∨ w = 8) : Met l yX8_draw wsX8_draw ({ frames := 0, cells := 0, slots := 0, locals := 0 } : Room) (va_Pc [.ref (a), .int (nI (w))] (fun U => U.heap.size = sz ∧ va_P (dC, dI) vwCl (mW cI a o f g h) U.heap ∧ va_K (dC, dI) vwCl [(cI, .int)] U ∧ va_D (fun _ => True) (mW cI a o f g h))) (va_Qi (fun (r : Int32) (u : MSt) => (r, u) = (dr (nxs (f 14)) (nI w), su f 14 (nxs (f 14)), g, h)) (mB dC dI cI a o (va_A (mW cI a o f g h) sz)) (va_A (mW cI a o f g h) sz)) 0 0 (va_A (mW cI a o f g h) sz) := by
  refine Met.ofW (cc := cX8_draw) (maxL := 2) (ret := (some .int)) (by decide) rfl ?_
  intro p_ e_ s m args below meth c_0 s₁ B hml hv
  obtain ⟨rfl, hsz, hP, hK, hD0⟩ := hv
  have hx := B.exec
  have hb := B.bytes
  have hr := B.returns
  have hts := atoms_spec (ws := wsX8_draw) B.pre
  have hown : s.vm.findClass RX8 = some m.cls := findClass_of_methodNamed B.named
  have hlocks := B.notSynchronized
  subst hsz
  have hD := hD0.self (sz := s.heap.size)
  generalize hAe : va_A (mW cI a o f g h) s.heap.size = A at hD ⊢
  have hA : ∀ q : Nat, s.heap.size ≤ q → A q := fun q h => by rw [← hAe]; exact Or.inr h
  obtain ⟨H, hHe⟩ : ∃ H : Heap, H = s.heap := ⟨_, rfl⟩
  have hS : va_S A s.heap H [] := by rw [hHe]; exact va_S.rf
  rw [← hHe] at hP ⊢
  have hP : va_P (dC, dI) vwCl (mW cI a o f g h) H := hP
  have hl := lv_entry ([.ref (a), .int (nI (w))]) (n := 2) (Nat.le_of_ble_eq_true rfl)
  rw [lg_entry_eq]
  generalize (lg_sl ([.ref (a), .int (nI (w))]) ++ List.replicate (2 - (lg_sl ([.ref (a), .int (nI (w))])).length) Slot.unset).toArray = ls at hl ⊢
  have hl : lv_has ls 2 [(0, .ref (a)), (1, .int (nI (w)))] := hl
  have hin8 : ∀ w ∈ wsX80, w ∈ wsX8_draw := fun _ h => List.mem_cons_of_mem _ (List.mem_append_right _ h)
  have hW0 := hts (.constantLong RX8 164 (1103515245)) (by decide +kernel)
  have hW1 := hts (.fieldLink RX8 166 "EachEyeModel" "seedNow" "I") (by decide +kernel)
  have hW2 := hts (.constantLong RX8 169 (12345)) (by decide +kernel)
  have hW3 := hts (.constantLong RX8 171 (2147483647)) (by decide +kernel)
  have hW4 := hts (.constant RX8 173 65536) (by decide +kernel)
  refine lv_aload_n hx hb dX8_draw_0 rfl (lv_at hl 0 rfl) ?_
  refine lv_ldc2 (v := 1103515245) hx hb hown hW0 dX8_draw_1 ?_
  refine lv_aload_n hx hb dX8_draw_4 rfl (lv_at hl 0 rfl) ?_
  refine va_get (D := (dC, dI)) (ci := 8) (v := .int (f 14)) (C := RX8) (T := TX8) (N := 25) hx hb hts hin8 hown hK hP 0 rfl rfl 14 (by decide) hW1 (fun _ h9 => h9) rfl dX8_draw_5 ?_
  refine lv_i2l hx hb dX8_draw_8 rfl ?_
  refine lv_lmul hx hb dX8_draw_9 ?_
  refine lv_ldc2 (v := 12345) hx hb hown hW2 dX8_draw_10 ?_
  refine lv_ladd hx hb dX8_draw_13 ?_
  refine lv_ldc2 (v := 2147483647) hx hb hown hW3 dX8_draw_14 ?_
  refine lv_land hx hb dX8_draw_17 ?_
  refine lv_l2i hx hb dX8_draw_18 rfl ?_
  refine va_put (D := (dC, dI)) (ci := 8) (v := .int (((((1103515245) * ((f 14).toInt64)) + (12345)) &&& (2147483647)).toInt32)) (ty := .int) (C := RX8) (T := TX8) (N := 25) hx hb hts hin8 tyX8 tyX8_ok nmX8 hown hK hP hD hS 0 rfl rfl 14 (by decide) hW1 (fun _ h9 => h9) rfl (by decide +kernel) rfl rfl (Nat.le_of_ble_eq_true rfl) dX8_draw_19 (fun H locs hP hD hS => ?_)
  have hP : va_P (dC, dI) vwCl (mW cI a o (su f 14 (((((1103515245) * ((f 14).toInt64)) + (12345)) &&& (2147483647)).toInt32)) (g) (h)) H := hP
  have hD : va_D A (mW cI a o (su f 14 (((((1103515245) * ((f 14).toInt64)) + (12345)) &&& (2147483647)).toInt32)) (g) (h)) := hD
  refine lv_aload_n hx hb dX8_draw_22 rfl (lv_at hl 0 rfl) ?_
  refine va_get (D := (dC, dI)) (ci := 8) (v := .int (((((1103515245) * ((f 14).toInt64)) + (12345)) &&& (2147483647)).toInt32)) (C := RX8) (T := TX8) (N := 25) hx hb hts hin8 hown hK hP 0 rfl rfl 14 (by decide) hW1 (fun _ h9 => h9) rfl dX8_draw_23 ?_
  refine lv_ldc (v := nI (65536)) hx hb hown hW4 dX8_draw_26 ?_
  refine lv_idiv hx hb dX8_draw_28 (by decide +kernel) ?_
  refine lv_iload_n hx hb dX8_draw_29 rfl (lv_at hl 1 rfl) ?_
  refine lv_irem hx hb dX8_draw_30 (by rcases hw0 with rfl | rfl <;> decide +kernel) ?_
  have hP9 : va_P (dC, dI) vwCl (mW cI a o (su f 14 (((((1103515245) * ((f 14).toInt64)) + (12345)) &&& (2147483647)).toInt32)) (g) (h)) H := hP
  exact W.iret (v := ((((((1103515245) * ((f 14).toInt64)) + (12345)) &&& (2147483647)).toInt32) / (nI (65536))) - ((((((1103515245) * ((f 14).toInt64)) + (12345)) &&& (2147483647)).toInt32) / (nI (65536))) / (nI (w)) * (nI (w))) hx hb hr (fun t ht hW => ⟨⟨((((((1103515245) * ((f 14).toInt64)) + (12345)) &&& (2147483647)).toInt32) / (nI (65536))) - ((((((1103515245) * ((f 14).toInt64)) + (12345)) &&& (2147483647)).toInt32) / (nI (65536))) / (nI (w)) * (nI (w)), (su f 14 (((((1103515245) * ((f 14).toInt64)) + (12345)) &&& (2147483647)).toInt32), g, h), rfl, (by show ((((((((1103515245) * ((f 14).toInt64)) + (12345)) &&& (2147483647)).toInt32) / (nI (65536))) - ((((((1103515245) * ((f 14).toInt64)) + (12345)) &&& (2147483647)).toInt32) / (nI (65536))) / (nI (w)) * (nI (w)), (su f 14 (((((1103515245) * ((f 14).toInt64)) + (12345)) &&& (2147483647)).toInt32), g, h)) : _ × MSt) = (dr (nxs (f 14)) (nI w), su f 14 (nxs (f 14)), g, h); rfl), by rw [ht]; exact hP9, va_K.moved hW.alike hK, hD⟩, hS.F ht⟩) hS.2.2 dX8_draw_31

set_option maxHeartbeats 1200000 in
set_option maxRecDepth 100000 in
theorem c8_image (l : Launch) (dC : Nat → ClassId) (dI : Nat → Nat → Nat) (cI : ClassId) (a : Nat) (o : Nat → Nat) (f : Nat → Int32) (g : Nat → Nat → Int32) (h : Int64) (sz : Nat) {k6 : Nat} (e6 : f 6 = nI k6) (b6 : k6 ≤ 4) {k7 : Nat} (e7 : f 7 = nI k7) (b7 : k7 ≤ 5) {k10 : Nat} (e10 : f 10 = nI k10) (b10 : k10 ≤ 8) : Met l yX8_image wsX8_image ({ frames := 1, cells := 0, slots := 0, locals := 22 } : Room) (va_Pc [.ref (a)] (fun U => U.heap.size = sz ∧ va_P (dC, dI) vwCl (mW cI a o f g h) U.heap ∧ va_K (dC, dI) vwCl [(cI, .int)] U ∧ va_D (fun _ => True) (mW cI a o f g h))) (va_Qi (fun (r : Int32) (u : MSt) => (r, u) = mImage f g h k6 k7 k10) (mB dC dI cI a o (va_A (mW cI a o f g h) sz)) (va_A (mW cI a o f g h) sz)) 0 0 (va_A (mW cI a o f g h) sz) := by
  refine Met.ofW (cc := cX8_image) (maxL := 1) (ret := (some .int)) (by decide) rfl ?_
  intro p_ e_ s m args below meth c_0 s₁ B hml hv
  obtain ⟨rfl, hsz, hP, hK, hD0⟩ := hv
  have hx := B.exec
  have hb := B.bytes
  have hr := B.returns
  have hts := atoms_spec (ws := wsX8_image) B.pre
  have hown : s.vm.findClass RX8 = some m.cls := findClass_of_methodNamed B.named
  have hlocks := B.notSynchronized
  subst hsz
  have hD := hD0.self (sz := s.heap.size)
  generalize hAe : va_A (mW cI a o f g h) s.heap.size = A at hD ⊢
  have hA : ∀ q : Nat, s.heap.size ≤ q → A q := fun q h => by rw [← hAe]; exact Or.inr h
  obtain ⟨H, hHe⟩ : ∃ H : Heap, H = s.heap := ⟨_, rfl⟩
  have hS : va_S A s.heap H [] := by rw [hHe]; exact va_S.rf
  rw [← hHe] at hP ⊢
  have hP : va_P (dC, dI) vwCl (mW cI a o f g h) H := hP
  have hl := lv_entry ([.ref (a)]) (n := 1) (Nat.le_of_ble_eq_true rfl)
  rw [lg_entry_eq]
  generalize (lg_sl ([.ref (a)]) ++ List.replicate (1 - (lg_sl ([.ref (a)])).length) Slot.unset).toArray = ls at hl ⊢
  have hl : lv_has ls 1 [(0, .ref (a))] := hl
  have hin8 : ∀ w ∈ wsX80, w ∈ wsX8_image := fun _ h => List.mem_cons_of_mem _ (List.mem_append_right _ h)
  have hW0 := hts (.fieldLink RX8 63 "EachEyeModel" "isThere" "Z") (by decide +kernel)
  have hW1 := hts (.fieldLink RX8 13 "EachEyeModel" "hues" "[I") (by decide +kernel)
  have hW2 := hts (.fieldLink RX8 28 "EachEyeModel" "keptHues" "[I") (by decide +kernel)
  have hW3 := hts (.fieldLink RX8 16 "EachEyeModel" "rows" "[I") (by decide +kernel)
  have hW4 := hts (.fieldLink RX8 31 "EachEyeModel" "keptRows" "[I") (by decide +kernel)
  have hW5 := hts (.fieldLink RX8 19 "EachEyeModel" "inkHues" "[I") (by decide +kernel)
  have hW6 := hts (.fieldLink RX8 34 "EachEyeModel" "keptInkHues" "[I") (by decide +kernel)
  have hW7 := hts (.fieldLink RX8 22 "EachEyeModel" "cardRows" "[I") (by decide +kernel)
  have hW8 := hts (.fieldLink RX8 37 "EachEyeModel" "keptCardRows" "[I") (by decide +kernel)
  have hW9 := hts (.fieldLink RX8 71 "EachEyeModel" "people" "I") (by decide +kernel)
  have hW10 := hts (.fieldLink RX8 190 "EachEyeModel" "keptPeople" "I") (by decide +kernel)
  have hW11 := hts (.fieldLink RX8 74 "EachEyeModel" "inks" "I") (by decide +kernel)
  have hW12 := hts (.fieldLink RX8 193 "EachEyeModel" "keptInks" "I") (by decide +kernel)
  have hW13 := hts (.fieldLink RX8 77 "EachEyeModel" "cards" "I") (by decide +kernel)
  have hW14 := hts (.fieldLink RX8 196 "EachEyeModel" "keptCards" "I") (by decide +kernel)
  have hW15 := hts (.fieldLink RX8 80 "EachEyeModel" "layers" "I") (by decide +kernel)
  have hW16 := hts (.fieldLink RX8 199 "EachEyeModel" "keptLayers" "I") (by decide +kernel)
  have hW17 := hts (.fieldLink RX8 83 "EachEyeModel" "signsRead" "I") (by decide +kernel)
  have hW18 := hts (.fieldLink RX8 40 "EachEyeModel" "keptSign" "I") (by decide +kernel)
  refine lv_aload_n hx hb dX8_image_0 rfl (lv_at hl 0 rfl) ?_
  refine va_get (D := (dC, dI)) (ci := 8) (v := .int (f 2)) (C := RX8) (T := TX8) (N := 25) hx hb hts hin8 hown hK hP 0 rfl rfl 2 (by decide) hW0 (fun _ h9 => h9) rfl dX8_image_1 ?_
  refine lv_if_ne (tgt := 10) hx hb dX8_image_4 (by decide) (fun c_1 => ?_) (fun c_1 => ?_)
  · skip
    have c_1 : ¬ (f 2) = nI 0 := c_1
    refine lv_aload_n hx hb dX8_image_10 rfl (lv_at hl 0 rfl) ?_
    refine va_get (D := (dC, dI)) (ci := 8) (v := .ref (o 5)) (C := RX8) (T := TX8) (N := 25) hx hb hts hin8 hown hK hP 0 rfl rfl 5 (by decide) hW1 (fun _ h9 => h9) rfl dX8_image_11 ?_
    refine lv_aload_n hx hb dX8_image_14 rfl (lv_at hl 0 rfl) ?_
    refine va_get (D := (dC, dI)) (ci := 8) (v := .ref (o 20)) (C := RX8) (T := TX8) (N := 25) hx hb hts hin8 hown hK hP 0 rfl rfl 20 (by decide) hW2 (fun _ h9 => h9) rfl dX8_image_15 ?_
    have hPc := hP.sub (ws' := [(o 5, .inl (cI, 6, .inl (g 5))), (o 20, .inl (cI, 6, .inl (g 20)))]) [2, 7] rfl
    have hDc := hD.sub (ws' := [(o 5, .inl (cI, 6, .inl (g 5))), (o 20, .inl (cI, 6, .inl (g 20)))]) [2, 7] (by decide) rfl
    have hFc := va_free (wc := [(o 5, .inl (cI, 6, .inl (g 5))), (o 20, .inl (cI, 6, .inl (g 20)))]) hD hS hA [2, 7] rfl
    refine va_callv (va_runS (As := [.ref (o 5), .ref (o 20)]) (rest := []) ⟨hx, hb, hml, hown, hts⟩ (c8_copy l dC dI cI (o 5) (o 20) 6 (by decide) (g 5) (g 20) H.size) (va_cwS 2 hts gX8_image_X8_copy rfl rfl rfl (by decide +kernel) ⟨Nat.le_of_ble_eq_true rfl, Nat.le_of_ble_eq_true rfl⟩) ⟨fun a U g mk q => by obtain ⟨q0, q1, qP, qK, qD⟩ := q; exact ⟨q0, q1, qP, va_K.moved (u := U) (U := U.calling g mk a) (Vm.Alike.refl U.vm) qK, qD⟩, fun U hU hW => ⟨rfl, by rw [hU], by rw [hU]; exact hPc, va_K.moved hW.alike hK, hDc.weaken (fun _ _ _ _ => trivial)⟩⟩ rfl rfl hl.1 rfl (lv_room (Nat.le_of_ble_eq_true rfl)) dX8_image_18 ⟨Nat.le_of_ble_eq_true rfl, Nat.le_of_ble_eq_true rfl⟩) hS (fun q _ h => hFc q h) hFc (fun u t H1 locs ht hvm hw hB hz1 hk1 hS => ?_)
    have hw : u = fil (g 20) (g 5) 6 := hw
    subst hw
    obtain ⟨hP1, hK1, hD1⟩ := hB
    rw [ht] at hP1
    obtain ⟨hP, hD⟩ := va_join (wr := [(a, .inr (8, mF o (f) (h))), (o 0, .inl (cI, 10, .inl (g 0))), (o 8, .inl (cI, 40, .inl (g 8))), (o 9, .inl (cI, 5, .inl (g 9))), (o 12, .inl (cI, 16, .inl (g 12))), (o 13, .inl (cI, 8, .inl (g 13))), (o 21, .inl (cI, 40, .inl (g 21))), (o 22, .inl (cI, 5, .inl (g 22))), (o 23, .inl (cI, 16, .inl (g 23)))]) (w1 := [(o 5, .inl (cI, 6, .inl (g 5))), (o 20, .inl (cI, 6, .inl (fil (g 20) (g 5) 6)))]) hP hD [2, 7] [0, 1, 3, 4, 5, 6, 8, 9, 10] rfl rfl (by decide) (by decide) hk1 hFc hP1 hD1
    have hP := hP.sub (ws' := mW cI a o (f) (su g 20 (fil (g 20) (g 5) 6)) (h)) [0, 1, 9, 2, 3, 4, 5, 10, 6, 7, 8] rfl
    have hD := hD.sub (ws' := mW cI a o (f) (su g 20 (fil (g 20) (g 5) 6)) (h)) [0, 1, 9, 2, 3, 4, 5, 10, 6, 7, 8] (by decide) rfl
    clear hP1 hD1 hK1 hPc hDc hFc hk1 hz1
    generalize H1 = H at hP hS ⊢
    refine lv_aload_n hx hb dX8_image_21 rfl (lv_at hl 0 rfl) ?_
    refine va_get (D := (dC, dI)) (ci := 8) (v := .ref (o 8)) (C := RX8) (T := TX8) (N := 25) hx hb hts hin8 hown hK hP 0 rfl rfl 8 (by decide) hW3 (fun _ h9 => h9) rfl dX8_image_22 ?_
    refine lv_aload_n hx hb dX8_image_25 rfl (lv_at hl 0 rfl) ?_
    refine va_get (D := (dC, dI)) (ci := 8) (v := .ref (o 21)) (C := RX8) (T := TX8) (N := 25) hx hb hts hin8 hown hK hP 0 rfl rfl 21 (by decide) hW4 (fun _ h9 => h9) rfl dX8_image_26 ?_
    have hPc := hP.sub (ws' := [(o 8, .inl (cI, 40, .inl (g 8))), (o 21, .inl (cI, 40, .inl (g 21)))]) [3, 8] rfl
    have hDc := hD.sub (ws' := [(o 8, .inl (cI, 40, .inl (g 8))), (o 21, .inl (cI, 40, .inl (g 21)))]) [3, 8] (by decide) rfl
    have hFc := va_free (wc := [(o 8, .inl (cI, 40, .inl (g 8))), (o 21, .inl (cI, 40, .inl (g 21)))]) hD hS hA [3, 8] rfl
    refine va_callv (va_runS (As := [.ref (o 8), .ref (o 21)]) (rest := []) ⟨hx, hb, hml, hown, hts⟩ (c8_copy l dC dI cI (o 8) (o 21) 40 (by decide) (g 8) (g 21) H.size) (va_cwS 2 hts gX8_image_X8_copy rfl rfl rfl (by decide +kernel) ⟨Nat.le_of_ble_eq_true rfl, Nat.le_of_ble_eq_true rfl⟩) ⟨fun a U g mk q => by obtain ⟨q0, q1, qP, qK, qD⟩ := q; exact ⟨q0, q1, qP, va_K.moved (u := U) (U := U.calling g mk a) (Vm.Alike.refl U.vm) qK, qD⟩, fun U hU hW => ⟨rfl, by rw [hU], by rw [hU]; exact hPc, va_K.moved hW.alike hK, hDc.weaken (fun _ _ _ _ => trivial)⟩⟩ rfl rfl hl.1 rfl (lv_room (Nat.le_of_ble_eq_true rfl)) dX8_image_29 ⟨Nat.le_of_ble_eq_true rfl, Nat.le_of_ble_eq_true rfl⟩) hS (fun q _ h => hFc q h) hFc (fun u t H1 locs ht hvm hw hB hz1 hk1 hS => ?_)
    have hw : u = fil (g 21) (g 8) 40 := hw
    subst hw
    obtain ⟨hP1, hK1, hD1⟩ := hB
    rw [ht] at hP1
    obtain ⟨hP, hD⟩ := va_join (wr := [(a, .inr (8, mF o (f) (h))), (o 0, .inl (cI, 10, .inl (g 0))), (o 5, .inl (cI, 6, .inl (g 5))), (o 9, .inl (cI, 5, .inl (g 9))), (o 12, .inl (cI, 16, .inl (g 12))), (o 13, .inl (cI, 8, .inl (g 13))), (o 20, .inl (cI, 6, .inl (fil (g 20) (g 5) 6))), (o 22, .inl (cI, 5, .inl (g 22))), (o 23, .inl (cI, 16, .inl (g 23)))]) (w1 := [(o 8, .inl (cI, 40, .inl (g 8))), (o 21, .inl (cI, 40, .inl (fil (g 21) (g 8) 40)))]) hP hD [3, 8] [0, 1, 2, 4, 5, 6, 7, 9, 10] rfl rfl (by decide) (by decide) hk1 hFc hP1 hD1
    have hP := hP.sub (ws' := mW cI a o (f) (su (su g 20 (fil (g 20) (g 5) 6)) 21 (fil (g 21) (g 8) 40)) (h)) [0, 1, 2, 9, 3, 4, 5, 6, 10, 7, 8] rfl
    have hD := hD.sub (ws' := mW cI a o (f) (su (su g 20 (fil (g 20) (g 5) 6)) 21 (fil (g 21) (g 8) 40)) (h)) [0, 1, 2, 9, 3, 4, 5, 6, 10, 7, 8] (by decide) rfl
    clear hP1 hD1 hK1 hPc hDc hFc hk1 hz1
    generalize H1 = H at hP hS ⊢
    refine lv_aload_n hx hb dX8_image_32 rfl (lv_at hl 0 rfl) ?_
    refine va_get (D := (dC, dI)) (ci := 8) (v := .ref (o 9)) (C := RX8) (T := TX8) (N := 25) hx hb hts hin8 hown hK hP 0 rfl rfl 9 (by decide) hW5 (fun _ h9 => h9) rfl dX8_image_33 ?_
    refine lv_aload_n hx hb dX8_image_36 rfl (lv_at hl 0 rfl) ?_
    refine va_get (D := (dC, dI)) (ci := 8) (v := .ref (o 22)) (C := RX8) (T := TX8) (N := 25) hx hb hts hin8 hown hK hP 0 rfl rfl 22 (by decide) hW6 (fun _ h9 => h9) rfl dX8_image_37 ?_
    have hPc := hP.sub (ws' := [(o 9, .inl (cI, 5, .inl (g 9))), (o 22, .inl (cI, 5, .inl (g 22)))]) [4, 9] rfl
    have hDc := hD.sub (ws' := [(o 9, .inl (cI, 5, .inl (g 9))), (o 22, .inl (cI, 5, .inl (g 22)))]) [4, 9] (by decide) rfl
    have hFc := va_free (wc := [(o 9, .inl (cI, 5, .inl (g 9))), (o 22, .inl (cI, 5, .inl (g 22)))]) hD hS hA [4, 9] rfl
    refine va_callv (va_runS (As := [.ref (o 9), .ref (o 22)]) (rest := []) ⟨hx, hb, hml, hown, hts⟩ (c8_copy l dC dI cI (o 9) (o 22) 5 (by decide) (g 9) (g 22) H.size) (va_cwS 2 hts gX8_image_X8_copy rfl rfl rfl (by decide +kernel) ⟨Nat.le_of_ble_eq_true rfl, Nat.le_of_ble_eq_true rfl⟩) ⟨fun a U g mk q => by obtain ⟨q0, q1, qP, qK, qD⟩ := q; exact ⟨q0, q1, qP, va_K.moved (u := U) (U := U.calling g mk a) (Vm.Alike.refl U.vm) qK, qD⟩, fun U hU hW => ⟨rfl, by rw [hU], by rw [hU]; exact hPc, va_K.moved hW.alike hK, hDc.weaken (fun _ _ _ _ => trivial)⟩⟩ rfl rfl hl.1 rfl (lv_room (Nat.le_of_ble_eq_true rfl)) dX8_image_40 ⟨Nat.le_of_ble_eq_true rfl, Nat.le_of_ble_eq_true rfl⟩) hS (fun q _ h => hFc q h) hFc (fun u t H1 locs ht hvm hw hB hz1 hk1 hS => ?_)
    have hw : u = fil (g 22) (g 9) 5 := hw
    subst hw
    obtain ⟨hP1, hK1, hD1⟩ := hB
    rw [ht] at hP1
    obtain ⟨hP, hD⟩ := va_join (wr := [(a, .inr (8, mF o (f) (h))), (o 0, .inl (cI, 10, .inl (g 0))), (o 5, .inl (cI, 6, .inl (g 5))), (o 8, .inl (cI, 40, .inl (g 8))), (o 12, .inl (cI, 16, .inl (g 12))), (o 13, .inl (cI, 8, .inl (g 13))), (o 20, .inl (cI, 6, .inl (fil (g 20) (g 5) 6))), (o 21, .inl (cI, 40, .inl (fil (g 21) (g 8) 40))), (o 23, .inl (cI, 16, .inl (g 23)))]) (w1 := [(o 9, .inl (cI, 5, .inl (g 9))), (o 22, .inl (cI, 5, .inl (fil (g 22) (g 9) 5)))]) hP hD [4, 9] [0, 1, 2, 3, 5, 6, 7, 8, 10] rfl rfl (by decide) (by decide) hk1 hFc hP1 hD1
    have hP := hP.sub (ws' := mW cI a o (f) (su (su (su g 20 (fil (g 20) (g 5) 6)) 21 (fil (g 21) (g 8) 40)) 22 (fil (g 22) (g 9) 5)) (h)) [0, 1, 2, 3, 9, 4, 5, 6, 7, 10, 8] rfl
    have hD := hD.sub (ws' := mW cI a o (f) (su (su (su g 20 (fil (g 20) (g 5) 6)) 21 (fil (g 21) (g 8) 40)) 22 (fil (g 22) (g 9) 5)) (h)) [0, 1, 2, 3, 9, 4, 5, 6, 7, 10, 8] (by decide) rfl
    clear hP1 hD1 hK1 hPc hDc hFc hk1 hz1
    generalize H1 = H at hP hS ⊢
    refine lv_aload_n hx hb dX8_image_43 rfl (lv_at hl 0 rfl) ?_
    refine va_get (D := (dC, dI)) (ci := 8) (v := .ref (o 12)) (C := RX8) (T := TX8) (N := 25) hx hb hts hin8 hown hK hP 0 rfl rfl 12 (by decide) hW7 (fun _ h9 => h9) rfl dX8_image_44 ?_
    refine lv_aload_n hx hb dX8_image_47 rfl (lv_at hl 0 rfl) ?_
    refine va_get (D := (dC, dI)) (ci := 8) (v := .ref (o 23)) (C := RX8) (T := TX8) (N := 25) hx hb hts hin8 hown hK hP 0 rfl rfl 23 (by decide) hW8 (fun _ h9 => h9) rfl dX8_image_48 ?_
    have hPc := hP.sub (ws' := [(o 12, .inl (cI, 16, .inl (g 12))), (o 23, .inl (cI, 16, .inl (g 23)))]) [5, 10] rfl
    have hDc := hD.sub (ws' := [(o 12, .inl (cI, 16, .inl (g 12))), (o 23, .inl (cI, 16, .inl (g 23)))]) [5, 10] (by decide) rfl
    have hFc := va_free (wc := [(o 12, .inl (cI, 16, .inl (g 12))), (o 23, .inl (cI, 16, .inl (g 23)))]) hD hS hA [5, 10] rfl
    refine va_callv (va_runS (As := [.ref (o 12), .ref (o 23)]) (rest := []) ⟨hx, hb, hml, hown, hts⟩ (c8_copy l dC dI cI (o 12) (o 23) 16 (by decide) (g 12) (g 23) H.size) (va_cwS 2 hts gX8_image_X8_copy rfl rfl rfl (by decide +kernel) ⟨Nat.le_of_ble_eq_true rfl, Nat.le_of_ble_eq_true rfl⟩) ⟨fun a U g mk q => by obtain ⟨q0, q1, qP, qK, qD⟩ := q; exact ⟨q0, q1, qP, va_K.moved (u := U) (U := U.calling g mk a) (Vm.Alike.refl U.vm) qK, qD⟩, fun U hU hW => ⟨rfl, by rw [hU], by rw [hU]; exact hPc, va_K.moved hW.alike hK, hDc.weaken (fun _ _ _ _ => trivial)⟩⟩ rfl rfl hl.1 rfl (lv_room (Nat.le_of_ble_eq_true rfl)) dX8_image_51 ⟨Nat.le_of_ble_eq_true rfl, Nat.le_of_ble_eq_true rfl⟩) hS (fun q _ h => hFc q h) hFc (fun u t H1 locs ht hvm hw hB hz1 hk1 hS => ?_)
    have hw : u = fil (g 23) (g 12) 16 := hw
    subst hw
    obtain ⟨hP1, hK1, hD1⟩ := hB
    rw [ht] at hP1
    obtain ⟨hP, hD⟩ := va_join (wr := [(a, .inr (8, mF o (f) (h))), (o 0, .inl (cI, 10, .inl (g 0))), (o 5, .inl (cI, 6, .inl (g 5))), (o 8, .inl (cI, 40, .inl (g 8))), (o 9, .inl (cI, 5, .inl (g 9))), (o 13, .inl (cI, 8, .inl (g 13))), (o 20, .inl (cI, 6, .inl (fil (g 20) (g 5) 6))), (o 21, .inl (cI, 40, .inl (fil (g 21) (g 8) 40))), (o 22, .inl (cI, 5, .inl (fil (g 22) (g 9) 5)))]) (w1 := [(o 12, .inl (cI, 16, .inl (g 12))), (o 23, .inl (cI, 16, .inl (fil (g 23) (g 12) 16)))]) hP hD [5, 10] [0, 1, 2, 3, 4, 6, 7, 8, 9] rfl rfl (by decide) (by decide) hk1 hFc hP1 hD1
    have hP := hP.sub (ws' := mW cI a o (f) (su (su (su (su g 20 (fil (g 20) (g 5) 6)) 21 (fil (g 21) (g 8) 40)) 22 (fil (g 22) (g 9) 5)) 23 (fil (g 23) (g 12) 16)) (h)) [0, 1, 2, 3, 4, 9, 5, 6, 7, 8, 10] rfl
    have hD := hD.sub (ws' := mW cI a o (f) (su (su (su (su g 20 (fil (g 20) (g 5) 6)) 21 (fil (g 21) (g 8) 40)) 22 (fil (g 22) (g 9) 5)) 23 (fil (g 23) (g 12) 16)) (h)) [0, 1, 2, 3, 4, 9, 5, 6, 7, 8, 10] (by decide) rfl
    clear hP1 hD1 hK1 hPc hDc hFc hk1 hz1
    generalize H1 = H at hP hS ⊢
    refine lv_aload_n hx hb dX8_image_54 rfl (lv_at hl 0 rfl) ?_
    refine lv_aload_n hx hb dX8_image_55 rfl (lv_at hl 0 rfl) ?_
    refine va_get (D := (dC, dI)) (ci := 8) (v := .int (nI (k6))) (C := RX8) (T := TX8) (N := 25) hx hb hts hin8 hown hK hP 0 rfl rfl 6 (by decide) hW9 (fun _ h9 => h9) (congrArg (fun z => some (Value.int z)) e6) dX8_image_56 ?_
    refine va_put (D := (dC, dI)) (ci := 8) (v := .int (nI (k6))) (ty := .int) (C := RX8) (T := TX8) (N := 25) hx hb hts hin8 tyX8 tyX8_ok nmX8 hown hK hP hD hS 0 rfl rfl 16 (by decide) hW10 (fun _ h9 => h9) rfl (by decide +kernel) rfl rfl (Nat.le_of_ble_eq_true rfl) dX8_image_59 (fun H locs hP hD hS => ?_)
    have hP : va_P (dC, dI) vwCl (mW cI a o (su f 16 (nI (k6))) (su (su (su (su g 20 (fil (g 20) (g 5) 6)) 21 (fil (g 21) (g 8) 40)) 22 (fil (g 22) (g 9) 5)) 23 (fil (g 23) (g 12) 16)) (h)) H := hP
    have hD : va_D A (mW cI a o (su f 16 (nI (k6))) (su (su (su (su g 20 (fil (g 20) (g 5) 6)) 21 (fil (g 21) (g 8) 40)) 22 (fil (g 22) (g 9) 5)) 23 (fil (g 23) (g 12) 16)) (h)) := hD
    refine lv_aload_n hx hb dX8_image_62 rfl (lv_at hl 0 rfl) ?_
    refine lv_aload_n hx hb dX8_image_63 rfl (lv_at hl 0 rfl) ?_
    refine va_get (D := (dC, dI)) (ci := 8) (v := .int (nI (k7))) (C := RX8) (T := TX8) (N := 25) hx hb hts hin8 hown hK hP 0 rfl rfl 7 (by decide) hW11 (fun _ h9 => h9) (congrArg (fun z => some (Value.int z)) e7) dX8_image_64 ?_
    refine va_put (D := (dC, dI)) (ci := 8) (v := .int (nI (k7))) (ty := .int) (C := RX8) (T := TX8) (N := 25) hx hb hts hin8 tyX8 tyX8_ok nmX8 hown hK hP hD hS 0 rfl rfl 17 (by decide) hW12 (fun _ h9 => h9) rfl (by decide +kernel) rfl rfl (Nat.le_of_ble_eq_true rfl) dX8_image_67 (fun H locs hP hD hS => ?_)
    have hP : va_P (dC, dI) vwCl (mW cI a o (su (su f 16 (nI (k6))) 17 (nI (k7))) (su (su (su (su g 20 (fil (g 20) (g 5) 6)) 21 (fil (g 21) (g 8) 40)) 22 (fil (g 22) (g 9) 5)) 23 (fil (g 23) (g 12) 16)) (h)) H := hP
    have hD : va_D A (mW cI a o (su (su f 16 (nI (k6))) 17 (nI (k7))) (su (su (su (su g 20 (fil (g 20) (g 5) 6)) 21 (fil (g 21) (g 8) 40)) 22 (fil (g 22) (g 9) 5)) 23 (fil (g 23) (g 12) 16)) (h)) := hD
    refine lv_aload_n hx hb dX8_image_70 rfl (lv_at hl 0 rfl) ?_
    refine lv_aload_n hx hb dX8_image_71 rfl (lv_at hl 0 rfl) ?_
    refine va_get (D := (dC, dI)) (ci := 8) (v := .int (nI (k10))) (C := RX8) (T := TX8) (N := 25) hx hb hts hin8 hown hK hP 0 rfl rfl 10 (by decide) hW13 (fun _ h9 => h9) (congrArg (fun z => some (Value.int z)) e10) dX8_image_72 ?_
    refine va_put (D := (dC, dI)) (ci := 8) (v := .int (nI (k10))) (ty := .int) (C := RX8) (T := TX8) (N := 25) hx hb hts hin8 tyX8 tyX8_ok nmX8 hown hK hP hD hS 0 rfl rfl 18 (by decide) hW14 (fun _ h9 => h9) rfl (by decide +kernel) rfl rfl (Nat.le_of_ble_eq_true rfl) dX8_image_75 (fun H locs hP hD hS => ?_)
    have hP : va_P (dC, dI) vwCl (mW cI a o (su (su (su f 16 (nI (k6))) 17 (nI (k7))) 18 (nI (k10))) (su (su (su (su g 20 (fil (g 20) (g 5) 6)) 21 (fil (g 21) (g 8) 40)) 22 (fil (g 22) (g 9) 5)) 23 (fil (g 23) (g 12) 16)) (h)) H := hP
    have hD : va_D A (mW cI a o (su (su (su f 16 (nI (k6))) 17 (nI (k7))) 18 (nI (k10))) (su (su (su (su g 20 (fil (g 20) (g 5) 6)) 21 (fil (g 21) (g 8) 40)) 22 (fil (g 22) (g 9) 5)) 23 (fil (g 23) (g 12) 16)) (h)) := hD
    refine lv_aload_n hx hb dX8_image_78 rfl (lv_at hl 0 rfl) ?_
    refine lv_aload_n hx hb dX8_image_79 rfl (lv_at hl 0 rfl) ?_
    refine va_get (D := (dC, dI)) (ci := 8) (v := .int (f 3)) (C := RX8) (T := TX8) (N := 25) hx hb hts hin8 hown hK hP 0 rfl rfl 3 (by decide) hW15 (fun _ h9 => h9) rfl dX8_image_80 ?_
    refine va_put (D := (dC, dI)) (ci := 8) (v := .int (f 3)) (ty := .int) (C := RX8) (T := TX8) (N := 25) hx hb hts hin8 tyX8 tyX8_ok nmX8 hown hK hP hD hS 0 rfl rfl 19 (by decide) hW16 (fun _ h9 => h9) rfl (by decide +kernel) rfl rfl (Nat.le_of_ble_eq_true rfl) dX8_image_83 (fun H locs hP hD hS => ?_)
    have hP : va_P (dC, dI) vwCl (mW cI a o (su (su (su (su f 16 (nI (k6))) 17 (nI (k7))) 18 (nI (k10))) 19 (f 3)) (su (su (su (su g 20 (fil (g 20) (g 5) 6)) 21 (fil (g 21) (g 8) 40)) 22 (fil (g 22) (g 9) 5)) 23 (fil (g 23) (g 12) 16)) (h)) H := hP
    have hD : va_D A (mW cI a o (su (su (su (su f 16 (nI (k6))) 17 (nI (k7))) 18 (nI (k10))) 19 (f 3)) (su (su (su (su g 20 (fil (g 20) (g 5) 6)) 21 (fil (g 21) (g 8) 40)) 22 (fil (g 22) (g 9) 5)) 23 (fil (g 23) (g 12) 16)) (h)) := hD
    refine lv_aload_n hx hb dX8_image_86 rfl (lv_at hl 0 rfl) ?_
    refine lv_aload_n hx hb dX8_image_87 rfl (lv_at hl 0 rfl) ?_
    refine va_get (D := (dC, dI)) (ci := 8) (v := .int (f 4)) (C := RX8) (T := TX8) (N := 25) hx hb hts hin8 hown hK hP 0 rfl rfl 4 (by decide) hW17 (fun _ h9 => h9) rfl dX8_image_88 ?_
    refine va_put (D := (dC, dI)) (ci := 8) (v := .int (f 4)) (ty := .int) (C := RX8) (T := TX8) (N := 25) hx hb hts hin8 tyX8 tyX8_ok nmX8 hown hK hP hD hS 0 rfl rfl 15 (by decide) hW18 (fun _ h9 => h9) rfl (by decide +kernel) rfl rfl (Nat.le_of_ble_eq_true rfl) dX8_image_91 (fun H locs hP hD hS => ?_)
    have hP : va_P (dC, dI) vwCl (mW cI a o (su (su (su (su (su f 16 (nI (k6))) 17 (nI (k7))) 18 (nI (k10))) 19 (f 3)) 15 (f 4)) (su (su (su (su g 20 (fil (g 20) (g 5) 6)) 21 (fil (g 21) (g 8) 40)) 22 (fil (g 22) (g 9) 5)) 23 (fil (g 23) (g 12) 16)) (h)) H := hP
    have hD : va_D A (mW cI a o (su (su (su (su (su f 16 (nI (k6))) 17 (nI (k7))) 18 (nI (k10))) 19 (f 3)) 15 (f 4)) (su (su (su (su g 20 (fil (g 20) (g 5) 6)) 21 (fil (g 21) (g 8) 40)) 22 (fil (g 22) (g 9) 5)) 23 (fil (g 23) (g 12) 16)) (h)) := hD
    refine lv_aload_n hx hb dX8_image_94 rfl (lv_at hl 0 rfl) ?_
    refine va_get (D := (dC, dI)) (ci := 8) (v := .int (nI (k6))) (C := RX8) (T := TX8) (N := 25) hx hb hts hin8 hown hK hP 0 rfl rfl 6 (by decide) hW9 (fun _ h9 => h9) (congrArg (fun z => some (Value.int z)) e6) dX8_image_95 ?_
    have hP9 : va_P (dC, dI) vwCl (mW cI a o (su (su (su (su (su f 16 (nI (k6))) 17 (nI (k7))) 18 (nI (k10))) 19 (f 3)) 15 (f 4)) (su (su (su (su g 20 (fil (g 20) (g 5) 6)) 21 (fil (g 21) (g 8) 40)) 22 (fil (g 22) (g 9) 5)) 23 (fil (g 23) (g 12) 16)) (h)) H := hP
    exact W.iret (v := nI (k6)) hx hb hr (fun t ht hW => ⟨⟨nI (k6), (su (su (su (su (su f 16 (nI (k6))) 17 (nI (k7))) 18 (nI (k10))) 19 (f 3)) 15 (f 4), su (su (su (su g 20 (fil (g 20) (g 5) 6)) 21 (fil (g 21) (g 8) 40)) 22 (fil (g 22) (g 9) 5)) 23 (fil (g 23) (g 12) 16), h), rfl, (by show ((nI (k6), (su (su (su (su (su f 16 (nI (k6))) 17 (nI (k7))) 18 (nI (k10))) 19 (f 3)) 15 (f 4), su (su (su (su g 20 (fil (g 20) (g 5) 6)) 21 (fil (g 21) (g 8) 40)) 22 (fil (g 22) (g 9) 5)) 23 (fil (g 23) (g 12) 16), h)) : _ × MSt) = mImage f g h k6 k7 k10; first | (simp only [mImage, mImgF, mImgG, if_neg c_1]; done) | (simp only [mImage, mImgF, mImgG, if_neg c_1]; rfl) | rfl | (simp [mImage, mImgF, mImgG, if_neg c_1]; done)), by rw [ht]; exact hP9, va_K.moved hW.alike hK, hD⟩, hS.F ht⟩) hS.2.2 dX8_image_98
  · skip
    have c_1 : (f 2) = nI 0 := c_1
    refine lv_bipush (v := (-103)) hx hb dX8_image_7 (by decide +kernel) ?_
    have hP9 : va_P (dC, dI) vwCl (mW cI a o (f) (g) (h)) H := hP
    exact W.iret (v := (-103)) hx hb hr (fun t ht hW => ⟨⟨(-103), (f, g, h), rfl, (by show (((-103), (f, g, h)) : _ × MSt) = mImage f g h k6 k7 k10; first | (simp only [mImage, mImgF, mImgG, if_pos c_1]; done) | (simp only [mImage, mImgF, mImgG, if_pos c_1]; rfl) | rfl | (simp [mImage, mImgF, mImgG, if_pos c_1]; done)), by rw [ht]; exact hP9, va_K.moved hW.alike hK, hD⟩, hS.F ht⟩) hS.2.2 dX8_image_9

set_option maxHeartbeats 1200000 in
set_option maxRecDepth 100000 in
theorem c8_restore (l : Launch) (dC : Nat → ClassId) (dI : Nat → Nat → Nat) (cI : ClassId) (a : Nat) (o : Nat → Nat) (f : Nat → Int32) (g : Nat → Nat → Int32) (h : Int64) (sz : Nat) : Met l yX8_restore wsX8_restore ({ frames := 1, cells := 0, slots := 0, locals := 22 } : Room) (va_Pc [.ref (a)] (fun U => U.heap.size = sz ∧ va_P (dC, dI) vwCl (mW cI a o f g h) U.heap ∧ va_K (dC, dI) vwCl [(cI, .int)] U ∧ va_D (fun _ => True) (mW cI a o f g h))) (va_Qi (fun (r : Int32) (u : MSt) => (r, u) = mRestore f g h) (mB dC dI cI a o (va_A (mW cI a o f g h) sz)) (va_A (mW cI a o f g h) sz)) 0 0 (va_A (mW cI a o f g h) sz) := by
  refine Met.ofW (cc := cX8_restore) (maxL := 1) (ret := (some .int)) (by decide) rfl ?_
  intro p_ e_ s m args below meth c_0 s₁ B hml hv
  obtain ⟨rfl, hsz, hP, hK, hD0⟩ := hv
  have hx := B.exec
  have hb := B.bytes
  have hr := B.returns
  have hts := atoms_spec (ws := wsX8_restore) B.pre
  have hown : s.vm.findClass RX8 = some m.cls := findClass_of_methodNamed B.named
  have hlocks := B.notSynchronized
  subst hsz
  have hD := hD0.self (sz := s.heap.size)
  generalize hAe : va_A (mW cI a o f g h) s.heap.size = A at hD ⊢
  have hA : ∀ q : Nat, s.heap.size ≤ q → A q := fun q h => by rw [← hAe]; exact Or.inr h
  obtain ⟨H, hHe⟩ : ∃ H : Heap, H = s.heap := ⟨_, rfl⟩
  have hS : va_S A s.heap H [] := by rw [hHe]; exact va_S.rf
  rw [← hHe] at hP ⊢
  have hP : va_P (dC, dI) vwCl (mW cI a o f g h) H := hP
  have hl := lv_entry ([.ref (a)]) (n := 1) (Nat.le_of_ble_eq_true rfl)
  rw [lg_entry_eq]
  generalize (lg_sl ([.ref (a)]) ++ List.replicate (1 - (lg_sl ([.ref (a)])).length) Slot.unset).toArray = ls at hl ⊢
  have hl : lv_has ls 1 [(0, .ref (a))] := hl
  have hin8 : ∀ w ∈ wsX80, w ∈ wsX8_restore := fun _ h => List.mem_cons_of_mem _ (List.mem_append_right _ h)
  have hW0 := hts (.fieldLink RX8 40 "EachEyeModel" "keptSign" "I") (by decide +kernel)
  have hW1 := hts (.fieldLink RX8 83 "EachEyeModel" "signsRead" "I") (by decide +kernel)
  have hW2 := hts (.fieldLink RX8 28 "EachEyeModel" "keptHues" "[I") (by decide +kernel)
  have hW3 := hts (.fieldLink RX8 13 "EachEyeModel" "hues" "[I") (by decide +kernel)
  have hW4 := hts (.fieldLink RX8 31 "EachEyeModel" "keptRows" "[I") (by decide +kernel)
  have hW5 := hts (.fieldLink RX8 16 "EachEyeModel" "rows" "[I") (by decide +kernel)
  have hW6 := hts (.fieldLink RX8 34 "EachEyeModel" "keptInkHues" "[I") (by decide +kernel)
  have hW7 := hts (.fieldLink RX8 19 "EachEyeModel" "inkHues" "[I") (by decide +kernel)
  have hW8 := hts (.fieldLink RX8 37 "EachEyeModel" "keptCardRows" "[I") (by decide +kernel)
  have hW9 := hts (.fieldLink RX8 22 "EachEyeModel" "cardRows" "[I") (by decide +kernel)
  have hW10 := hts (.fieldLink RX8 190 "EachEyeModel" "keptPeople" "I") (by decide +kernel)
  have hW11 := hts (.fieldLink RX8 71 "EachEyeModel" "people" "I") (by decide +kernel)
  have hW12 := hts (.fieldLink RX8 193 "EachEyeModel" "keptInks" "I") (by decide +kernel)
  have hW13 := hts (.fieldLink RX8 74 "EachEyeModel" "inks" "I") (by decide +kernel)
  have hW14 := hts (.fieldLink RX8 196 "EachEyeModel" "keptCards" "I") (by decide +kernel)
  have hW15 := hts (.fieldLink RX8 77 "EachEyeModel" "cards" "I") (by decide +kernel)
  have hW16 := hts (.fieldLink RX8 199 "EachEyeModel" "keptLayers" "I") (by decide +kernel)
  have hW17 := hts (.fieldLink RX8 80 "EachEyeModel" "layers" "I") (by decide +kernel)
  refine lv_aload_n hx hb dX8_restore_0 rfl (lv_at hl 0 rfl) ?_
  refine va_get (D := (dC, dI)) (ci := 8) (v := .int (f 15)) (C := RX8) (T := TX8) (N := 25) hx hb hts hin8 hown hK hP 0 rfl rfl 15 (by decide) hW0 (fun _ h9 => h9) rfl dX8_restore_1 ?_
  refine lv_aload_n hx hb dX8_restore_4 rfl (lv_at hl 0 rfl) ?_
  refine va_get (D := (dC, dI)) (ci := 8) (v := .int (f 4)) (C := RX8) (T := TX8) (N := 25) hx hb hts hin8 hown hK hP 0 rfl rfl 4 (by decide) hW1 (fun _ h9 => h9) rfl dX8_restore_5 ?_
  refine lv_icmp_eq (tgt := 14) hx hb dX8_restore_8 (by decide) (fun c_1 => ?_) (fun c_1 => ?_)
  · skip
    refine lv_aload_n hx hb dX8_restore_14 rfl (lv_at hl 0 rfl) ?_
    refine va_get (D := (dC, dI)) (ci := 8) (v := .ref (o 20)) (C := RX8) (T := TX8) (N := 25) hx hb hts hin8 hown hK hP 0 rfl rfl 20 (by decide) hW2 (fun _ h9 => h9) rfl dX8_restore_15 ?_
    refine lv_aload_n hx hb dX8_restore_18 rfl (lv_at hl 0 rfl) ?_
    refine va_get (D := (dC, dI)) (ci := 8) (v := .ref (o 5)) (C := RX8) (T := TX8) (N := 25) hx hb hts hin8 hown hK hP 0 rfl rfl 5 (by decide) hW3 (fun _ h9 => h9) rfl dX8_restore_19 ?_
    have hPc := hP.sub (ws' := [(o 20, .inl (cI, 6, .inl (g 20))), (o 5, .inl (cI, 6, .inl (g 5)))]) [7, 2] rfl
    have hDc := hD.sub (ws' := [(o 20, .inl (cI, 6, .inl (g 20))), (o 5, .inl (cI, 6, .inl (g 5)))]) [7, 2] (by decide) rfl
    have hFc := va_free (wc := [(o 20, .inl (cI, 6, .inl (g 20))), (o 5, .inl (cI, 6, .inl (g 5)))]) hD hS hA [7, 2] rfl
    refine va_callv (va_runS (As := [.ref (o 20), .ref (o 5)]) (rest := []) ⟨hx, hb, hml, hown, hts⟩ (c8_copy l dC dI cI (o 20) (o 5) 6 (by decide) (g 20) (g 5) H.size) (va_cwS 2 hts gX8_restore_X8_copy rfl rfl rfl (by decide +kernel) ⟨Nat.le_of_ble_eq_true rfl, Nat.le_of_ble_eq_true rfl⟩) ⟨fun a U g mk q => by obtain ⟨q0, q1, qP, qK, qD⟩ := q; exact ⟨q0, q1, qP, va_K.moved (u := U) (U := U.calling g mk a) (Vm.Alike.refl U.vm) qK, qD⟩, fun U hU hW => ⟨rfl, by rw [hU], by rw [hU]; exact hPc, va_K.moved hW.alike hK, hDc.weaken (fun _ _ _ _ => trivial)⟩⟩ rfl rfl hl.1 rfl (lv_room (Nat.le_of_ble_eq_true rfl)) dX8_restore_22 ⟨Nat.le_of_ble_eq_true rfl, Nat.le_of_ble_eq_true rfl⟩) hS (fun q _ h => hFc q h) hFc (fun u t H1 locs ht hvm hw hB hz1 hk1 hS => ?_)
    have hw : u = fil (g 5) (g 20) 6 := hw
    subst hw
    obtain ⟨hP1, hK1, hD1⟩ := hB
    rw [ht] at hP1
    obtain ⟨hP, hD⟩ := va_join (wr := [(a, .inr (8, mF o (f) (h))), (o 0, .inl (cI, 10, .inl (g 0))), (o 8, .inl (cI, 40, .inl (g 8))), (o 9, .inl (cI, 5, .inl (g 9))), (o 12, .inl (cI, 16, .inl (g 12))), (o 13, .inl (cI, 8, .inl (g 13))), (o 21, .inl (cI, 40, .inl (g 21))), (o 22, .inl (cI, 5, .inl (g 22))), (o 23, .inl (cI, 16, .inl (g 23)))]) (w1 := [(o 20, .inl (cI, 6, .inl (g 20))), (o 5, .inl (cI, 6, .inl (fil (g 5) (g 20) 6)))]) hP hD [7, 2] [0, 1, 3, 4, 5, 6, 8, 9, 10] rfl rfl (by decide) (by decide) hk1 hFc hP1 hD1
    have hP := hP.sub (ws' := mW cI a o (f) (su g 5 (fil (g 5) (g 20) 6)) (h)) [0, 1, 10, 2, 3, 4, 5, 9, 6, 7, 8] rfl
    have hD := hD.sub (ws' := mW cI a o (f) (su g 5 (fil (g 5) (g 20) 6)) (h)) [0, 1, 10, 2, 3, 4, 5, 9, 6, 7, 8] (by decide) rfl
    clear hP1 hD1 hK1 hPc hDc hFc hk1 hz1
    generalize H1 = H at hP hS ⊢
    refine lv_aload_n hx hb dX8_restore_25 rfl (lv_at hl 0 rfl) ?_
    refine va_get (D := (dC, dI)) (ci := 8) (v := .ref (o 21)) (C := RX8) (T := TX8) (N := 25) hx hb hts hin8 hown hK hP 0 rfl rfl 21 (by decide) hW4 (fun _ h9 => h9) rfl dX8_restore_26 ?_
    refine lv_aload_n hx hb dX8_restore_29 rfl (lv_at hl 0 rfl) ?_
    refine va_get (D := (dC, dI)) (ci := 8) (v := .ref (o 8)) (C := RX8) (T := TX8) (N := 25) hx hb hts hin8 hown hK hP 0 rfl rfl 8 (by decide) hW5 (fun _ h9 => h9) rfl dX8_restore_30 ?_
    have hPc := hP.sub (ws' := [(o 21, .inl (cI, 40, .inl (g 21))), (o 8, .inl (cI, 40, .inl (g 8)))]) [8, 3] rfl
    have hDc := hD.sub (ws' := [(o 21, .inl (cI, 40, .inl (g 21))), (o 8, .inl (cI, 40, .inl (g 8)))]) [8, 3] (by decide) rfl
    have hFc := va_free (wc := [(o 21, .inl (cI, 40, .inl (g 21))), (o 8, .inl (cI, 40, .inl (g 8)))]) hD hS hA [8, 3] rfl
    refine va_callv (va_runS (As := [.ref (o 21), .ref (o 8)]) (rest := []) ⟨hx, hb, hml, hown, hts⟩ (c8_copy l dC dI cI (o 21) (o 8) 40 (by decide) (g 21) (g 8) H.size) (va_cwS 2 hts gX8_restore_X8_copy rfl rfl rfl (by decide +kernel) ⟨Nat.le_of_ble_eq_true rfl, Nat.le_of_ble_eq_true rfl⟩) ⟨fun a U g mk q => by obtain ⟨q0, q1, qP, qK, qD⟩ := q; exact ⟨q0, q1, qP, va_K.moved (u := U) (U := U.calling g mk a) (Vm.Alike.refl U.vm) qK, qD⟩, fun U hU hW => ⟨rfl, by rw [hU], by rw [hU]; exact hPc, va_K.moved hW.alike hK, hDc.weaken (fun _ _ _ _ => trivial)⟩⟩ rfl rfl hl.1 rfl (lv_room (Nat.le_of_ble_eq_true rfl)) dX8_restore_33 ⟨Nat.le_of_ble_eq_true rfl, Nat.le_of_ble_eq_true rfl⟩) hS (fun q _ h => hFc q h) hFc (fun u t H1 locs ht hvm hw hB hz1 hk1 hS => ?_)
    have hw : u = fil (g 8) (g 21) 40 := hw
    subst hw
    obtain ⟨hP1, hK1, hD1⟩ := hB
    rw [ht] at hP1
    obtain ⟨hP, hD⟩ := va_join (wr := [(a, .inr (8, mF o (f) (h))), (o 0, .inl (cI, 10, .inl (g 0))), (o 5, .inl (cI, 6, .inl (fil (g 5) (g 20) 6))), (o 9, .inl (cI, 5, .inl (g 9))), (o 12, .inl (cI, 16, .inl (g 12))), (o 13, .inl (cI, 8, .inl (g 13))), (o 20, .inl (cI, 6, .inl (g 20))), (o 22, .inl (cI, 5, .inl (g 22))), (o 23, .inl (cI, 16, .inl (g 23)))]) (w1 := [(o 21, .inl (cI, 40, .inl (g 21))), (o 8, .inl (cI, 40, .inl (fil (g 8) (g 21) 40)))]) hP hD [8, 3] [0, 1, 2, 4, 5, 6, 7, 9, 10] rfl rfl (by decide) (by decide) hk1 hFc hP1 hD1
    have hP := hP.sub (ws' := mW cI a o (f) (su (su g 5 (fil (g 5) (g 20) 6)) 8 (fil (g 8) (g 21) 40)) (h)) [0, 1, 2, 10, 3, 4, 5, 6, 9, 7, 8] rfl
    have hD := hD.sub (ws' := mW cI a o (f) (su (su g 5 (fil (g 5) (g 20) 6)) 8 (fil (g 8) (g 21) 40)) (h)) [0, 1, 2, 10, 3, 4, 5, 6, 9, 7, 8] (by decide) rfl
    clear hP1 hD1 hK1 hPc hDc hFc hk1 hz1
    generalize H1 = H at hP hS ⊢
    refine lv_aload_n hx hb dX8_restore_36 rfl (lv_at hl 0 rfl) ?_
    refine va_get (D := (dC, dI)) (ci := 8) (v := .ref (o 22)) (C := RX8) (T := TX8) (N := 25) hx hb hts hin8 hown hK hP 0 rfl rfl 22 (by decide) hW6 (fun _ h9 => h9) rfl dX8_restore_37 ?_
    refine lv_aload_n hx hb dX8_restore_40 rfl (lv_at hl 0 rfl) ?_
    refine va_get (D := (dC, dI)) (ci := 8) (v := .ref (o 9)) (C := RX8) (T := TX8) (N := 25) hx hb hts hin8 hown hK hP 0 rfl rfl 9 (by decide) hW7 (fun _ h9 => h9) rfl dX8_restore_41 ?_
    have hPc := hP.sub (ws' := [(o 22, .inl (cI, 5, .inl (g 22))), (o 9, .inl (cI, 5, .inl (g 9)))]) [9, 4] rfl
    have hDc := hD.sub (ws' := [(o 22, .inl (cI, 5, .inl (g 22))), (o 9, .inl (cI, 5, .inl (g 9)))]) [9, 4] (by decide) rfl
    have hFc := va_free (wc := [(o 22, .inl (cI, 5, .inl (g 22))), (o 9, .inl (cI, 5, .inl (g 9)))]) hD hS hA [9, 4] rfl
    refine va_callv (va_runS (As := [.ref (o 22), .ref (o 9)]) (rest := []) ⟨hx, hb, hml, hown, hts⟩ (c8_copy l dC dI cI (o 22) (o 9) 5 (by decide) (g 22) (g 9) H.size) (va_cwS 2 hts gX8_restore_X8_copy rfl rfl rfl (by decide +kernel) ⟨Nat.le_of_ble_eq_true rfl, Nat.le_of_ble_eq_true rfl⟩) ⟨fun a U g mk q => by obtain ⟨q0, q1, qP, qK, qD⟩ := q; exact ⟨q0, q1, qP, va_K.moved (u := U) (U := U.calling g mk a) (Vm.Alike.refl U.vm) qK, qD⟩, fun U hU hW => ⟨rfl, by rw [hU], by rw [hU]; exact hPc, va_K.moved hW.alike hK, hDc.weaken (fun _ _ _ _ => trivial)⟩⟩ rfl rfl hl.1 rfl (lv_room (Nat.le_of_ble_eq_true rfl)) dX8_restore_44 ⟨Nat.le_of_ble_eq_true rfl, Nat.le_of_ble_eq_true rfl⟩) hS (fun q _ h => hFc q h) hFc (fun u t H1 locs ht hvm hw hB hz1 hk1 hS => ?_)
    have hw : u = fil (g 9) (g 22) 5 := hw
    subst hw
    obtain ⟨hP1, hK1, hD1⟩ := hB
    rw [ht] at hP1
    obtain ⟨hP, hD⟩ := va_join (wr := [(a, .inr (8, mF o (f) (h))), (o 0, .inl (cI, 10, .inl (g 0))), (o 5, .inl (cI, 6, .inl (fil (g 5) (g 20) 6))), (o 8, .inl (cI, 40, .inl (fil (g 8) (g 21) 40))), (o 12, .inl (cI, 16, .inl (g 12))), (o 13, .inl (cI, 8, .inl (g 13))), (o 20, .inl (cI, 6, .inl (g 20))), (o 21, .inl (cI, 40, .inl (g 21))), (o 23, .inl (cI, 16, .inl (g 23)))]) (w1 := [(o 22, .inl (cI, 5, .inl (g 22))), (o 9, .inl (cI, 5, .inl (fil (g 9) (g 22) 5)))]) hP hD [9, 4] [0, 1, 2, 3, 5, 6, 7, 8, 10] rfl rfl (by decide) (by decide) hk1 hFc hP1 hD1
    have hP := hP.sub (ws' := mW cI a o (f) (su (su (su g 5 (fil (g 5) (g 20) 6)) 8 (fil (g 8) (g 21) 40)) 9 (fil (g 9) (g 22) 5)) (h)) [0, 1, 2, 3, 10, 4, 5, 6, 7, 9, 8] rfl
    have hD := hD.sub (ws' := mW cI a o (f) (su (su (su g 5 (fil (g 5) (g 20) 6)) 8 (fil (g 8) (g 21) 40)) 9 (fil (g 9) (g 22) 5)) (h)) [0, 1, 2, 3, 10, 4, 5, 6, 7, 9, 8] (by decide) rfl
    clear hP1 hD1 hK1 hPc hDc hFc hk1 hz1
    generalize H1 = H at hP hS ⊢
    refine lv_aload_n hx hb dX8_restore_47 rfl (lv_at hl 0 rfl) ?_
    refine va_get (D := (dC, dI)) (ci := 8) (v := .ref (o 23)) (C := RX8) (T := TX8) (N := 25) hx hb hts hin8 hown hK hP 0 rfl rfl 23 (by decide) hW8 (fun _ h9 => h9) rfl dX8_restore_48 ?_
    refine lv_aload_n hx hb dX8_restore_51 rfl (lv_at hl 0 rfl) ?_
    refine va_get (D := (dC, dI)) (ci := 8) (v := .ref (o 12)) (C := RX8) (T := TX8) (N := 25) hx hb hts hin8 hown hK hP 0 rfl rfl 12 (by decide) hW9 (fun _ h9 => h9) rfl dX8_restore_52 ?_
    have hPc := hP.sub (ws' := [(o 23, .inl (cI, 16, .inl (g 23))), (o 12, .inl (cI, 16, .inl (g 12)))]) [10, 5] rfl
    have hDc := hD.sub (ws' := [(o 23, .inl (cI, 16, .inl (g 23))), (o 12, .inl (cI, 16, .inl (g 12)))]) [10, 5] (by decide) rfl
    have hFc := va_free (wc := [(o 23, .inl (cI, 16, .inl (g 23))), (o 12, .inl (cI, 16, .inl (g 12)))]) hD hS hA [10, 5] rfl
    refine va_callv (va_runS (As := [.ref (o 23), .ref (o 12)]) (rest := []) ⟨hx, hb, hml, hown, hts⟩ (c8_copy l dC dI cI (o 23) (o 12) 16 (by decide) (g 23) (g 12) H.size) (va_cwS 2 hts gX8_restore_X8_copy rfl rfl rfl (by decide +kernel) ⟨Nat.le_of_ble_eq_true rfl, Nat.le_of_ble_eq_true rfl⟩) ⟨fun a U g mk q => by obtain ⟨q0, q1, qP, qK, qD⟩ := q; exact ⟨q0, q1, qP, va_K.moved (u := U) (U := U.calling g mk a) (Vm.Alike.refl U.vm) qK, qD⟩, fun U hU hW => ⟨rfl, by rw [hU], by rw [hU]; exact hPc, va_K.moved hW.alike hK, hDc.weaken (fun _ _ _ _ => trivial)⟩⟩ rfl rfl hl.1 rfl (lv_room (Nat.le_of_ble_eq_true rfl)) dX8_restore_55 ⟨Nat.le_of_ble_eq_true rfl, Nat.le_of_ble_eq_true rfl⟩) hS (fun q _ h => hFc q h) hFc (fun u t H1 locs ht hvm hw hB hz1 hk1 hS => ?_)
    have hw : u = fil (g 12) (g 23) 16 := hw
    subst hw
    obtain ⟨hP1, hK1, hD1⟩ := hB
    rw [ht] at hP1
    obtain ⟨hP, hD⟩ := va_join (wr := [(a, .inr (8, mF o (f) (h))), (o 0, .inl (cI, 10, .inl (g 0))), (o 5, .inl (cI, 6, .inl (fil (g 5) (g 20) 6))), (o 8, .inl (cI, 40, .inl (fil (g 8) (g 21) 40))), (o 9, .inl (cI, 5, .inl (fil (g 9) (g 22) 5))), (o 13, .inl (cI, 8, .inl (g 13))), (o 20, .inl (cI, 6, .inl (g 20))), (o 21, .inl (cI, 40, .inl (g 21))), (o 22, .inl (cI, 5, .inl (g 22)))]) (w1 := [(o 23, .inl (cI, 16, .inl (g 23))), (o 12, .inl (cI, 16, .inl (fil (g 12) (g 23) 16)))]) hP hD [10, 5] [0, 1, 2, 3, 4, 6, 7, 8, 9] rfl rfl (by decide) (by decide) hk1 hFc hP1 hD1
    have hP := hP.sub (ws' := mW cI a o (f) (su (su (su (su g 5 (fil (g 5) (g 20) 6)) 8 (fil (g 8) (g 21) 40)) 9 (fil (g 9) (g 22) 5)) 12 (fil (g 12) (g 23) 16)) (h)) [0, 1, 2, 3, 4, 10, 5, 6, 7, 8, 9] rfl
    have hD := hD.sub (ws' := mW cI a o (f) (su (su (su (su g 5 (fil (g 5) (g 20) 6)) 8 (fil (g 8) (g 21) 40)) 9 (fil (g 9) (g 22) 5)) 12 (fil (g 12) (g 23) 16)) (h)) [0, 1, 2, 3, 4, 10, 5, 6, 7, 8, 9] (by decide) rfl
    clear hP1 hD1 hK1 hPc hDc hFc hk1 hz1
    generalize H1 = H at hP hS ⊢
    refine lv_aload_n hx hb dX8_restore_58 rfl (lv_at hl 0 rfl) ?_
    refine lv_aload_n hx hb dX8_restore_59 rfl (lv_at hl 0 rfl) ?_
    refine va_get (D := (dC, dI)) (ci := 8) (v := .int (f 16)) (C := RX8) (T := TX8) (N := 25) hx hb hts hin8 hown hK hP 0 rfl rfl 16 (by decide) hW10 (fun _ h9 => h9) rfl dX8_restore_60 ?_
    refine va_put (D := (dC, dI)) (ci := 8) (v := .int (f 16)) (ty := .int) (C := RX8) (T := TX8) (N := 25) hx hb hts hin8 tyX8 tyX8_ok nmX8 hown hK hP hD hS 0 rfl rfl 6 (by decide) hW11 (fun _ h9 => h9) rfl (by decide +kernel) rfl rfl (Nat.le_of_ble_eq_true rfl) dX8_restore_63 (fun H locs hP hD hS => ?_)
    have hP : va_P (dC, dI) vwCl (mW cI a o (su f 6 (f 16)) (su (su (su (su g 5 (fil (g 5) (g 20) 6)) 8 (fil (g 8) (g 21) 40)) 9 (fil (g 9) (g 22) 5)) 12 (fil (g 12) (g 23) 16)) (h)) H := hP
    have hD : va_D A (mW cI a o (su f 6 (f 16)) (su (su (su (su g 5 (fil (g 5) (g 20) 6)) 8 (fil (g 8) (g 21) 40)) 9 (fil (g 9) (g 22) 5)) 12 (fil (g 12) (g 23) 16)) (h)) := hD
    refine lv_aload_n hx hb dX8_restore_66 rfl (lv_at hl 0 rfl) ?_
    refine lv_aload_n hx hb dX8_restore_67 rfl (lv_at hl 0 rfl) ?_
    refine va_get (D := (dC, dI)) (ci := 8) (v := .int (f 17)) (C := RX8) (T := TX8) (N := 25) hx hb hts hin8 hown hK hP 0 rfl rfl 17 (by decide) hW12 (fun _ h9 => h9) rfl dX8_restore_68 ?_
    refine va_put (D := (dC, dI)) (ci := 8) (v := .int (f 17)) (ty := .int) (C := RX8) (T := TX8) (N := 25) hx hb hts hin8 tyX8 tyX8_ok nmX8 hown hK hP hD hS 0 rfl rfl 7 (by decide) hW13 (fun _ h9 => h9) rfl (by decide +kernel) rfl rfl (Nat.le_of_ble_eq_true rfl) dX8_restore_71 (fun H locs hP hD hS => ?_)
    have hP : va_P (dC, dI) vwCl (mW cI a o (su (su f 6 (f 16)) 7 (f 17)) (su (su (su (su g 5 (fil (g 5) (g 20) 6)) 8 (fil (g 8) (g 21) 40)) 9 (fil (g 9) (g 22) 5)) 12 (fil (g 12) (g 23) 16)) (h)) H := hP
    have hD : va_D A (mW cI a o (su (su f 6 (f 16)) 7 (f 17)) (su (su (su (su g 5 (fil (g 5) (g 20) 6)) 8 (fil (g 8) (g 21) 40)) 9 (fil (g 9) (g 22) 5)) 12 (fil (g 12) (g 23) 16)) (h)) := hD
    refine lv_aload_n hx hb dX8_restore_74 rfl (lv_at hl 0 rfl) ?_
    refine lv_aload_n hx hb dX8_restore_75 rfl (lv_at hl 0 rfl) ?_
    refine va_get (D := (dC, dI)) (ci := 8) (v := .int (f 18)) (C := RX8) (T := TX8) (N := 25) hx hb hts hin8 hown hK hP 0 rfl rfl 18 (by decide) hW14 (fun _ h9 => h9) rfl dX8_restore_76 ?_
    refine va_put (D := (dC, dI)) (ci := 8) (v := .int (f 18)) (ty := .int) (C := RX8) (T := TX8) (N := 25) hx hb hts hin8 tyX8 tyX8_ok nmX8 hown hK hP hD hS 0 rfl rfl 10 (by decide) hW15 (fun _ h9 => h9) rfl (by decide +kernel) rfl rfl (Nat.le_of_ble_eq_true rfl) dX8_restore_79 (fun H locs hP hD hS => ?_)
    have hP : va_P (dC, dI) vwCl (mW cI a o (su (su (su f 6 (f 16)) 7 (f 17)) 10 (f 18)) (su (su (su (su g 5 (fil (g 5) (g 20) 6)) 8 (fil (g 8) (g 21) 40)) 9 (fil (g 9) (g 22) 5)) 12 (fil (g 12) (g 23) 16)) (h)) H := hP
    have hD : va_D A (mW cI a o (su (su (su f 6 (f 16)) 7 (f 17)) 10 (f 18)) (su (su (su (su g 5 (fil (g 5) (g 20) 6)) 8 (fil (g 8) (g 21) 40)) 9 (fil (g 9) (g 22) 5)) 12 (fil (g 12) (g 23) 16)) (h)) := hD
    refine lv_aload_n hx hb dX8_restore_82 rfl (lv_at hl 0 rfl) ?_
    refine lv_aload_n hx hb dX8_restore_83 rfl (lv_at hl 0 rfl) ?_
    refine va_get (D := (dC, dI)) (ci := 8) (v := .int (f 19)) (C := RX8) (T := TX8) (N := 25) hx hb hts hin8 hown hK hP 0 rfl rfl 19 (by decide) hW16 (fun _ h9 => h9) rfl dX8_restore_84 ?_
    refine va_put (D := (dC, dI)) (ci := 8) (v := .int (f 19)) (ty := .int) (C := RX8) (T := TX8) (N := 25) hx hb hts hin8 tyX8 tyX8_ok nmX8 hown hK hP hD hS 0 rfl rfl 3 (by decide) hW17 (fun _ h9 => h9) rfl (by decide +kernel) rfl rfl (Nat.le_of_ble_eq_true rfl) dX8_restore_87 (fun H locs hP hD hS => ?_)
    have hP : va_P (dC, dI) vwCl (mW cI a o (su (su (su (su f 6 (f 16)) 7 (f 17)) 10 (f 18)) 3 (f 19)) (su (su (su (su g 5 (fil (g 5) (g 20) 6)) 8 (fil (g 8) (g 21) 40)) 9 (fil (g 9) (g 22) 5)) 12 (fil (g 12) (g 23) 16)) (h)) H := hP
    have hD : va_D A (mW cI a o (su (su (su (su f 6 (f 16)) 7 (f 17)) 10 (f 18)) 3 (f 19)) (su (su (su (su g 5 (fil (g 5) (g 20) 6)) 8 (fil (g 8) (g 21) 40)) 9 (fil (g 9) (g 22) 5)) 12 (fil (g 12) (g 23) 16)) (h)) := hD
    refine lv_aload_n hx hb dX8_restore_90 rfl (lv_at hl 0 rfl) ?_
    refine va_get (D := (dC, dI)) (ci := 8) (v := .int (f 16)) (C := RX8) (T := TX8) (N := 25) hx hb hts hin8 hown hK hP 0 rfl rfl 6 (by decide) hW11 (fun _ h9 => h9) rfl dX8_restore_91 ?_
    have hP9 : va_P (dC, dI) vwCl (mW cI a o (su (su (su (su f 6 (f 16)) 7 (f 17)) 10 (f 18)) 3 (f 19)) (su (su (su (su g 5 (fil (g 5) (g 20) 6)) 8 (fil (g 8) (g 21) 40)) 9 (fil (g 9) (g 22) 5)) 12 (fil (g 12) (g 23) 16)) (h)) H := hP
    exact W.iret (v := f 16) hx hb hr (fun t ht hW => ⟨⟨f 16, (su (su (su (su f 6 (f 16)) 7 (f 17)) 10 (f 18)) 3 (f 19), su (su (su (su g 5 (fil (g 5) (g 20) 6)) 8 (fil (g 8) (g 21) 40)) 9 (fil (g 9) (g 22) 5)) 12 (fil (g 12) (g 23) 16), h), rfl, (by show ((f 16, (su (su (su (su f 6 (f 16)) 7 (f 17)) 10 (f 18)) 3 (f 19), su (su (su (su g 5 (fil (g 5) (g 20) 6)) 8 (fil (g 8) (g 21) 40)) 9 (fil (g 9) (g 22) 5)) 12 (fil (g 12) (g 23) 16), h)) : _ × MSt) = mRestore f g h; first | (simp only [mRestore, mResF, mResG, if_pos c_1]; done) | (simp only [mRestore, mResF, mResG, if_pos c_1]; rfl) | rfl | (simp [mRestore, mResF, mResG, if_pos c_1]; done)), by rw [ht]; exact hP9, va_K.moved hW.alike hK, hD⟩, hS.F ht⟩) hS.2.2 dX8_restore_94
  · skip
    refine lv_bipush (v := (-103)) hx hb dX8_restore_11 (by decide +kernel) ?_
    have hP9 : va_P (dC, dI) vwCl (mW cI a o (f) (g) (h)) H := hP
    exact W.iret (v := (-103)) hx hb hr (fun t ht hW => ⟨⟨(-103), (f, g, h), rfl, (by show (((-103), (f, g, h)) : _ × MSt) = mRestore f g h; first | (simp only [mRestore, mResF, mResG, if_neg c_1]; done) | (simp only [mRestore, mResF, mResG, if_neg c_1]; rfl) | rfl | (simp [mRestore, mResF, mResG, if_neg c_1]; done)), by rw [ht]; exact hP9, va_K.moved hW.alike hK, hD⟩, hS.F ht⟩) hS.2.2 dX8_restore_13

set_option maxHeartbeats 1200000 in
set_option maxRecDepth 100000 in
theorem c8_say (l : Launch) (dC : Nat → ClassId) (dI : Nat → Nat → Nat) (cI : ClassId) (a : Nat) (o : Nat → Nat) (f : Nat → Int32) (g : Nat → Nat → Int32) (h : Int64) (sz : Nat) (v : Int64) : Met l yX8_say wsX8_say ({ frames := 0, cells := 0, slots := 0, locals := 0 } : Room) (va_Pc [.ref (a), .long (v)] (fun U => U.heap.size = sz ∧ va_P (dC, dI) vwCl (mW cI a o f g h) U.heap ∧ va_K (dC, dI) vwCl [(cI, .int)] U ∧ va_D (fun _ => True) (mW cI a o f g h))) (va_Qv (fun (u : MSt) => u = (f, g, 31 * h + v)) (mB dC dI cI a o (va_A (mW cI a o f g h) sz)) (va_A (mW cI a o f g h) sz)) 0 0 (va_A (mW cI a o f g h) sz) := by
  refine Met.ofW (cc := cX8_say) (maxL := 3) (ret := none) (by decide) rfl ?_
  intro p_ e_ s m args below meth c_0 s₁ B hml hv
  obtain ⟨rfl, hsz, hP, hK, hD0⟩ := hv
  have hx := B.exec
  have hb := B.bytes
  have hr := B.returns
  have hts := atoms_spec (ws := wsX8_say) B.pre
  have hown : s.vm.findClass RX8 = some m.cls := findClass_of_methodNamed B.named
  have hlocks := B.notSynchronized
  subst hsz
  have hD := hD0.self (sz := s.heap.size)
  generalize hAe : va_A (mW cI a o f g h) s.heap.size = A at hD ⊢
  have hA : ∀ q : Nat, s.heap.size ≤ q → A q := fun q h => by rw [← hAe]; exact Or.inr h
  obtain ⟨H, hHe⟩ : ∃ H : Heap, H = s.heap := ⟨_, rfl⟩
  have hS : va_S A s.heap H [] := by rw [hHe]; exact va_S.rf
  rw [← hHe] at hP ⊢
  have hP : va_P (dC, dI) vwCl (mW cI a o f g h) H := hP
  have hl := lv_entry ([.ref (a), .long (v)]) (n := 3) (Nat.le_of_ble_eq_true rfl)
  rw [lg_entry_eq]
  generalize (lg_sl ([.ref (a), .long (v)]) ++ List.replicate (3 - (lg_sl ([.ref (a), .long (v)])).length) Slot.unset).toArray = ls at hl ⊢
  have hl : lv_has ls 3 [(0, .ref (a)), (1, .long (v))] := hl
  have hin8 : ∀ w ∈ wsX80, w ∈ wsX8_say := fun _ h => List.mem_cons_of_mem _ (List.mem_append_right _ h)
  have hW0 := hts (.constantLong RX8 205 (31)) (by decide +kernel)
  have hW1 := hts (.fieldLink RX8 207 "EachEyeModel" "hash" "J") (by decide +kernel)
  refine lv_aload_n hx hb dX8_say_0 rfl (lv_at hl 0 rfl) ?_
  refine lv_ldc2 (v := 31) hx hb hown hW0 dX8_say_1 ?_
  refine lv_aload_n hx hb dX8_say_4 rfl (lv_at hl 0 rfl) ?_
  refine va_get (D := (dC, dI)) (ci := 8) (v := .long (h)) (C := RX8) (T := TX8) (N := 25) hx hb hts hin8 hown hK hP 0 rfl rfl 24 (by decide) hW1 (fun _ h9 => h9) rfl dX8_say_5 ?_
  refine lv_lmul hx hb dX8_say_8 ?_
  refine lv_lload_n hx hb dX8_say_9 rfl (lv_at hl 1 rfl) ?_
  refine lv_ladd hx hb dX8_say_10 ?_
  refine va_put (D := (dC, dI)) (ci := 8) (v := .long (((31) * (h)) + (v))) (ty := .long) (C := RX8) (T := TX8) (N := 25) hx hb hts hin8 tyX8 tyX8_ok nmX8 hown hK hP hD hS 0 rfl rfl 24 (by decide) hW1 (fun _ h9 => h9) rfl (by decide +kernel) rfl rfl (Nat.le_of_ble_eq_true rfl) dX8_say_11 (fun H locs hP hD hS => ?_)
  have hP : va_P (dC, dI) vwCl (mW cI a o (f) (g) (((31) * (h)) + (v))) H := hP
  have hD : va_D A (mW cI a o (f) (g) (((31) * (h)) + (v))) := hD
  have hP9 : va_P (dC, dI) vwCl (mW cI a o (f) (g) (((31) * (h)) + (v))) H := hP
  exact W.vret hx hb hr (fun t ht hW => ⟨⟨(f, g, ((31) * (h)) + (v)), rfl, (by show ((f, g, ((31) * (h)) + (v)) : MSt) = (f, g, 31 * h + v); rfl), by rw [ht]; exact hP9, va_K.moved hW.alike hK, hD⟩, hS.F ht⟩) hS.2.2 dX8_say_14

set_option maxHeartbeats 1200000 in
set_option maxRecDepth 100000 in
theorem c8_sayPerson (l : Launch) (dC : Nat → ClassId) (dI : Nat → Nat → Nat) (cI : ClassId) (a : Nat) (o : Nat → Nat) (f : Nat → Int32) (g : Nat → Nat → Int32) (h : Int64) (sz : Nat) {k6 : Nat} (e6 : f 6 = nI k6) (b6 : k6 ≤ 4) (p : Nat) (hp : p < 4) : Met l yX8_sayPerson wsX8_sayPerson ({ frames := 4, cells := 0, slots := 0, locals := 92 } : Room) (va_Pc [.ref (a), .int (nI (p))] (fun U => U.heap.size = sz ∧ va_P (dC, dI) vwCl (mW cI a o f g h) U.heap ∧ va_K (dC, dI) vwCl [(cI, .int)] U ∧ va_D (fun _ => True) (mW cI a o f g h))) (va_Qv (fun (u : MSt) => u = (f, g, mSyP g k6 p h)) (mB dC dI cI a o (va_A (mW cI a o f g h) sz)) (va_A (mW cI a o f g h) sz)) 0 0 (va_A (mW cI a o f g h) sz) := by
  refine Met.ofW (cc := cX8_sayPerson) (maxL := 3) (ret := none) (by decide) rfl ?_
  intro p_ e_ s m args below meth c_0 s₁ B hml hv
  obtain ⟨rfl, hsz, hP, hK, hD0⟩ := hv
  have hx := B.exec
  have hb := B.bytes
  have hr := B.returns
  have hts := atoms_spec (ws := wsX8_sayPerson) B.pre
  have hown : s.vm.findClass RX8 = some m.cls := findClass_of_methodNamed B.named
  have hlocks := B.notSynchronized
  subst hsz
  have hD := hD0.self (sz := s.heap.size)
  generalize hAe : va_A (mW cI a o f g h) s.heap.size = A at hD ⊢
  have hA : ∀ q : Nat, s.heap.size ≤ q → A q := fun q h => by rw [← hAe]; exact Or.inr h
  obtain ⟨H, hHe⟩ : ∃ H : Heap, H = s.heap := ⟨_, rfl⟩
  have hS : va_S A s.heap H [] := by rw [hHe]; exact va_S.rf
  rw [← hHe] at hP ⊢
  have hP : va_P (dC, dI) vwCl (mW cI a o f g h) H := hP
  have hl := lv_entry ([.ref (a), .int (nI (p))]) (n := 3) (Nat.le_of_ble_eq_true rfl)
  rw [lg_entry_eq]
  generalize (lg_sl ([.ref (a), .int (nI (p))]) ++ List.replicate (3 - (lg_sl ([.ref (a), .int (nI (p))])).length) Slot.unset).toArray = ls at hl ⊢
  have hl : lv_has ls 3 [(0, .ref (a)), (1, .int (nI (p)))] := hl
  have hin8 : ∀ w ∈ wsX80, w ∈ wsX8_sayPerson := fun _ h => List.mem_cons_of_mem _ (List.mem_append_right _ h)
  have hW0 := hts (.fieldLink RX8 71 "EachEyeModel" "people" "I") (by decide +kernel)
  have hW1 := hts (.constantLong RX8 112 (10)) (by decide +kernel)
  have hW2 := hts (.constantLong RX8 114 (15)) (by decide +kernel)
  refine lv_iconst (v := nI (0)) hx hb dX8_sayPerson_0 (by decide +kernel) ?_
  refine lv_istore_n (lv' := [(2, .int (nI (0))), (0, .ref (a)), (1, .int (nI (p)))]) hx hb dX8_sayPerson_1 rfl hl (by decide) rfl (fun ls hl => ?_)
  have hP0 : va_P (dC, dI) vwCl (mW cI a o (f) (g) (mSy1 g p h (0))) H := by skip; exact hP
  have hD0 : va_D A (mW cI a o (f) (g) (mSy1 g p h (0))) := by skip; exact hD
  refine lp_rw (fun k : Nat => 26 - k) (fun k : Nat => k ≤ 26) (fun k : Nat => [(0, .ref (a)), (1, .int (nI (p))), (2, .int (nI (k)))]) (fun k : Nat => mW cI a o (f) (g) (mSy1 g p h (k))) (0) (by omega) hP0 hD0 hS (by show lv_has ls 3 [(0, .ref (a)), (1, .int (nI (p))), (2, .int (nI (0)))]; exact lv_sub hl [1, 2, 0] rfl) (fun k hI ih_2 H locs ls hP hD hS hl => ?_)
  have hP : va_P (dC, dI) vwCl (mW cI a o (f) (g) (mSy1 g p h (k))) H := hP
  have hD : va_D A (mW cI a o (f) (g) (mSy1 g p h (k))) := hD
  have hI : k ≤ 26 := hI
  have hl : lv_has ls 3 [(0, .ref (a)), (1, .int (nI (p))), (2, .int (nI (k)))] := hl
  refine lv_iload_n hx hb dX8_sayPerson_2 rfl (lv_at hl 2 rfl) ?_
  refine lv_bipush (v := nI (26)) hx hb dX8_sayPerson_3 (by decide +kernel) ?_
  refine lv_icmp_ge (tgt := 50) hx hb dX8_sayPerson_5 (by decide) (fun c_1 => ?_) (fun c_1 => ?_)
  · skip
    rw [nI_leI (a := 26) (b := k) (by omega) (by omega)] at c_1
    have hE : 26 = k := by omega
    subst hE
    refine lv_iconst (v := nI (0)) hx hb dX8_sayPerson_50 (by decide +kernel) ?_
    refine lv_istore_n (lv' := [(2, .int (nI (0))), (0, .ref (a)), (1, .int (nI (p)))]) hx hb dX8_sayPerson_51 rfl hl (by decide) rfl (fun ls hl => ?_)
    have hP0 : va_P (dC, dI) vwCl (mW cI a o (f) (g) (mSy2 g p (mSy1 g p h 26) (0))) H := by skip; exact hP
    have hD0 : va_D A (mW cI a o (f) (g) (mSy2 g p (mSy1 g p h 26) (0))) := by skip; exact hD
    refine lp_rw (fun k : Nat => k6 - k) (fun k : Nat => k ≤ k6) (fun k : Nat => [(0, .ref (a)), (1, .int (nI (p))), (2, .int (nI (k)))]) (fun k : Nat => mW cI a o (f) (g) (mSy2 g p (mSy1 g p h 26) (k))) (0) (by omega) hP0 hD0 hS (by show lv_has ls 3 [(0, .ref (a)), (1, .int (nI (p))), (2, .int (nI (0)))]; exact lv_sub hl [1, 2, 0] rfl) (fun k hI ih_52 H locs ls hP hD hS hl => ?_)
    have hP : va_P (dC, dI) vwCl (mW cI a o (f) (g) (mSy2 g p (mSy1 g p h 26) (k))) H := hP
    have hD : va_D A (mW cI a o (f) (g) (mSy2 g p (mSy1 g p h 26) (k))) := hD
    have hI : k ≤ k6 := hI
    have hl : lv_has ls 3 [(0, .ref (a)), (1, .int (nI (p))), (2, .int (nI (k)))] := hl
    refine lv_iload_n hx hb dX8_sayPerson_52 rfl (lv_at hl 2 rfl) ?_
    refine lv_aload_n hx hb dX8_sayPerson_53 rfl (lv_at hl 0 rfl) ?_
    refine va_get (D := (dC, dI)) (ci := 8) (v := .int (nI (k6))) (C := RX8) (T := TX8) (N := 25) hx hb hts hin8 hown hK hP 0 rfl rfl 6 (by decide) hW0 (fun _ h9 => h9) (congrArg (fun z => some (Value.int z)) e6) dX8_sayPerson_54 ?_
    refine lv_icmp_ge (tgt := 88) hx hb dX8_sayPerson_57 (by decide) (fun c_2 => ?_) (fun c_2 => ?_)
    · skip
      rw [nI_leI (a := k6) (b := k) (by omega) (by omega)] at c_2
      have hE : k6 = k := by omega
      subst hE
      have hP9 : va_P (dC, dI) vwCl (mW cI a o (f) (g) (mSy2 g p (mSy1 g p h 26) (k6))) H := hP
      exact W.vret hx hb hr (fun t ht hW => ⟨⟨(f, g, mSy2 g p (mSy1 g p h 26) (k6)), rfl, (by show ((f, g, mSy2 g p (mSy1 g p h 26) (k6)) : MSt) = (f, g, mSyP g k6 p h); rfl), by rw [ht]; exact hP9, va_K.moved hW.alike hK, hD⟩, hS.F ht⟩) hS.2.2 dX8_sayPerson_88
    · skip
      rw [nI_leI (a := k6) (b := k) (by omega) (by omega)] at c_2
      refine lv_aload_n hx hb dX8_sayPerson_60 rfl (lv_at hl 0 rfl) ?_
      refine lv_aload_n hx hb dX8_sayPerson_61 rfl (lv_at hl 0 rfl) ?_
      refine lv_iload_n hx hb dX8_sayPerson_62 rfl (lv_at hl 1 rfl) ?_
      refine lv_iload_n hx hb dX8_sayPerson_63 rfl (lv_at hl 2 rfl) ?_
      refine vp_callSi (va_Run.run (va_runV (As := [.int (nI (p)), .int (nI (k))]) (rest := [.ref (a)]) ⟨hx, hb, hml, hown, hts⟩ (c8_differOf l dC dI cI a o (f) (g) (mSy2 g p (mSy1 g p h 26) (k))   (p) (k) (by omega) (by omega)) (cwV 2 hts gX8_sayPerson_X8_differOf rfl rfl rfl (by decide +kernel) ⟨Nat.le_of_ble_eq_true rfl, Nat.le_of_ble_eq_true rfl⟩) ⟨fun a U g mk q => ⟨q.1, q.2.1, va_K.moved (u := U) (U := U.calling g mk a) (Vm.Alike.refl U.vm) q.2.2⟩, va_recv hK hP (ci := 8) (q0 := 0) rfl rfl, fun U hU hW => ⟨rfl, by rw [hU]; exact hP, va_K.moved hW.alike hK⟩⟩ rfl rfl hl.1 rfl (lv_room (Nat.le_of_ble_eq_true rfl)) dX8_sayPerson_64 ⟨Nat.le_of_ble_eq_true rfl, Nat.le_of_ble_eq_true rfl⟩)) (fun r hrc => ?_)
      have hrc : r = mDo (g) (p) (k) := hrc
      subst hrc
      refine lv_i2l hx hb dX8_sayPerson_67 rfl ?_
      have hPc := hP.sub (ws' := (mW cI a o (f) (g) (mSy2 g p (mSy1 g p h 26) (k)))) [0, 1, 2, 3, 4, 5, 6, 7, 8, 9, 10] rfl
      have hDc := hD.sub (ws' := (mW cI a o (f) (g) (mSy2 g p (mSy1 g p h 26) (k)))) [0, 1, 2, 3, 4, 5, 6, 7, 8, 9, 10] (by decide) rfl
      have hFc := va_free (wc := (mW cI a o (f) (g) (mSy2 g p (mSy1 g p h 26) (k)))) hD hS hA [0, 1, 2, 3, 4, 5, 6, 7, 8, 9, 10] rfl
      refine va_callv (va_runV (As := [.long ((mDo (g) (p) (k)).toInt64)]) (rest := []) ⟨hx, hb, hml, hown, hts⟩ (c8_say l dC dI cI a o (f) (g) (mSy2 g p (mSy1 g p h 26) (k)) H.size  ((mDo (g) (p) (k)).toInt64) ) (cwV 1 hts gX8_sayPerson_X8_say rfl rfl rfl (by decide +kernel) ⟨Nat.le_of_ble_eq_true rfl, Nat.le_of_ble_eq_true rfl⟩) ⟨fun a U g mk q => by obtain ⟨q0, q1, qP, qK, qD⟩ := q; exact ⟨q0, q1, qP, va_K.moved (u := U) (U := U.calling g mk a) (Vm.Alike.refl U.vm) qK, qD⟩, va_recv hK hP (ci := 8) (q0 := 0) rfl rfl, fun U hU hW => ⟨rfl, by rw [hU], by rw [hU]; exact hPc, va_K.moved hW.alike hK, hDc.weaken (fun _ _ _ _ => trivial)⟩⟩ rfl rfl hl.1 rfl (lv_room (Nat.le_of_ble_eq_true rfl)) dX8_sayPerson_68 ⟨Nat.le_of_ble_eq_true rfl, Nat.le_of_ble_eq_true rfl⟩) hS (fun q _ h => hFc q h) hFc (fun u t H1 locs ht hvm hw hB hz1 hk1 hS => ?_)
      have hw : u = ((f, g, 31 * (mSy2 g p (mSy1 g p h 26) (k)) + ((mDo (g) (p) (k)).toInt64)) : MSt) := hw
      subst hw
      obtain ⟨hP1, hK1, hD1⟩ := hB
      rw [ht] at hP1
      have hP1 : va_P (dC, dI) vwCl (mW cI a o (f) (g) (31 * (mSy2 g p (mSy1 g p h 26) (k)) + ((mDo (g) (p) (k)).toInt64))) H1 := hP1
      have hD1 : va_D _ (mW cI a o (f) (g) (31 * (mSy2 g p (mSy1 g p h 26) (k)) + ((mDo (g) (p) (k)).toInt64))) := hD1
      obtain ⟨hP, hD⟩ := va_join (wr := []) (w1 := mW cI a o (f) (g) (31 * (mSy2 g p (mSy1 g p h 26) (k)) + ((mDo (g) (p) (k)).toInt64))) hP hD [0, 1, 2, 3, 4, 5, 6, 7, 8, 9, 10] [] rfl rfl (by decide) (by decide) hk1 hFc hP1 hD1
      clear hP1 hD1 hK1 hPc hDc hFc hk1 hz1
      generalize H1 = H at hP hS ⊢
      have hP : va_P (dC, dI) vwCl (mW cI a o (f) (g) (31 * (mSy2 g p (mSy1 g p h 26) (k)) + ((mDo (g) (p) (k)).toInt64))) H := hP
      have hD : va_D A (mW cI a o (f) (g) (31 * (mSy2 g p (mSy1 g p h 26) (k)) + ((mDo (g) (p) (k)).toInt64))) := hD
      refine lv_aload_n hx hb dX8_sayPerson_71 rfl (lv_at hl 0 rfl) ?_
      refine lv_aload_n hx hb dX8_sayPerson_72 rfl (lv_at hl 0 rfl) ?_
      refine lv_iload_n hx hb dX8_sayPerson_73 rfl (lv_at hl 1 rfl) ?_
      refine lv_iload_n hx hb dX8_sayPerson_74 rfl (lv_at hl 2 rfl) ?_
      refine vp_callSi (va_Run.run (va_runV (As := [.int (nI (p)), .int (nI (k))]) (rest := [.ref (a)]) ⟨hx, hb, hml, hown, hts⟩ (c8_alikeOf l dC dI cI a o (f) (g) (31 * (mSy2 g p (mSy1 g p h 26) (k)) + ((mDo (g) (p) (k)).toInt64))   (p) (k) (by omega) (by omega)) (cwV 2 hts gX8_sayPerson_X8_alikeOf rfl rfl rfl (by decide +kernel) ⟨Nat.le_of_ble_eq_true rfl, Nat.le_of_ble_eq_true rfl⟩) ⟨fun a U g mk q => ⟨q.1, q.2.1, va_K.moved (u := U) (U := U.calling g mk a) (Vm.Alike.refl U.vm) q.2.2⟩, va_recv hK hP (ci := 8) (q0 := 0) rfl rfl, fun U hU hW => ⟨rfl, by rw [hU]; exact hP, va_K.moved hW.alike hK⟩⟩ rfl rfl hl.1 rfl (lv_room (Nat.le_of_ble_eq_true rfl)) dX8_sayPerson_75 ⟨Nat.le_of_ble_eq_true rfl, Nat.le_of_ble_eq_true rfl⟩)) (fun r hrc => ?_)
      have hrc : r = mAo (g) (p) (k) := hrc
      subst hrc
      refine lv_i2l hx hb dX8_sayPerson_78 rfl ?_
      have hPc := hP.sub (ws' := (mW cI a o (f) (g) (31 * (mSy2 g p (mSy1 g p h 26) (k)) + ((mDo (g) (p) (k)).toInt64)))) [0, 1, 2, 3, 4, 5, 6, 7, 8, 9, 10] rfl
      have hDc := hD.sub (ws' := (mW cI a o (f) (g) (31 * (mSy2 g p (mSy1 g p h 26) (k)) + ((mDo (g) (p) (k)).toInt64)))) [0, 1, 2, 3, 4, 5, 6, 7, 8, 9, 10] (by decide) rfl
      have hFc := va_free (wc := (mW cI a o (f) (g) (31 * (mSy2 g p (mSy1 g p h 26) (k)) + ((mDo (g) (p) (k)).toInt64)))) hD hS hA [0, 1, 2, 3, 4, 5, 6, 7, 8, 9, 10] rfl
      refine va_callv (va_runV (As := [.long ((mAo (g) (p) (k)).toInt64)]) (rest := []) ⟨hx, hb, hml, hown, hts⟩ (c8_say l dC dI cI a o (f) (g) (31 * (mSy2 g p (mSy1 g p h 26) (k)) + ((mDo (g) (p) (k)).toInt64)) H.size  ((mAo (g) (p) (k)).toInt64) ) (cwV 1 hts gX8_sayPerson_X8_say rfl rfl rfl (by decide +kernel) ⟨Nat.le_of_ble_eq_true rfl, Nat.le_of_ble_eq_true rfl⟩) ⟨fun a U g mk q => by obtain ⟨q0, q1, qP, qK, qD⟩ := q; exact ⟨q0, q1, qP, va_K.moved (u := U) (U := U.calling g mk a) (Vm.Alike.refl U.vm) qK, qD⟩, va_recv hK hP (ci := 8) (q0 := 0) rfl rfl, fun U hU hW => ⟨rfl, by rw [hU], by rw [hU]; exact hPc, va_K.moved hW.alike hK, hDc.weaken (fun _ _ _ _ => trivial)⟩⟩ rfl rfl hl.1 rfl (lv_room (Nat.le_of_ble_eq_true rfl)) dX8_sayPerson_79 ⟨Nat.le_of_ble_eq_true rfl, Nat.le_of_ble_eq_true rfl⟩) hS (fun q _ h => hFc q h) hFc (fun u t H1 locs ht hvm hw hB hz1 hk1 hS => ?_)
      have hw : u = ((f, g, 31 * (31 * (mSy2 g p (mSy1 g p h 26) (k)) + ((mDo (g) (p) (k)).toInt64)) + ((mAo (g) (p) (k)).toInt64)) : MSt) := hw
      subst hw
      obtain ⟨hP1, hK1, hD1⟩ := hB
      rw [ht] at hP1
      have hP1 : va_P (dC, dI) vwCl (mW cI a o (f) (g) (31 * (31 * (mSy2 g p (mSy1 g p h 26) (k)) + ((mDo (g) (p) (k)).toInt64)) + ((mAo (g) (p) (k)).toInt64))) H1 := hP1
      have hD1 : va_D _ (mW cI a o (f) (g) (31 * (31 * (mSy2 g p (mSy1 g p h 26) (k)) + ((mDo (g) (p) (k)).toInt64)) + ((mAo (g) (p) (k)).toInt64))) := hD1
      obtain ⟨hP, hD⟩ := va_join (wr := []) (w1 := mW cI a o (f) (g) (31 * (31 * (mSy2 g p (mSy1 g p h 26) (k)) + ((mDo (g) (p) (k)).toInt64)) + ((mAo (g) (p) (k)).toInt64))) hP hD [0, 1, 2, 3, 4, 5, 6, 7, 8, 9, 10] [] rfl rfl (by decide) (by decide) hk1 hFc hP1 hD1
      clear hP1 hD1 hK1 hPc hDc hFc hk1 hz1
      generalize H1 = H at hP hS ⊢
      have hP : va_P (dC, dI) vwCl (mW cI a o (f) (g) (31 * (31 * (mSy2 g p (mSy1 g p h 26) (k)) + ((mDo (g) (p) (k)).toInt64)) + ((mAo (g) (p) (k)).toInt64))) H := hP
      have hD : va_D A (mW cI a o (f) (g) (31 * (31 * (mSy2 g p (mSy1 g p h 26) (k)) + ((mDo (g) (p) (k)).toInt64)) + ((mAo (g) (p) (k)).toInt64))) := hD
      refine lv_iinc (v := nI (k + 1)) (lv' := [(2, .int (nI (k + 1))), (0, .ref (a)), (1, .int (nI (p)))]) hx hb dX8_sayPerson_82 hl (k := 2) rfl (nI_1 _) (by decide) rfl (fun ls hl => ?_)
      refine lv_goto (tgt := 52) hx hb dX8_sayPerson_85 (by decide) ?_
      have e2_0 : 31 * (31 * (mSy2 g p (mSy1 g p h 26) (k)) + ((mDo (g) (p) (k)).toInt64)) + ((mAo (g) (p) (k)).toInt64) = mSy2 g p (mSy1 g p h 26) (k + 1) := by rfl
      have hP : va_P (dC, dI) vwCl (mW cI a o (f) (g) (mSy2 g p (mSy1 g p h 26) (k + 1))) H := by rw [← e2_0]; exact hP
      have hD : va_D A (mW cI a o (f) (g) (mSy2 g p (mSy1 g p h 26) (k + 1))) := by rw [← e2_0]; exact hD
      exact ih_52 (k + 1) H locs ls (by show _ < _; omega) (by show _; omega) hP hD hS (by show lv_has ls 3 [(0, .ref (a)), (1, .int (nI (p))), (2, .int (nI ((k + 1))))]; exact lv_sub hl [1, 2, 0] rfl)
  · skip
    rw [nI_leI (a := 26) (b := k) (by omega) (by omega)] at c_1
    refine lv_iload_n hx hb dX8_sayPerson_8 rfl (lv_at hl 2 rfl) ?_
    refine lv_iconst (v := nI (4)) hx hb dX8_sayPerson_9 (by decide +kernel) ?_
    refine lv_icmp_lt (tgt := 33) hx hb dX8_sayPerson_10 (by decide) (fun c_3 => ?_) (fun c_3 => ?_)
    · skip
      rw [nI_ltI (a := k) (b := 4) (by omega) (by omega)] at c_3
      refine lv_aload_n hx hb dX8_sayPerson_33 rfl (lv_at hl 0 rfl) ?_
      refine lv_aload_n hx hb dX8_sayPerson_34 rfl (lv_at hl 0 rfl) ?_
      refine lv_iload_n hx hb dX8_sayPerson_35 rfl (lv_at hl 1 rfl) ?_
      refine lv_iload_n hx hb dX8_sayPerson_36 rfl (lv_at hl 2 rfl) ?_
      refine vp_callSi (va_Run.run (va_runV (As := [.int (nI (p)), .int (nI (k))]) (rest := [.ref (a)]) ⟨hx, hb, hml, hown, hts⟩ (c8_tell l dC dI cI a o (f) (g) (mSy1 g p h (k))  (nI (k)) (p) (by omega)) (cwV 2 hts gX8_sayPerson_X8_tell rfl rfl rfl (by decide +kernel) ⟨Nat.le_of_ble_eq_true rfl, Nat.le_of_ble_eq_true rfl⟩) ⟨fun a U g mk q => ⟨q.1, q.2.1, va_K.moved (u := U) (U := U.calling g mk a) (Vm.Alike.refl U.vm) q.2.2⟩, va_recv hK hP (ci := 8) (q0 := 0) rfl rfl, fun U hU hW => ⟨rfl, by rw [hU]; exact hP, va_K.moved hW.alike hK⟩⟩ rfl rfl hl.1 rfl (lv_room (Nat.le_of_ble_eq_true rfl)) dX8_sayPerson_37 ⟨Nat.le_of_ble_eq_true rfl, Nat.le_of_ble_eq_true rfl⟩)) (fun r hrc => ?_)
      have hrc : r = mTell (g) (p) (nI (k)) := hrc
      subst hrc
      refine lv_i2l hx hb dX8_sayPerson_40 rfl ?_
      have hPc := hP.sub (ws' := (mW cI a o (f) (g) (mSy1 g p h (k)))) [0, 1, 2, 3, 4, 5, 6, 7, 8, 9, 10] rfl
      have hDc := hD.sub (ws' := (mW cI a o (f) (g) (mSy1 g p h (k)))) [0, 1, 2, 3, 4, 5, 6, 7, 8, 9, 10] (by decide) rfl
      have hFc := va_free (wc := (mW cI a o (f) (g) (mSy1 g p h (k)))) hD hS hA [0, 1, 2, 3, 4, 5, 6, 7, 8, 9, 10] rfl
      refine va_callv (va_runV (As := [.long ((mTell (g) (p) (nI (k))).toInt64)]) (rest := []) ⟨hx, hb, hml, hown, hts⟩ (c8_say l dC dI cI a o (f) (g) (mSy1 g p h (k)) H.size  ((mTell (g) (p) (nI (k))).toInt64) ) (cwV 1 hts gX8_sayPerson_X8_say rfl rfl rfl (by decide +kernel) ⟨Nat.le_of_ble_eq_true rfl, Nat.le_of_ble_eq_true rfl⟩) ⟨fun a U g mk q => by obtain ⟨q0, q1, qP, qK, qD⟩ := q; exact ⟨q0, q1, qP, va_K.moved (u := U) (U := U.calling g mk a) (Vm.Alike.refl U.vm) qK, qD⟩, va_recv hK hP (ci := 8) (q0 := 0) rfl rfl, fun U hU hW => ⟨rfl, by rw [hU], by rw [hU]; exact hPc, va_K.moved hW.alike hK, hDc.weaken (fun _ _ _ _ => trivial)⟩⟩ rfl rfl hl.1 rfl (lv_room (Nat.le_of_ble_eq_true rfl)) dX8_sayPerson_41 ⟨Nat.le_of_ble_eq_true rfl, Nat.le_of_ble_eq_true rfl⟩) hS (fun q _ h => hFc q h) hFc (fun u t H1 locs ht hvm hw hB hz1 hk1 hS => ?_)
      have hw : u = ((f, g, 31 * (mSy1 g p h (k)) + ((mTell (g) (p) (nI (k))).toInt64)) : MSt) := hw
      subst hw
      obtain ⟨hP1, hK1, hD1⟩ := hB
      rw [ht] at hP1
      have hP1 : va_P (dC, dI) vwCl (mW cI a o (f) (g) (31 * (mSy1 g p h (k)) + ((mTell (g) (p) (nI (k))).toInt64))) H1 := hP1
      have hD1 : va_D _ (mW cI a o (f) (g) (31 * (mSy1 g p h (k)) + ((mTell (g) (p) (nI (k))).toInt64))) := hD1
      obtain ⟨hP, hD⟩ := va_join (wr := []) (w1 := mW cI a o (f) (g) (31 * (mSy1 g p h (k)) + ((mTell (g) (p) (nI (k))).toInt64))) hP hD [0, 1, 2, 3, 4, 5, 6, 7, 8, 9, 10] [] rfl rfl (by decide) (by decide) hk1 hFc hP1 hD1
      clear hP1 hD1 hK1 hPc hDc hFc hk1 hz1
      generalize H1 = H at hP hS ⊢
      have hP : va_P (dC, dI) vwCl (mW cI a o (f) (g) (31 * (mSy1 g p h (k)) + ((mTell (g) (p) (nI (k))).toInt64))) H := hP
      have hD : va_D A (mW cI a o (f) (g) (31 * (mSy1 g p h (k)) + ((mTell (g) (p) (nI (k))).toInt64))) := hD
      refine lv_iinc (v := nI (k + 1)) (lv' := [(2, .int (nI (k + 1))), (0, .ref (a)), (1, .int (nI (p)))]) hx hb dX8_sayPerson_44 hl (k := 2) rfl (nI_1 _) (by decide) rfl (fun ls hl => ?_)
      refine lv_goto (tgt := 2) hx hb dX8_sayPerson_47 (by decide) ?_
      have e2_0 : 31 * (mSy1 g p h (k)) + ((mTell (g) (p) (nI (k))).toInt64) = mSy1 g p h (k + 1) := by rw [mSy1]; first | (rw [if_pos (by omega)]; done) | (rw [if_neg (by omega)]; done)
      have hP : va_P (dC, dI) vwCl (mW cI a o (f) (g) (mSy1 g p h (k + 1))) H := by rw [← e2_0]; exact hP
      have hD : va_D A (mW cI a o (f) (g) (mSy1 g p h (k + 1))) := by rw [← e2_0]; exact hD
      exact ih_2 (k + 1) H locs ls (by show _ < _; omega) (by show _; omega) hP hD hS (by show lv_has ls 3 [(0, .ref (a)), (1, .int (nI (p))), (2, .int (nI ((k + 1))))]; exact lv_sub hl [1, 2, 0] rfl)
    · skip
      rw [nI_ltI (a := k) (b := 4) (by omega) (by omega)] at c_3
      refine lv_iload_n hx hb dX8_sayPerson_13 rfl (lv_at hl 2 rfl) ?_
      refine lv_i2l hx hb dX8_sayPerson_14 rfl ?_
      refine lv_ldc2 (v := 10) hx hb hown hW1 dX8_sayPerson_15 ?_
      refine lv_ldc2 (v := 15) hx hb hown hW2 dX8_sayPerson_18 ?_
      refine vp_callSi (va_Run.run (va_runS (As := [.long ((nI (k)).toInt64), .long (10), .long (15)]) (rest := []) ⟨hx, hb, hml, hown, hts⟩ (c8_in l (nI (k)) (10) (15) (10) (15) rfl rfl) (va_cwS 3 hts gX8_sayPerson_X8_in rfl rfl rfl (by decide +kernel) ⟨Nat.le_of_ble_eq_true rfl, Nat.le_of_ble_eq_true rfl⟩) ⟨fun _ _ _ _ q => q, fun U hU hW => ⟨rfl, trivial⟩⟩ rfl rfl hl.1 rfl (lv_room (Nat.le_of_ble_eq_true rfl)) dX8_sayPerson_21 ⟨Nat.le_of_ble_eq_true rfl, Nat.le_of_ble_eq_true rfl⟩)) (fun r hrc => ?_)
      have hrc : r = b2i ((10) ≤ (nI (k)).toInt ∧ (nI (k)).toInt ≤ (15)) := hrc
      subst hrc
      refine lv_if_ne (tgt := 33) hx hb dX8_sayPerson_24 (by decide) (fun c_4 => ?_) (fun c_4 => ?_)
      · skip
        have c_4 := b2i_1 c_4
        rw [tn (n := k) (by omega)] at c_4
        refine lv_aload_n hx hb dX8_sayPerson_33 rfl (lv_at hl 0 rfl) ?_
        refine lv_aload_n hx hb dX8_sayPerson_34 rfl (lv_at hl 0 rfl) ?_
        refine lv_iload_n hx hb dX8_sayPerson_35 rfl (lv_at hl 1 rfl) ?_
        refine lv_iload_n hx hb dX8_sayPerson_36 rfl (lv_at hl 2 rfl) ?_
        refine vp_callSi (va_Run.run (va_runV (As := [.int (nI (p)), .int (nI (k))]) (rest := [.ref (a)]) ⟨hx, hb, hml, hown, hts⟩ (c8_tell l dC dI cI a o (f) (g) (mSy1 g p h (k))  (nI (k)) (p) (by omega)) (cwV 2 hts gX8_sayPerson_X8_tell rfl rfl rfl (by decide +kernel) ⟨Nat.le_of_ble_eq_true rfl, Nat.le_of_ble_eq_true rfl⟩) ⟨fun a U g mk q => ⟨q.1, q.2.1, va_K.moved (u := U) (U := U.calling g mk a) (Vm.Alike.refl U.vm) q.2.2⟩, va_recv hK hP (ci := 8) (q0 := 0) rfl rfl, fun U hU hW => ⟨rfl, by rw [hU]; exact hP, va_K.moved hW.alike hK⟩⟩ rfl rfl hl.1 rfl (lv_room (Nat.le_of_ble_eq_true rfl)) dX8_sayPerson_37 ⟨Nat.le_of_ble_eq_true rfl, Nat.le_of_ble_eq_true rfl⟩)) (fun r hrc => ?_)
        have hrc : r = mTell (g) (p) (nI (k)) := hrc
        subst hrc
        refine lv_i2l hx hb dX8_sayPerson_40 rfl ?_
        have hPc := hP.sub (ws' := (mW cI a o (f) (g) (mSy1 g p h (k)))) [0, 1, 2, 3, 4, 5, 6, 7, 8, 9, 10] rfl
        have hDc := hD.sub (ws' := (mW cI a o (f) (g) (mSy1 g p h (k)))) [0, 1, 2, 3, 4, 5, 6, 7, 8, 9, 10] (by decide) rfl
        have hFc := va_free (wc := (mW cI a o (f) (g) (mSy1 g p h (k)))) hD hS hA [0, 1, 2, 3, 4, 5, 6, 7, 8, 9, 10] rfl
        refine va_callv (va_runV (As := [.long ((mTell (g) (p) (nI (k))).toInt64)]) (rest := []) ⟨hx, hb, hml, hown, hts⟩ (c8_say l dC dI cI a o (f) (g) (mSy1 g p h (k)) H.size  ((mTell (g) (p) (nI (k))).toInt64) ) (cwV 1 hts gX8_sayPerson_X8_say rfl rfl rfl (by decide +kernel) ⟨Nat.le_of_ble_eq_true rfl, Nat.le_of_ble_eq_true rfl⟩) ⟨fun a U g mk q => by obtain ⟨q0, q1, qP, qK, qD⟩ := q; exact ⟨q0, q1, qP, va_K.moved (u := U) (U := U.calling g mk a) (Vm.Alike.refl U.vm) qK, qD⟩, va_recv hK hP (ci := 8) (q0 := 0) rfl rfl, fun U hU hW => ⟨rfl, by rw [hU], by rw [hU]; exact hPc, va_K.moved hW.alike hK, hDc.weaken (fun _ _ _ _ => trivial)⟩⟩ rfl rfl hl.1 rfl (lv_room (Nat.le_of_ble_eq_true rfl)) dX8_sayPerson_41 ⟨Nat.le_of_ble_eq_true rfl, Nat.le_of_ble_eq_true rfl⟩) hS (fun q _ h => hFc q h) hFc (fun u t H1 locs ht hvm hw hB hz1 hk1 hS => ?_)
        have hw : u = ((f, g, 31 * (mSy1 g p h (k)) + ((mTell (g) (p) (nI (k))).toInt64)) : MSt) := hw
        subst hw
        obtain ⟨hP1, hK1, hD1⟩ := hB
        rw [ht] at hP1
        have hP1 : va_P (dC, dI) vwCl (mW cI a o (f) (g) (31 * (mSy1 g p h (k)) + ((mTell (g) (p) (nI (k))).toInt64))) H1 := hP1
        have hD1 : va_D _ (mW cI a o (f) (g) (31 * (mSy1 g p h (k)) + ((mTell (g) (p) (nI (k))).toInt64))) := hD1
        obtain ⟨hP, hD⟩ := va_join (wr := []) (w1 := mW cI a o (f) (g) (31 * (mSy1 g p h (k)) + ((mTell (g) (p) (nI (k))).toInt64))) hP hD [0, 1, 2, 3, 4, 5, 6, 7, 8, 9, 10] [] rfl rfl (by decide) (by decide) hk1 hFc hP1 hD1
        clear hP1 hD1 hK1 hPc hDc hFc hk1 hz1
        generalize H1 = H at hP hS ⊢
        have hP : va_P (dC, dI) vwCl (mW cI a o (f) (g) (31 * (mSy1 g p h (k)) + ((mTell (g) (p) (nI (k))).toInt64))) H := hP
        have hD : va_D A (mW cI a o (f) (g) (31 * (mSy1 g p h (k)) + ((mTell (g) (p) (nI (k))).toInt64))) := hD
        refine lv_iinc (v := nI (k + 1)) (lv' := [(2, .int (nI (k + 1))), (0, .ref (a)), (1, .int (nI (p)))]) hx hb dX8_sayPerson_44 hl (k := 2) rfl (nI_1 _) (by decide) rfl (fun ls hl => ?_)
        refine lv_goto (tgt := 2) hx hb dX8_sayPerson_47 (by decide) ?_
        have e2_0 : 31 * (mSy1 g p h (k)) + ((mTell (g) (p) (nI (k))).toInt64) = mSy1 g p h (k + 1) := by rw [mSy1]; first | (rw [if_pos (by omega)]; done) | (rw [if_neg (by omega)]; done)
        have hP : va_P (dC, dI) vwCl (mW cI a o (f) (g) (mSy1 g p h (k + 1))) H := by rw [← e2_0]; exact hP
        have hD : va_D A (mW cI a o (f) (g) (mSy1 g p h (k + 1))) := by rw [← e2_0]; exact hD
        exact ih_2 (k + 1) H locs ls (by show _ < _; omega) (by show _; omega) hP hD hS (by show lv_has ls 3 [(0, .ref (a)), (1, .int (nI (p))), (2, .int (nI ((k + 1))))]; exact lv_sub hl [1, 2, 0] rfl)
      · skip
        have c_4 := b2i_0 c_4
        rw [tn (n := k) (by omega)] at c_4
        refine lv_iload_n hx hb dX8_sayPerson_27 rfl (lv_at hl 2 rfl) ?_
        refine lv_bipush (v := nI (19)) hx hb dX8_sayPerson_28 (by decide +kernel) ?_
        refine lv_icmp_le (tgt := 44) hx hb dX8_sayPerson_30 (by decide) (fun c_5 => ?_) (fun c_5 => ?_)
        · skip
          rw [nI_leI (a := k) (b := 19) (by omega) (by omega)] at c_5
          refine lv_iinc (v := nI (k + 1)) (lv' := [(2, .int (nI (k + 1))), (0, .ref (a)), (1, .int (nI (p)))]) hx hb dX8_sayPerson_44 hl (k := 2) rfl (nI_1 _) (by decide) rfl (fun ls hl => ?_)
          refine lv_goto (tgt := 2) hx hb dX8_sayPerson_47 (by decide) ?_
          have e2_0 : mSy1 g p h (k) = mSy1 g p h (k + 1) := by rw [mSy1]; first | (rw [if_pos (by omega)]; done) | (rw [if_neg (by omega)]; done)
          have hP : va_P (dC, dI) vwCl (mW cI a o (f) (g) (mSy1 g p h (k + 1))) H := by rw [← e2_0]; exact hP
          have hD : va_D A (mW cI a o (f) (g) (mSy1 g p h (k + 1))) := by rw [← e2_0]; exact hD
          exact ih_2 (k + 1) H locs ls (by show _ < _; omega) (by show _; omega) hP hD hS (by show lv_has ls 3 [(0, .ref (a)), (1, .int (nI (p))), (2, .int (nI ((k + 1))))]; exact lv_sub hl [1, 2, 0] rfl)
        · skip
          rw [nI_leI (a := k) (b := 19) (by omega) (by omega)] at c_5
          refine lv_aload_n hx hb dX8_sayPerson_33 rfl (lv_at hl 0 rfl) ?_
          refine lv_aload_n hx hb dX8_sayPerson_34 rfl (lv_at hl 0 rfl) ?_
          refine lv_iload_n hx hb dX8_sayPerson_35 rfl (lv_at hl 1 rfl) ?_
          refine lv_iload_n hx hb dX8_sayPerson_36 rfl (lv_at hl 2 rfl) ?_
          refine vp_callSi (va_Run.run (va_runV (As := [.int (nI (p)), .int (nI (k))]) (rest := [.ref (a)]) ⟨hx, hb, hml, hown, hts⟩ (c8_tell l dC dI cI a o (f) (g) (mSy1 g p h (k))  (nI (k)) (p) (by omega)) (cwV 2 hts gX8_sayPerson_X8_tell rfl rfl rfl (by decide +kernel) ⟨Nat.le_of_ble_eq_true rfl, Nat.le_of_ble_eq_true rfl⟩) ⟨fun a U g mk q => ⟨q.1, q.2.1, va_K.moved (u := U) (U := U.calling g mk a) (Vm.Alike.refl U.vm) q.2.2⟩, va_recv hK hP (ci := 8) (q0 := 0) rfl rfl, fun U hU hW => ⟨rfl, by rw [hU]; exact hP, va_K.moved hW.alike hK⟩⟩ rfl rfl hl.1 rfl (lv_room (Nat.le_of_ble_eq_true rfl)) dX8_sayPerson_37 ⟨Nat.le_of_ble_eq_true rfl, Nat.le_of_ble_eq_true rfl⟩)) (fun r hrc => ?_)
          have hrc : r = mTell (g) (p) (nI (k)) := hrc
          subst hrc
          refine lv_i2l hx hb dX8_sayPerson_40 rfl ?_
          have hPc := hP.sub (ws' := (mW cI a o (f) (g) (mSy1 g p h (k)))) [0, 1, 2, 3, 4, 5, 6, 7, 8, 9, 10] rfl
          have hDc := hD.sub (ws' := (mW cI a o (f) (g) (mSy1 g p h (k)))) [0, 1, 2, 3, 4, 5, 6, 7, 8, 9, 10] (by decide) rfl
          have hFc := va_free (wc := (mW cI a o (f) (g) (mSy1 g p h (k)))) hD hS hA [0, 1, 2, 3, 4, 5, 6, 7, 8, 9, 10] rfl
          refine va_callv (va_runV (As := [.long ((mTell (g) (p) (nI (k))).toInt64)]) (rest := []) ⟨hx, hb, hml, hown, hts⟩ (c8_say l dC dI cI a o (f) (g) (mSy1 g p h (k)) H.size  ((mTell (g) (p) (nI (k))).toInt64) ) (cwV 1 hts gX8_sayPerson_X8_say rfl rfl rfl (by decide +kernel) ⟨Nat.le_of_ble_eq_true rfl, Nat.le_of_ble_eq_true rfl⟩) ⟨fun a U g mk q => by obtain ⟨q0, q1, qP, qK, qD⟩ := q; exact ⟨q0, q1, qP, va_K.moved (u := U) (U := U.calling g mk a) (Vm.Alike.refl U.vm) qK, qD⟩, va_recv hK hP (ci := 8) (q0 := 0) rfl rfl, fun U hU hW => ⟨rfl, by rw [hU], by rw [hU]; exact hPc, va_K.moved hW.alike hK, hDc.weaken (fun _ _ _ _ => trivial)⟩⟩ rfl rfl hl.1 rfl (lv_room (Nat.le_of_ble_eq_true rfl)) dX8_sayPerson_41 ⟨Nat.le_of_ble_eq_true rfl, Nat.le_of_ble_eq_true rfl⟩) hS (fun q _ h => hFc q h) hFc (fun u t H1 locs ht hvm hw hB hz1 hk1 hS => ?_)
          have hw : u = ((f, g, 31 * (mSy1 g p h (k)) + ((mTell (g) (p) (nI (k))).toInt64)) : MSt) := hw
          subst hw
          obtain ⟨hP1, hK1, hD1⟩ := hB
          rw [ht] at hP1
          have hP1 : va_P (dC, dI) vwCl (mW cI a o (f) (g) (31 * (mSy1 g p h (k)) + ((mTell (g) (p) (nI (k))).toInt64))) H1 := hP1
          have hD1 : va_D _ (mW cI a o (f) (g) (31 * (mSy1 g p h (k)) + ((mTell (g) (p) (nI (k))).toInt64))) := hD1
          obtain ⟨hP, hD⟩ := va_join (wr := []) (w1 := mW cI a o (f) (g) (31 * (mSy1 g p h (k)) + ((mTell (g) (p) (nI (k))).toInt64))) hP hD [0, 1, 2, 3, 4, 5, 6, 7, 8, 9, 10] [] rfl rfl (by decide) (by decide) hk1 hFc hP1 hD1
          clear hP1 hD1 hK1 hPc hDc hFc hk1 hz1
          generalize H1 = H at hP hS ⊢
          have hP : va_P (dC, dI) vwCl (mW cI a o (f) (g) (31 * (mSy1 g p h (k)) + ((mTell (g) (p) (nI (k))).toInt64))) H := hP
          have hD : va_D A (mW cI a o (f) (g) (31 * (mSy1 g p h (k)) + ((mTell (g) (p) (nI (k))).toInt64))) := hD
          refine lv_iinc (v := nI (k + 1)) (lv' := [(2, .int (nI (k + 1))), (0, .ref (a)), (1, .int (nI (p)))]) hx hb dX8_sayPerson_44 hl (k := 2) rfl (nI_1 _) (by decide) rfl (fun ls hl => ?_)
          refine lv_goto (tgt := 2) hx hb dX8_sayPerson_47 (by decide) ?_
          have e2_0 : 31 * (mSy1 g p h (k)) + ((mTell (g) (p) (nI (k))).toInt64) = mSy1 g p h (k + 1) := by rw [mSy1]; first | (rw [if_pos (by omega)]; done) | (rw [if_neg (by omega)]; done)
          have hP : va_P (dC, dI) vwCl (mW cI a o (f) (g) (mSy1 g p h (k + 1))) H := by rw [← e2_0]; exact hP
          have hD : va_D A (mW cI a o (f) (g) (mSy1 g p h (k + 1))) := by rw [← e2_0]; exact hD
          exact ih_2 (k + 1) H locs ls (by show _ < _; omega) (by show _; omega) hP hD hS (by show lv_has ls 3 [(0, .ref (a)), (1, .int (nI (p))), (2, .int (nI ((k + 1))))]; exact lv_sub hl [1, 2, 0] rfl)
