set_option maxHeartbeats 1200000 in
set_option maxRecDepth 100000 in
theorem c7_newPerson (l : Launch) (dC : Nat → ClassId) (dI : Nat → Nat → Nat) (tys : List (ClassId × FieldType)) (k : Nat) (hk : k < 5) (sz : Nat) : Met l yX7_newPerson wsX7_newPerson ({ frames := 4, cells := 1, slots := 6, locals := 80 } : Room) (va_Pc [.int (nI (k))] (fun U => U.heap.size = sz ∧ va_P (dC, dI) vwCl ([] : va_W) U.heap ∧ va_K (dC, dI) vwCl tys U ∧ xN U ∧ va_D (fun _ => True) (([] : va_W)))) (va_Qr (fun (u : Nat → Int32) => u = xIni (fun _ => 0)) (fun u ra t => va_P (dC, dI) vwCl [(ra, .inr (kc k, pF u))] t.heap ∧ va_K (dC, dI) vwCl tys t ∧ va_D (va_A ([] : va_W) sz) [(ra, .inr (kc k, pF u))]) (va_A ([] : va_W) sz)) 1 6 (va_A ([] : va_W) sz) := by
  refine Met.ofW (cc := cX7_newPerson) (maxL := 1) (ret := (some (.object "EachEye$Person"))) (by decide) rfl ?_
  intro p_ e_ s m args below meth c_0 s₁ B hml hv
  obtain ⟨rfl, hsz, hP, hK, hN, hD0⟩ := hv
  have hx := B.exec
  have hb := B.bytes
  have hr := B.returns
  have hts := atoms_spec (ws := wsX7_newPerson) B.pre
  have hown : s.vm.findClass RX7 = some m.cls := findClass_of_methodNamed B.named
  have hlocks := B.notSynchronized
  subst hsz
  have hD := hD0.self (sz := s.heap.size)
  generalize hAe : va_A (([] : va_W)) s.heap.size = A at hD ⊢
  have hA : ∀ q : Nat, s.heap.size ≤ q → A q := fun q h => by rw [← hAe]; exact Or.inr h
  obtain ⟨H, hHe⟩ : ∃ H : Heap, H = s.heap := ⟨_, rfl⟩
  have hS : va_S A s.heap H [] := by rw [hHe]; exact va_S.rf
  rw [← hHe] at hP ⊢
  have hP : va_P (dC, dI) vwCl (([] : va_W)) H := hP
  have hl := lv_entry ([.int (nI (k))]) (n := 1) (Nat.le_of_ble_eq_true rfl)
  rw [lg_entry_eq]
  generalize (lg_sl ([.int (nI (k))]) ++ List.replicate (1 - (lg_sl ([.int (nI (k))])).length) Slot.unset).toArray = ls at hl ⊢
  have hl : lv_has ls 1 [(0, .int (nI (k)))] := hl
  have hin0 : ∀ w ∈ wsX00, w ∈ wsX7_newPerson := fun _ h => List.mem_cons_of_mem _ (List.mem_append_left _ (List.mem_append_left _ (List.mem_append_left _ (List.mem_append_left _ (List.mem_append_right _ h)))))
  have hin2 : ∀ w ∈ wsX20, w ∈ wsX7_newPerson := fun _ h => List.mem_cons_of_mem _ (List.mem_append_left _ (List.mem_append_left _ (List.mem_append_left _ (List.mem_append_right _ h))))
  have hin4 : ∀ w ∈ wsX40, w ∈ wsX7_newPerson := fun _ h => List.mem_cons_of_mem _ (List.mem_append_right _ h)
  have hin5 : ∀ w ∈ wsX50, w ∈ wsX7_newPerson := fun _ h => List.mem_cons_of_mem _ (List.mem_append_left _ (List.mem_append_right _ h))
  have hin6 : ∀ w ∈ wsX60, w ∈ wsX7_newPerson := fun _ h => List.mem_cons_of_mem _ (List.mem_append_left _ (List.mem_append_left _ (List.mem_append_right _ h)))
  have hW0 := hts (.classLink RX7 223 "EachEye$Arguer") (by decide +kernel)
  have hW1 := hts (.instantiable RX0 6) (by decide +kernel)
  have hW2 := hts (.initialized RX0) (by decide +kernel)
  have hW3 := hts (.instanceMethod yX0_init) (by decide +kernel)
  have hW4 := hts (.classLink RX7 226 "EachEye$Old") (by decide +kernel)
  have hW5 := hts (.instantiable RX2 6) (by decide +kernel)
  have hW6 := hts (.initialized RX2) (by decide +kernel)
  have hW7 := hts (.instanceMethod yX2_init) (by decide +kernel)
  have hW8 := hts (.classLink RX7 229 "EachEye$Winker") (by decide +kernel)
  have hW9 := hts (.instantiable RX6 6) (by decide +kernel)
  have hW10 := hts (.initialized RX6) (by decide +kernel)
  have hW11 := hts (.instanceMethod yX6_init) (by decide +kernel)
  have hW12 := hts (.classLink RX7 232 "EachEye$Spy") (by decide +kernel)
  have hW13 := hts (.instantiable RX5 6) (by decide +kernel)
  have hW14 := hts (.initialized RX5) (by decide +kernel)
  have hW15 := hts (.instanceMethod yX5_init) (by decide +kernel)
  have hW16 := hts (.classLink RX7 16 "EachEye$Person") (by decide +kernel)
  have hW17 := hts (.instantiable RX4 6) (by decide +kernel)
  have hW18 := hts (.initialized RX4) (by decide +kernel)
  have hW19 := hts (.instanceMethod yX4_init) (by decide +kernel)
  refine lv_iload_n hx hb dX7_newPerson_0 rfl (lv_at hl 0 rfl) ?_
  by_cases c_1 : (nI (k)).toInt = 1
  · skip
    refine lv_tableIn (tgt := 32) hx hb dX7_newPerson_1 (by omega) (by omega) (by rw [c_1]; rfl) (by decide) ?_
    rw [tn (n := k) (by omega)] at c_1
    have hk9 : k = 1 := by omega
    subst hk9
    refine va_new (ci := 0) (C := RX0) (T := TX0) (N := 6) (fs := pF (fun _ => 0)) hx hb hts hin0 tyX0 tyX0_ok hown hW0 hW1 hW2 hK hP hD hS hA rfl (by decide +kernel) (Nat.le_of_ble_eq_true rfl) (Nat.le_of_ble_eq_true rfl) dX7_newPerson_32 (fun qn H hP hD hS => ?_)
    have hP : va_P (dC, dI) vwCl ([(qn, .inr (kc 1, pF (fun _ => 0)))]) H := hP
    have hD : va_D A ([(qn, .inr (kc 1, pF (fun _ => 0)))]) := hD
    refine lv_dup hx hb dX7_newPerson_35 rfl ?_
    have hFc : ∀ q, va_A ([(qn, .inr (kc 1, pF (fun _ => 0)))]) H.size q → A q := fun q h => h.elim (fun ⟨j, e, hj⟩ => hD.2 j (q, e) hj) (fun h => hA q (Nat.le_trans hS.1 h))
    refine va_callv (va_runIN (As := []) (rest := [.ref (qn)]) ⟨hx, hb, hml, hown, hts⟩ (c0_init l dC dI tys ([(qn, .inr (kc 1, pF (fun _ => 0)))]) 0 qn (k := 1) (by decide) (fun _ => 0) rfl H.size) ⟨va_cnB 0 hts gX7_newPerson_X0_init_n225 rfl rfl rfl (hN.1 _ (List.mem_of_getElem? (i := 5) rfl)) hW2 (by decide +kernel) ⟨Nat.le_of_ble_eq_true rfl, Nat.le_of_ble_eq_true rfl⟩, rfl, hW3⟩ ⟨fun a U g mk q => by obtain ⟨q0, q1, qP, qK, qN, qD⟩ := q; exact ⟨q0, q1, qP, va_K.moved (u := U) (U := U.calling g mk a) (Vm.Alike.refl U.vm) qK, xN.same (u := U) (U := U.calling g mk a) rfl qN, qD⟩, fun U hU hW => ⟨rfl, by rw [hU], by rw [hU]; exact hP, va_K.moved hW.alike hK, xN.warm hW hN, hD.weaken (fun _ _ _ _ => trivial)⟩⟩ rfl rfl hl.1 rfl (lv_room (Nat.le_of_ble_eq_true rfl)) dX7_newPerson_36 ⟨Nat.le_of_ble_eq_true rfl, Nat.le_of_ble_eq_true rfl⟩) hS (fun q _ h => hFc q h) hFc (fun u t H1 locs ht hvm hw hB hz1 hk1 hS => ?_)
    have hw : u = xIni (fun _ => 0) := hw
    subst hw
    obtain ⟨hP1, hK1, hD1⟩ := hB
    rw [ht] at hP1
    have hP : va_P (dC, dI) vwCl ([(qn, .inr (kc 1, pF (xIni (fun _ => 0))))]) H1 := hP1
    have hD : va_D A ([(qn, .inr (kc 1, pF (xIni (fun _ => 0))))]) := hD1.weaken (fun _ _ _ h => hFc _ h)
    exact W.aret (v := .ref (qn)) hx hb hr (Or.inl ⟨_, rfl⟩) (Or.inr ⟨_, rfl⟩) (fun t ht hW => ⟨⟨xIni (fun _ => 0), qn, rfl, rfl, by rw [ht]; exact hP, va_K.moved hW.alike hK, hD⟩, hS.F ht⟩) hS.2.2 dX7_newPerson_39
  · skip
    by_cases c_2 : (nI (k)).toInt = 2
    · skip
      refine lv_tableIn (tgt := 40) hx hb dX7_newPerson_1 (by omega) (by omega) (by rw [c_2]; rfl) (by decide) ?_
      rw [tn (n := k) (by omega)] at c_1
      rw [tn (n := k) (by omega)] at c_2
      have hk9 : k = 2 := by omega
      subst hk9
      refine va_new (ci := 2) (C := RX2) (T := TX2) (N := 6) (fs := pF (fun _ => 0)) hx hb hts hin2 tyX2 tyX2_ok hown hW4 hW5 hW6 hK hP hD hS hA rfl (by decide +kernel) (Nat.le_of_ble_eq_true rfl) (Nat.le_of_ble_eq_true rfl) dX7_newPerson_40 (fun qn H hP hD hS => ?_)
      have hP : va_P (dC, dI) vwCl ([(qn, .inr (kc 2, pF (fun _ => 0)))]) H := hP
      have hD : va_D A ([(qn, .inr (kc 2, pF (fun _ => 0)))]) := hD
      refine lv_dup hx hb dX7_newPerson_43 rfl ?_
      have hFc : ∀ q, va_A ([(qn, .inr (kc 2, pF (fun _ => 0)))]) H.size q → A q := fun q h => h.elim (fun ⟨j, e, hj⟩ => hD.2 j (q, e) hj) (fun h => hA q (Nat.le_trans hS.1 h))
      refine va_callv (va_runIN (As := []) (rest := [.ref (qn)]) ⟨hx, hb, hml, hown, hts⟩ (c2_init l dC dI tys ([(qn, .inr (kc 2, pF (fun _ => 0)))]) 0 qn (k := 2) (by decide) (fun _ => 0) rfl H.size) ⟨va_cnB 0 hts gX7_newPerson_X2_init_n228 rfl rfl rfl (hN.1 _ (List.mem_of_getElem? (i := 7) rfl)) hW6 (by decide +kernel) ⟨Nat.le_of_ble_eq_true rfl, Nat.le_of_ble_eq_true rfl⟩, rfl, hW7⟩ ⟨fun a U g mk q => by obtain ⟨q0, q1, qP, qK, qN, qD⟩ := q; exact ⟨q0, q1, qP, va_K.moved (u := U) (U := U.calling g mk a) (Vm.Alike.refl U.vm) qK, xN.same (u := U) (U := U.calling g mk a) rfl qN, qD⟩, fun U hU hW => ⟨rfl, by rw [hU], by rw [hU]; exact hP, va_K.moved hW.alike hK, xN.warm hW hN, hD.weaken (fun _ _ _ _ => trivial)⟩⟩ rfl rfl hl.1 rfl (lv_room (Nat.le_of_ble_eq_true rfl)) dX7_newPerson_44 ⟨Nat.le_of_ble_eq_true rfl, Nat.le_of_ble_eq_true rfl⟩) hS (fun q _ h => hFc q h) hFc (fun u t H1 locs ht hvm hw hB hz1 hk1 hS => ?_)
      have hw : u = xIni (fun _ => 0) := hw
      subst hw
      obtain ⟨hP1, hK1, hD1⟩ := hB
      rw [ht] at hP1
      have hP : va_P (dC, dI) vwCl ([(qn, .inr (kc 2, pF (xIni (fun _ => 0))))]) H1 := hP1
      have hD : va_D A ([(qn, .inr (kc 2, pF (xIni (fun _ => 0))))]) := hD1.weaken (fun _ _ _ h => hFc _ h)
      exact W.aret (v := .ref (qn)) hx hb hr (Or.inl ⟨_, rfl⟩) (Or.inr ⟨_, rfl⟩) (fun t ht hW => ⟨⟨xIni (fun _ => 0), qn, rfl, rfl, by rw [ht]; exact hP, va_K.moved hW.alike hK, hD⟩, hS.F ht⟩) hS.2.2 dX7_newPerson_47
    · skip
      by_cases c_3 : (nI (k)).toInt = 3
      · skip
        refine lv_tableIn (tgt := 48) hx hb dX7_newPerson_1 (by omega) (by omega) (by rw [c_3]; rfl) (by decide) ?_
        rw [tn (n := k) (by omega)] at c_1
        rw [tn (n := k) (by omega)] at c_2
        rw [tn (n := k) (by omega)] at c_3
        have hk9 : k = 3 := by omega
        subst hk9
        refine va_new (ci := 6) (C := RX6) (T := TX6) (N := 6) (fs := pF (fun _ => 0)) hx hb hts hin6 tyX6 tyX6_ok hown hW8 hW9 hW10 hK hP hD hS hA rfl (by decide +kernel) (Nat.le_of_ble_eq_true rfl) (Nat.le_of_ble_eq_true rfl) dX7_newPerson_48 (fun qn H hP hD hS => ?_)
        have hP : va_P (dC, dI) vwCl ([(qn, .inr (kc 3, pF (fun _ => 0)))]) H := hP
        have hD : va_D A ([(qn, .inr (kc 3, pF (fun _ => 0)))]) := hD
        refine lv_dup hx hb dX7_newPerson_51 rfl ?_
        have hFc : ∀ q, va_A ([(qn, .inr (kc 3, pF (fun _ => 0)))]) H.size q → A q := fun q h => h.elim (fun ⟨j, e, hj⟩ => hD.2 j (q, e) hj) (fun h => hA q (Nat.le_trans hS.1 h))
        refine va_callv (va_runIN (As := []) (rest := [.ref (qn)]) ⟨hx, hb, hml, hown, hts⟩ (c6_init l dC dI tys ([(qn, .inr (kc 3, pF (fun _ => 0)))]) 0 qn (k := 3) (by decide) (fun _ => 0) rfl H.size) ⟨va_cnB 0 hts gX7_newPerson_X6_init_n231 rfl rfl rfl (hN.1 _ (List.mem_of_getElem? (i := 9) rfl)) hW10 (by decide +kernel) ⟨Nat.le_of_ble_eq_true rfl, Nat.le_of_ble_eq_true rfl⟩, rfl, hW11⟩ ⟨fun a U g mk q => by obtain ⟨q0, q1, qP, qK, qN, qD⟩ := q; exact ⟨q0, q1, qP, va_K.moved (u := U) (U := U.calling g mk a) (Vm.Alike.refl U.vm) qK, xN.same (u := U) (U := U.calling g mk a) rfl qN, qD⟩, fun U hU hW => ⟨rfl, by rw [hU], by rw [hU]; exact hP, va_K.moved hW.alike hK, xN.warm hW hN, hD.weaken (fun _ _ _ _ => trivial)⟩⟩ rfl rfl hl.1 rfl (lv_room (Nat.le_of_ble_eq_true rfl)) dX7_newPerson_52 ⟨Nat.le_of_ble_eq_true rfl, Nat.le_of_ble_eq_true rfl⟩) hS (fun q _ h => hFc q h) hFc (fun u t H1 locs ht hvm hw hB hz1 hk1 hS => ?_)
        have hw : u = xIni (fun _ => 0) := hw
        subst hw
        obtain ⟨hP1, hK1, hD1⟩ := hB
        rw [ht] at hP1
        have hP : va_P (dC, dI) vwCl ([(qn, .inr (kc 3, pF (xIni (fun _ => 0))))]) H1 := hP1
        have hD : va_D A ([(qn, .inr (kc 3, pF (xIni (fun _ => 0))))]) := hD1.weaken (fun _ _ _ h => hFc _ h)
        exact W.aret (v := .ref (qn)) hx hb hr (Or.inl ⟨_, rfl⟩) (Or.inr ⟨_, rfl⟩) (fun t ht hW => ⟨⟨xIni (fun _ => 0), qn, rfl, rfl, by rw [ht]; exact hP, va_K.moved hW.alike hK, hD⟩, hS.F ht⟩) hS.2.2 dX7_newPerson_55
      · skip
        by_cases c_4 : (nI (k)).toInt = 4
        · skip
          refine lv_tableIn (tgt := 56) hx hb dX7_newPerson_1 (by omega) (by omega) (by rw [c_4]; rfl) (by decide) ?_
          rw [tn (n := k) (by omega)] at c_1
          rw [tn (n := k) (by omega)] at c_2
          rw [tn (n := k) (by omega)] at c_3
          rw [tn (n := k) (by omega)] at c_4
          have hk9 : k = 4 := by omega
          subst hk9
          refine va_new (ci := 5) (C := RX5) (T := TX5) (N := 6) (fs := pF (fun _ => 0)) hx hb hts hin5 tyX5 tyX5_ok hown hW12 hW13 hW14 hK hP hD hS hA rfl (by decide +kernel) (Nat.le_of_ble_eq_true rfl) (Nat.le_of_ble_eq_true rfl) dX7_newPerson_56 (fun qn H hP hD hS => ?_)
          have hP : va_P (dC, dI) vwCl ([(qn, .inr (kc 4, pF (fun _ => 0)))]) H := hP
          have hD : va_D A ([(qn, .inr (kc 4, pF (fun _ => 0)))]) := hD
          refine lv_dup hx hb dX7_newPerson_59 rfl ?_
          have hFc : ∀ q, va_A ([(qn, .inr (kc 4, pF (fun _ => 0)))]) H.size q → A q := fun q h => h.elim (fun ⟨j, e, hj⟩ => hD.2 j (q, e) hj) (fun h => hA q (Nat.le_trans hS.1 h))
          refine va_callv (va_runIN (As := []) (rest := [.ref (qn)]) ⟨hx, hb, hml, hown, hts⟩ (c5_init l dC dI tys ([(qn, .inr (kc 4, pF (fun _ => 0)))]) 0 qn (k := 4) (by decide) (fun _ => 0) rfl H.size) ⟨va_cnB 0 hts gX7_newPerson_X5_init_n234 rfl rfl rfl (hN.1 _ (List.mem_of_getElem? (i := 11) rfl)) hW14 (by decide +kernel) ⟨Nat.le_of_ble_eq_true rfl, Nat.le_of_ble_eq_true rfl⟩, rfl, hW15⟩ ⟨fun a U g mk q => by obtain ⟨q0, q1, qP, qK, qN, qD⟩ := q; exact ⟨q0, q1, qP, va_K.moved (u := U) (U := U.calling g mk a) (Vm.Alike.refl U.vm) qK, xN.same (u := U) (U := U.calling g mk a) rfl qN, qD⟩, fun U hU hW => ⟨rfl, by rw [hU], by rw [hU]; exact hP, va_K.moved hW.alike hK, xN.warm hW hN, hD.weaken (fun _ _ _ _ => trivial)⟩⟩ rfl rfl hl.1 rfl (lv_room (Nat.le_of_ble_eq_true rfl)) dX7_newPerson_60 ⟨Nat.le_of_ble_eq_true rfl, Nat.le_of_ble_eq_true rfl⟩) hS (fun q _ h => hFc q h) hFc (fun u t H1 locs ht hvm hw hB hz1 hk1 hS => ?_)
          have hw : u = xIni (fun _ => 0) := hw
          subst hw
          obtain ⟨hP1, hK1, hD1⟩ := hB
          rw [ht] at hP1
          have hP : va_P (dC, dI) vwCl ([(qn, .inr (kc 4, pF (xIni (fun _ => 0))))]) H1 := hP1
          have hD : va_D A ([(qn, .inr (kc 4, pF (xIni (fun _ => 0))))]) := hD1.weaken (fun _ _ _ h => hFc _ h)
          exact W.aret (v := .ref (qn)) hx hb hr (Or.inl ⟨_, rfl⟩) (Or.inr ⟨_, rfl⟩) (fun t ht hW => ⟨⟨xIni (fun _ => 0), qn, rfl, rfl, by rw [ht]; exact hP, va_K.moved hW.alike hK, hD⟩, hS.F ht⟩) hS.2.2 dX7_newPerson_63
        · skip
          refine lv_tableOut (tgt := 64) hx hb dX7_newPerson_1 (by omega) (by decide) ?_
          rw [tn (n := k) (by omega)] at c_1
          rw [tn (n := k) (by omega)] at c_2
          rw [tn (n := k) (by omega)] at c_3
          rw [tn (n := k) (by omega)] at c_4
          have hk9 : k = 0 := by omega
          subst hk9
          refine va_new (ci := 4) (C := RX4) (T := TX4) (N := 6) (fs := pF (fun _ => 0)) hx hb hts hin4 tyX4 tyX4_ok hown hW16 hW17 hW18 hK hP hD hS hA rfl (by decide +kernel) (Nat.le_of_ble_eq_true rfl) (Nat.le_of_ble_eq_true rfl) dX7_newPerson_64 (fun qn H hP hD hS => ?_)
          have hP : va_P (dC, dI) vwCl ([(qn, .inr (kc 0, pF (fun _ => 0)))]) H := hP
          have hD : va_D A ([(qn, .inr (kc 0, pF (fun _ => 0)))]) := hD
          refine lv_dup hx hb dX7_newPerson_67 rfl ?_
          have hFc : ∀ q, va_A ([(qn, .inr (kc 0, pF (fun _ => 0)))]) H.size q → A q := fun q h => h.elim (fun ⟨j, e, hj⟩ => hD.2 j (q, e) hj) (fun h => hA q (Nat.le_trans hS.1 h))
          refine va_callv (va_runIN (As := []) (rest := [.ref (qn)]) ⟨hx, hb, hml, hown, hts⟩ (c4_init l dC dI tys ([(qn, .inr (kc 0, pF (fun _ => 0)))]) 0 qn (k := 0) (by decide) (fun _ => 0) rfl H.size) ⟨va_cnB 0 hts gX7_newPerson_X4_init_n235 rfl rfl rfl (hN.1 _ (List.mem_of_getElem? (i := 13) rfl)) hW18 (by decide +kernel) ⟨Nat.le_of_ble_eq_true rfl, Nat.le_of_ble_eq_true rfl⟩, rfl, hW19⟩ ⟨fun a U g mk q => by obtain ⟨q0, q1, qP, qK, qN, qD⟩ := q; exact ⟨q0, q1, qP, va_K.moved (u := U) (U := U.calling g mk a) (Vm.Alike.refl U.vm) qK, xN.same (u := U) (U := U.calling g mk a) rfl qN, qD⟩, fun U hU hW => ⟨rfl, by rw [hU], by rw [hU]; exact hP, va_K.moved hW.alike hK, xN.warm hW hN, hD.weaken (fun _ _ _ _ => trivial)⟩⟩ rfl rfl hl.1 rfl (lv_room (Nat.le_of_ble_eq_true rfl)) dX7_newPerson_68 ⟨Nat.le_of_ble_eq_true rfl, Nat.le_of_ble_eq_true rfl⟩) hS (fun q _ h => hFc q h) hFc (fun u t H1 locs ht hvm hw hB hz1 hk1 hS => ?_)
          have hw : u = xIni (fun _ => 0) := hw
          subst hw
          obtain ⟨hP1, hK1, hD1⟩ := hB
          rw [ht] at hP1
          have hP : va_P (dC, dI) vwCl ([(qn, .inr (kc 0, pF (xIni (fun _ => 0))))]) H1 := hP1
          have hD : va_D A ([(qn, .inr (kc 0, pF (xIni (fun _ => 0))))]) := hD1.weaken (fun _ _ _ h => hFc _ h)
          exact W.aret (v := .ref (qn)) hx hb hr (Or.inl ⟨_, rfl⟩) (Or.inr ⟨_, rfl⟩) (fun t ht hW => ⟨⟨xIni (fun _ => 0), qn, rfl, rfl, by rw [ht]; exact hP, va_K.moved hW.alike hK, hD⟩, hS.F ht⟩) hS.2.2 dX7_newPerson_71
