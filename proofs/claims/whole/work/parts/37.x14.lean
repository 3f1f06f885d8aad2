def xPerson (f : Nat → Int32) (x y z : Int32) (n : Nat) : Int32 := if 0 ≤ x.toInt ∧ x.toInt ≤ 4 then (if 0 ≤ y.toInt ∧ y.toInt ≤ 7 then (if 0 ≤ z.toInt ∧ z.toInt ≤ 7 then (if f 6 = (-1) then (-103) else if n < 4 then nI (n + 1 - 1) else (-104)) else (-102)) else (-102)) else (-102)
/-- a person was added, or nothing was done -/
def xPerP (f : Nat → Int32) (g : Nat → Nat → Int32) (pa : Nat → Option Nat) (tv : Nat → Nat → Int32) (n : Nat) (pd pk : Nat → Nat) (pv : Nat → Nat → Int32) (x y z : Int32) (r : Int32) (u : XSt) : Prop := r = xPerson f x y z n ∧ (if 0 ≤ x.toInt ∧ x.toInt ≤ 4 ∧ 0 ≤ y.toInt ∧ y.toInt ≤ 7 ∧ 0 ≤ z.toInt ∧ z.toInt ≤ 7 ∧ ¬ f 6 = (-1) ∧ n < 4 then ∃ q : Nat, u = (su f 7 (nI (n + 1)), g, su pa n (some q), tv, n + 1, su pd n q, su pk n x.toInt.toNat, su pv n (su (su (xIni (fun _ => 0)) 0 y) 1 z)) else u = (f, g, pa, tv, n, pd, pk, pv))
set_option maxHeartbeats 1200000 in
set_option maxRecDepth 100000 in
theorem c7_person (l : Launch) (dC : Nat → ClassId) (dI : Nat → Nat → Nat) (cI cP : ClassId) (a : Nat) (o : Nat → Nat) (f : Nat → Int32) (g : Nat → Nat → Int32) (pa : Nat → Option Nat) (tv : Nat → Nat → Int32) (n : Nat) (pd pk : Nat → Nat) (pv : Nat → Nat → Int32) (sz : Nat) (e7 : f 7 = nI n) (b7 : n ≤ 4) (hpa : ∀ i, i < n → pa i = some (pd i)) (hpk : ∀ i, i < n → pk i < 5) (x : Int32) (y : Int32) (z : Int32) : Met l yX7_person wsX7_person ({ frames := 5, cells := 1, slots := 6, locals := 100 } : Room) (va_Pc [.ref (a), .int (x), .int (y), .int (z)] (fun U => U.heap.size = sz ∧ va_P (dC, dI) vwCl (xW cI cP a o f g pa tv n pd pk pv) U.heap ∧ va_K (dC, dI) vwCl [(cI, .int), (cP, .object RX4)] U ∧ xN U ∧ va_D (fun _ => True) (xW cI cP a o f g pa tv n pd pk pv))) (va_Qi (xPerP f g pa tv n pd pk pv x y z) (xB dC dI cI cP a o (va_A (xW cI cP a o f g pa tv n pd pk pv) sz)) (va_A (xW cI cP a o f g pa tv n pd pk pv) sz)) 1 6 (va_A (xW cI cP a o f g pa tv n pd pk pv) sz) := by
  refine Met.ofW (cc := cX7_person) (maxL := 5) (ret := (some .int)) (by decide) rfl ?_
  intro p_ e_ s m args below meth c_0 s₁ B hml hv
  obtain ⟨rfl, hsz, hP, hK, hN, hD0⟩ := hv
  have hx := B.exec
  have hb := B.bytes
  have hr := B.returns
  have hts := atoms_spec (ws := wsX7_person) B.pre
  have hown : s.vm.findClass RX7 = some m.cls := findClass_of_methodNamed B.named
  have hlocks := B.notSynchronized
  subst hsz
  have hD := hD0.self (sz := s.heap.size)
  generalize hAe : va_A (xW cI cP a o f g pa tv n pd pk pv) s.heap.size = A at hD ⊢
  have hA : ∀ q : Nat, s.heap.size ≤ q → A q := fun q h => by rw [← hAe]; exact Or.inr h
  obtain ⟨H, hHe⟩ : ∃ H : Heap, H = s.heap := ⟨_, rfl⟩
  have hS : va_S A s.heap H [] := by rw [hHe]; exact va_S.rf
  rw [← hHe] at hP ⊢
  have hP : va_P (dC, dI) vwCl (xW cI cP a o f g pa tv n pd pk pv) H := hP
  have hl := lv_entry ([.ref (a), .int (x), .int (y), .int (z)]) (n := 5) (Nat.le_of_ble_eq_true rfl)
  rw [lg_entry_eq]
  generalize (lg_sl ([.ref (a), .int (x), .int (y), .int (z)]) ++ List.replicate (5 - (lg_sl ([.ref (a), .int (x), .int (y), .int (z)])).length) Slot.unset).toArray = ls at hl ⊢
  have hl : lv_has ls 5 [(0, .ref (a)), (1, .int (x)), (2, .int (y)), (3, .int (z))] := hl
  have hin0 : ∀ w ∈ wsX00, w ∈ wsX7_person := fun _ h => List.mem_cons_of_mem _ (List.mem_append_left _ (List.mem_append_left _ (List.mem_append_left _ (List.mem_append_left _ (List.mem_append_right _ h)))))
  have hin2 : ∀ w ∈ wsX20, w ∈ wsX7_person := fun _ h => List.mem_cons_of_mem _ (List.mem_append_left _ (List.mem_append_left _ (List.mem_append_left _ (List.mem_append_right _ h))))
  have hin4 : ∀ w ∈ wsX40, w ∈ wsX7_person := fun _ h => List.mem_cons_of_mem _ (List.mem_append_left _ (List.mem_append_left _ (List.mem_append_right _ h)))
  have hin5 : ∀ w ∈ wsX50, w ∈ wsX7_person := fun _ h => List.mem_cons_of_mem _ (List.mem_append_left _ (List.mem_append_right _ h))
  have hin6 : ∀ w ∈ wsX60, w ∈ wsX7_person := fun _ h => List.mem_cons_of_mem _ (List.mem_append_right _ h)
  have hin7 : ∀ w ∈ wsX70, w ∈ wsX7_person := fun _ h => List.mem_cons_of_mem _ (List.mem_append_left _ (List.mem_append_left _ (List.mem_append_left _ (List.mem_append_left _ (List.mem_append_left _ (List.mem_append_right _ h))))))
  have hW0 := hts (.fieldLink RX7 39 "EachEye" "theSign" "I") (by decide +kernel)
  have hW1 := hts (.fieldLink RX7 67 "EachEye" "peopleCount" "I") (by decide +kernel)
  have hW2 := hts (.fieldLink RX7 107 "EachEye$Person" "left" "I") (by decide +kernel)
  have hW3 := hts (.fieldLink RX7 110 "EachEye$Person" "right" "I") (by decide +kernel)
  have hW4 := hts (.fieldLink RX7 18 "EachEye" "people" "[LEachEye$Person;") (by decide +kernel)
  refine lv_iload_n hx hb dX7_person_0 rfl (lv_at hl 1 rfl) ?_
  refine vp_callSi (va_Run.run (va_runS (As := [.int (x)]) (rest := []) ⟨hx, hb, hml, hown, hts⟩ (c7_isKind l (x)) (va_cwS 1 hts gX7_person_X7_isKind rfl rfl rfl (by decide +kernel) ⟨Nat.le_of_ble_eq_true rfl, Nat.le_of_ble_eq_true rfl⟩) ⟨fun _ _ _ _ q => q, fun U hU hW => ⟨rfl, trivial⟩⟩ rfl rfl hl.1 rfl (lv_room (Nat.le_of_ble_eq_true rfl)) dX7_person_1 ⟨Nat.le_of_ble_eq_true rfl, Nat.le_of_ble_eq_true rfl⟩)) (fun r hrc => ?_)
  have hrc : r = b2i (0 ≤ (x).toInt ∧ (x).toInt ≤ 4) := hrc
  subst hrc
  refine lv_if_eq (tgt := 21) hx hb dX7_person_4 (by decide) (fun c_1 => ?_) (fun c_1 => ?_)
  · skip
    have c_1 := b2i_0 c_1
    refine lv_bipush (v := (-102)) hx hb dX7_person_21 (by decide +kernel) ?_
    have hP9 : va_P (dC, dI) vwCl (xW cI cP a o f g pa tv n pd pk pv) H := hP
    refine W.widen (k := 1) (n := 6) (by decide) (by decide) ?_
    exact W.iret (v := (-102)) hx hb hr (fun t ht hW => ⟨⟨(-102), (f, g, pa, tv, n, pd, pk, pv), rfl, ⟨by simp only [xPerson, if_neg c_1], by rw [if_neg (by omega)]⟩, by rw [ht]; exact hP9, va_K.moved hW.alike hK, hD⟩, hS.F ht⟩) hS.2.2 dX7_person_23
  · skip
    have c_1 := b2i_1 c_1
    refine lv_iload_n hx hb dX7_person_7 rfl (lv_at hl 2 rfl) ?_
    refine vp_callSi (va_Run.run (va_runS (As := [.int (y)]) (rest := []) ⟨hx, hb, hml, hown, hts⟩ (c7_isHue l (y)) (va_cwS 1 hts gX7_person_X7_isHue rfl rfl rfl (by decide +kernel) ⟨Nat.le_of_ble_eq_true rfl, Nat.le_of_ble_eq_true rfl⟩) ⟨fun _ _ _ _ q => q, fun U hU hW => ⟨rfl, trivial⟩⟩ rfl rfl hl.1 rfl (lv_room (Nat.le_of_ble_eq_true rfl)) dX7_person_8 ⟨Nat.le_of_ble_eq_true rfl, Nat.le_of_ble_eq_true rfl⟩)) (fun r hrc => ?_)
    have hrc : r = b2i (0 ≤ (y).toInt ∧ (y).toInt ≤ 7) := hrc
    subst hrc
    refine lv_if_eq (tgt := 21) hx hb dX7_person_11 (by decide) (fun c_2 => ?_) (fun c_2 => ?_)
    · skip
      have c_2 := b2i_0 c_2
      refine lv_bipush (v := (-102)) hx hb dX7_person_21 (by decide +kernel) ?_
      have hP9 : va_P (dC, dI) vwCl (xW cI cP a o f g pa tv n pd pk pv) H := hP
      refine W.widen (k := 1) (n := 6) (by decide) (by decide) ?_
      exact W.iret (v := (-102)) hx hb hr (fun t ht hW => ⟨⟨(-102), (f, g, pa, tv, n, pd, pk, pv), rfl, ⟨by simp only [xPerson, if_pos c_1, if_neg c_2], by rw [if_neg (by omega)]⟩, by rw [ht]; exact hP9, va_K.moved hW.alike hK, hD⟩, hS.F ht⟩) hS.2.2 dX7_person_23
    · skip
      have c_2 := b2i_1 c_2
      refine lv_iload_n hx hb dX7_person_14 rfl (lv_at hl 3 rfl) ?_
      refine vp_callSi (va_Run.run (va_runS (As := [.int (z)]) (rest := []) ⟨hx, hb, hml, hown, hts⟩ (c7_isHue l (z)) (va_cwS 1 hts gX7_person_X7_isHue rfl rfl rfl (by decide +kernel) ⟨Nat.le_of_ble_eq_true rfl, Nat.le_of_ble_eq_true rfl⟩) ⟨fun _ _ _ _ q => q, fun U hU hW => ⟨rfl, trivial⟩⟩ rfl rfl hl.1 rfl (lv_room (Nat.le_of_ble_eq_true rfl)) dX7_person_15 ⟨Nat.le_of_ble_eq_true rfl, Nat.le_of_ble_eq_true rfl⟩)) (fun r hrc => ?_)
      have hrc : r = b2i (0 ≤ (z).toInt ∧ (z).toInt ≤ 7) := hrc
      subst hrc
      refine lv_if_ne (tgt := 24) hx hb dX7_person_18 (by decide) (fun c_3 => ?_) (fun c_3 => ?_)
      · skip
        have c_3 := b2i_1 c_3
        refine lv_aload_n hx hb dX7_person_24 rfl (lv_at hl 0 rfl) ?_
        refine va_get (D := (dC, dI)) (ci := 7) (v := .int (f 6)) (C := RX7) (T := TX7) (N := 16) hx hb hts hin7 hown hK hP 0 rfl rfl 6 (by decide) hW0 (fun _ h9 => h9) rfl dX7_person_25 ?_
        refine lv_iconst (v := (-1)) hx hb dX7_person_28 (by decide +kernel) ?_
        refine lv_icmp_ne (tgt := 35) hx hb dX7_person_29 (by decide) (fun c_4 => ?_) (fun c_4 => ?_)
        · skip
          refine lv_aload_n hx hb dX7_person_35 rfl (lv_at hl 0 rfl) ?_
          refine va_get (D := (dC, dI)) (ci := 7) (v := .int (nI (n))) (C := RX7) (T := TX7) (N := 16) hx hb hts hin7 hown hK hP 0 rfl rfl 7 (by decide) hW1 (fun _ h9 => h9) (congrArg (fun z => some (Value.int z)) e7) dX7_person_36 ?_
          refine lv_iconst (v := nI (4)) hx hb dX7_person_39 (by decide +kernel) ?_
          refine lv_icmp_lt (tgt := 46) hx hb dX7_person_40 (by decide) (fun c_5 => ?_) (fun c_5 => ?_)
          · skip
            rw [nI_ltI (a := n) (b := 4) (by omega) (by omega)] at c_5
            refine lv_iload_n hx hb dX7_person_46 rfl (lv_at hl 1 rfl) ?_
            refine tq (ix_int (by omega)) ?_
            have hFc : ∀ q, va_A ([] : va_W) H.size q → A q := fun q h => h.elim (fun ⟨j, e, hj⟩ => by cases hj) (fun h => hA q (Nat.le_trans hS.1 h))
            refine va_callr (va_runS (As := [.int (nI (x.toInt.toNat))]) (rest := []) ⟨hx, hb, hml, hown, hts⟩ (c7_newPerson l dC dI [(cI, .int), (cP, .object RX4)] (x.toInt.toNat) (by omega) H.size) (va_cwS 1 hts gX7_person_X7_newPerson rfl rfl rfl (by decide +kernel) ⟨Nat.le_of_ble_eq_true rfl, Nat.le_of_ble_eq_true rfl⟩) ⟨fun a U g mk q => by obtain ⟨q0, q1, qP, qK, qN, qD⟩ := q; exact ⟨q0, q1, qP, va_K.moved (u := U) (U := U.calling g mk a) (Vm.Alike.refl U.vm) qK, xN.same (u := U) (U := U.calling g mk a) rfl qN, qD⟩, fun U hU hW => ⟨rfl, by rw [hU], (fun k q h => by cases h), va_K.moved hW.alike hK, xN.warm hW hN, ⟨(fun i j p q h => by cases h), (fun k q h => by cases h)⟩⟩⟩ rfl rfl hl.1 rfl (lv_room (Nat.le_of_ble_eq_true rfl)) dX7_person_47 ⟨Nat.le_of_ble_eq_true rfl, Nat.le_of_ble_eq_true rfl⟩) hS (fun q _ h => hFc q h) hFc (fun u qn t H1 locs ht hvm hw hB hz1 hk1 hS => ?_)
            have hw : u = xIni (fun _ => 0) := hw
            subst hw
            obtain ⟨hP1, hK1, hD1⟩ := hB
            rw [ht] at hP1
            obtain ⟨hP, hD⟩ := jn hP hD hk1 hFc hP1 hD1
            rw [xw_add] at hP hD
            clear hP1 hD1 hK1 hFc hk1 hz1
            generalize H1 = H at hP hS ⊢
            refine lv_astore (lv' := [(4, .ref (qn)), (0, .ref (a)), (1, .int (x)), (2, .int (y)), (3, .int (z))]) hx hb dX7_person_50 hl (by decide) rfl (fun ls hl => ?_)
            refine lv_aload hx hb dX7_person_52 (lv_at hl 0 rfl) ?_
            refine lv_iload_n hx hb dX7_person_54 rfl (lv_at hl 3 rfl) ?_
            refine pe_put hx hb hts hin0 hin2 hin4 hin5 hin6 hown hK hP hD hS (17 + n) (by omega) (xw_at_n _ _ _) 0 (by decide) hW2 dX7_person_55 (fun H locs hP hD hS => ?_)
            rw [xw_set_n] at hP hD
            have hP : va_P (dC, dI) vwCl (xW cI cP a o f g pa tv ((n + 1)) (su pd n qn) (su pk n (x.toInt.toNat)) (su pv n (su ((xIni (fun _ => 0))) 0 (y)))) H := hP
            have hD : va_D A (xW cI cP a o f g pa tv ((n + 1)) (su pd n qn) (su pk n (x.toInt.toNat)) (su pv n (su ((xIni (fun _ => 0))) 0 (y)))) := hD
            refine lv_aload hx hb dX7_person_58 (lv_at hl 0 rfl) ?_
            refine lv_iload_n hx hb dX7_person_60 rfl (lv_at hl 4 rfl) ?_
            refine pe_put hx hb hts hin0 hin2 hin4 hin5 hin6 hown hK hP hD hS (17 + n) (by omega) (xw_at_n _ _ _) 1 (by decide) hW3 dX7_person_61 (fun H locs hP hD hS => ?_)
            rw [xw_set_n] at hP hD
            have hP : va_P (dC, dI) vwCl (xW cI cP a o f g pa tv ((n + 1)) (su pd n qn) (su pk n (x.toInt.toNat)) (su pv n (su ((su ((xIni (fun _ => 0))) 0 (y))) 1 (z)))) H := hP
            have hD : va_D A (xW cI cP a o f g pa tv ((n + 1)) (su pd n qn) (su pk n (x.toInt.toNat)) (su pv n (su ((su ((xIni (fun _ => 0))) 0 (y))) 1 (z)))) := hD
            refine lv_aload_n hx hb dX7_person_64 rfl (lv_at hl 1 rfl) ?_
            refine va_get (D := (dC, dI)) (ci := 7) (v := .ref (o 1)) (C := RX7) (T := TX7) (N := 16) hx hb hts hin7 hown hK hP 0 rfl rfl 1 (by decide) hW4 (fun _ h9 => h9) rfl dX7_person_65 ?_
            refine lv_aload_n hx hb dX7_person_68 rfl (lv_at hl 1 rfl) ?_
            refine va_get (D := (dC, dI)) (ci := 7) (v := .int (nI (n))) (C := RX7) (T := TX7) (N := 16) hx hb hts hin7 hown hK hP 0 rfl rfl 7 (by decide) hW1 (fun _ h9 => h9) (congrArg (fun z => some (Value.int z)) e7) dX7_person_69 ?_
            refine lv_aload hx hb dX7_person_72 (lv_at hl 0 rfl) ?_
            refine ap hx hb hN hK hP hD hS 3 1 (17 + n) (k := x.toInt.toNat) (by omega) rfl rfl (xw_at_n _ _ _) (j := n) rfl (by omega) (by decide) dX7_person_74 (fun H locs hP hD hS => ?_)
            have hP : va_P (dC, dI) vwCl (xW cI cP a o f g (su pa n (some qn)) tv ((n + 1)) (su pd n qn) (su pk n (x.toInt.toNat)) (su pv n (su ((su ((xIni (fun _ => 0))) 0 (y))) 1 (z)))) H := hP
            have hD : va_D A (xW cI cP a o f g (su pa n (some qn)) tv ((n + 1)) (su pd n qn) (su pk n (x.toInt.toNat)) (su pv n (su ((su ((xIni (fun _ => 0))) 0 (y))) 1 (z)))) := hD
            refine lv_aload_n hx hb dX7_person_75 rfl (lv_at hl 1 rfl) ?_
            refine lv_dup hx hb dX7_person_76 rfl ?_
            refine va_get (D := (dC, dI)) (ci := 7) (v := .int (nI (n))) (C := RX7) (T := TX7) (N := 16) hx hb hts hin7 hown hK hP 0 rfl rfl 7 (by decide) hW1 (fun _ h9 => h9) (congrArg (fun z => some (Value.int z)) e7) dX7_person_77 ?_
            refine lv_iconst (v := nI (1)) hx hb dX7_person_80 (by decide +kernel) ?_
            refine lv_iadd hx hb dX7_person_81 ?_
            refine tq (nI_add (n) (1)) ?_
            refine va_put (D := (dC, dI)) (ci := 7) (v := .int (nI (n + 1))) (ty := .int) (C := RX7) (T := TX7) (N := 16) hx hb hts hin7 tyX7 tyX7_ok nmX7 hown hK hP hD hS 0 rfl rfl 7 (by decide) hW1 (fun _ h9 => h9) rfl (by decide +kernel) rfl rfl (Nat.le_of_ble_eq_true rfl) dX7_person_82 (fun H locs hP hD hS => ?_)
            have hP : va_P (dC, dI) vwCl (xW cI cP a o (su f 7 (nI (n + 1))) g (su pa n (some qn)) tv ((n + 1)) (su pd n qn) (su pk n (x.toInt.toNat)) (su pv n (su ((su ((xIni (fun _ => 0))) 0 (y))) 1 (z)))) H := hP
            have hD : va_D A (xW cI cP a o (su f 7 (nI (n + 1))) g (su pa n (some qn)) tv ((n + 1)) (su pd n qn) (su pk n (x.toInt.toNat)) (su pv n (su ((su ((xIni (fun _ => 0))) 0 (y))) 1 (z)))) := hD
            refine lv_aload_n hx hb dX7_person_85 rfl (lv_at hl 1 rfl) ?_
            refine va_get (D := (dC, dI)) (ci := 7) (v := .int (nI (n + 1))) (C := RX7) (T := TX7) (N := 16) hx hb hts hin7 hown hK hP 0 rfl rfl 7 (by decide) hW1 (fun _ h9 => h9) rfl dX7_person_86 ?_
            refine lv_iconst (v := nI (1)) hx hb dX7_person_89 (by decide +kernel) ?_
            refine lv_isub hx hb dX7_person_90 ?_
            refine tq (pk_sub (a := n + 1) (b := 1) (by omega)) ?_
            have hP9 : va_P (dC, dI) vwCl (xW cI cP a o (su f 7 (nI (n + 1))) g (su pa n (some qn)) tv ((n + 1)) (su pd n qn) (su pk n (x.toInt.toNat)) (su pv n (su ((su ((xIni (fun _ => 0))) 0 (y))) 1 (z)))) H := hP
            exact W.iret (v := nI ((n + 1) - 1)) hx hb hr (fun t ht hW => ⟨⟨nI ((n + 1) - 1), (su f 7 (nI (n + 1)), g, su pa n (some qn), tv, (n + 1), su pd n qn, su pk n (x.toInt.toNat), su pv n (su ((su ((xIni (fun _ => 0))) 0 (y))) 1 (z))), rfl, ⟨by rw [xPerson, if_pos c_1, if_pos c_2, if_pos c_3, if_neg c_4, if_pos c_5], by rw [if_pos ⟨by omega, by omega, by omega, by omega, by omega, by omega, c_4, by omega⟩]; exact ⟨qn, rfl⟩⟩, by rw [ht]; exact hP9, va_K.moved hW.alike hK, hD⟩, hS.F ht⟩) hS.2.2 dX7_person_91
          · skip
            rw [nI_ltI (a := n) (b := 4) (by omega) (by omega)] at c_5
            refine lv_bipush (v := (-104)) hx hb dX7_person_43 (by decide +kernel) ?_
            have hP9 : va_P (dC, dI) vwCl (xW cI cP a o f g pa tv n pd pk pv) H := hP
            refine W.widen (k := 1) (n := 6) (by decide) (by decide) ?_
            exact W.iret (v := (-104)) hx hb hr (fun t ht hW => ⟨⟨(-104), (f, g, pa, tv, n, pd, pk, pv), rfl, ⟨by simp only [xPerson, if_pos c_1, if_pos c_2, if_pos c_3, if_neg c_4, if_neg c_5], by rw [if_neg (by omega)]⟩, by rw [ht]; exact hP9, va_K.moved hW.alike hK, hD⟩, hS.F ht⟩) hS.2.2 dX7_person_45
        · skip
          refine lv_bipush (v := (-103)) hx hb dX7_person_32 (by decide +kernel) ?_
          have hP9 : va_P (dC, dI) vwCl (xW cI cP a o f g pa tv n pd pk pv) H := hP
          refine W.widen (k := 1) (n := 6) (by decide) (by decide) ?_
          exact W.iret (v := (-103)) hx hb hr (fun t ht hW => ⟨⟨(-103), (f, g, pa, tv, n, pd, pk, pv), rfl, ⟨by simp only [xPerson, if_pos c_1, if_pos c_2, if_pos c_3, if_pos c_4], by rw [if_neg (fun z9 => z9.2.2.2.2.2.2.1 c_4)]⟩, by rw [ht]; exact hP9, va_K.moved hW.alike hK, hD⟩, hS.F ht⟩) hS.2.2 dX7_person_34
      · skip
        have c_3 := b2i_0 c_3
        refine lv_bipush (v := (-102)) hx hb dX7_person_21 (by decide +kernel) ?_
        have hP9 : va_P (dC, dI) vwCl (xW cI cP a o f g pa tv n pd pk pv) H := hP
        refine W.widen (k := 1) (n := 6) (by decide) (by decide) ?_
        exact W.iret (v := (-102)) hx hb hr (fun t ht hW => ⟨⟨(-102), (f, g, pa, tv, n, pd, pk, pv), rfl, ⟨by simp only [xPerson, if_pos c_1, if_pos c_2, if_neg c_3], by rw [if_neg (by omega)]⟩, by rw [ht]; exact hP9, va_K.moved hW.alike hK, hD⟩, hS.F ht⟩) hS.2.2 dX7_person_23
