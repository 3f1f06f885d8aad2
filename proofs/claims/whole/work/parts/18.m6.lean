set_option maxHeartbeats 1200000 in
set_option maxRecDepth 100000 in
theorem c8_next (l : Launch) (dC : Nat → ClassId) (dI : Nat → Nat → Nat) (cI : ClassId) (a : Nat) (o : Nat → Nat) (f : Nat → Int32) (g : Nat → Nat → Int32) (h : Int64) (sz : Nat) {k10 : Nat} (e10 : f 10 = nI k10) (b10 : k10 ≤ 8) {k11 : Nat} (e11 : f 11 = nI k11) (b11 : k11 ≤ 60) : Met l yX8_next wsX8_next ({ frames := 3, cells := 0, slots := 0, locals := 69 } : Room) (va_Pc [.ref (a)] (fun U => U.heap.size = sz ∧ va_P (dC, dI) vwCl (mW cI a o f g h) U.heap ∧ va_K (dC, dI) vwCl [(cI, .int)] U ∧ va_D (fun _ => True) (mW cI a o f g h))) (va_Qi (fun (r : Int32) (u : MSt) => (r, u) = mNext f g h k10 k11) (mB dC dI cI a o (va_A (mW cI a o f g h) sz)) (va_A (mW cI a o f g h) sz)) 0 0 (va_A (mW cI a o f g h) sz) := by
  refine Met.ofW (cc := cX8_next) (maxL := 6) (ret := (some .int)) (by decide) rfl ?_
  intro p_ e_ s m args below meth c_0 s₁ B hml hv
  obtain ⟨rfl, hsz, hP, hK, hD0⟩ := hv
  have hx := B.exec
  have hb := B.bytes
  have hr := B.returns
  have hts := atoms_spec (ws := wsX8_next) B.pre
  have hown : s.vm.findClass RX8 = some m.cls := findClass_of_methodNamed B.named
  have hlocks := B.notSynchronized
  subst hsz
  have hD := hD0.self (sz := s.heap.size)
  generalize hAe : va_A (mW cI a o f g h) s.heap.size = A at hD ⊢
  have hA : ∀ q : Nat, s.heap.size ≤ q → A q := fun q h => by rw [← hAe]; exact Or.inr h
  obtain ⟨H, hHe⟩ : ∃ H : Heap, H = s.heap := ⟨_, rfl⟩
  have hS : va_S A s.heap H [] := by rw [hHe]; exact va_S.rf
  rw [← hHe] at hP ⊢
  have hP : va_P (dC, dI) vwCl (mW cI a o f g h) H := hP
  have hl := lv_entry ([.ref (a)]) (n := 6) (Nat.le_of_ble_eq_true rfl)
  rw [lg_entry_eq]
  generalize (lg_sl ([.ref (a)]) ++ List.replicate (6 - (lg_sl ([.ref (a)])).length) Slot.unset).toArray = ls at hl ⊢
  have hl : lv_has ls 6 [(0, .ref (a))] := hl
  have hin8 : ∀ w ∈ wsX80, w ∈ wsX8_next := fun _ h => List.mem_cons_of_mem _ (List.mem_append_right _ h)
  have hW0 := hts (.fieldLink RX8 158 "EachEyeModel" "asked" "I") (by decide +kernel)
  have hW1 := hts (.fieldLink RX8 25 "EachEyeModel" "says" "[I") (by decide +kernel)
  refine lv_aload_n hx hb dX8_next_0 rfl (lv_at hl 0 rfl) ?_
  refine va_get (D := (dC, dI)) (ci := 8) (v := .int (nI (k11))) (C := RX8) (T := TX8) (N := 25) hx hb hts hin8 hown hK hP 0 rfl rfl 11 (by decide) hW0 (fun _ h9 => h9) (congrArg (fun z => some (Value.int z)) e11) dX8_next_1 ?_
  refine lv_bipush (v := nI (60)) hx hb dX8_next_4 (by decide +kernel) ?_
  refine lv_icmp_ne (tgt := 12) hx hb dX8_next_6 (by decide) (fun c_1 => ?_) (fun c_1 => ?_)
  · skip
    rw [nI_eq (a := k11) (b := 60) (by omega) (by omega)] at c_1
    refine lv_aload_n hx hb dX8_next_12 rfl (lv_at hl 0 rfl) ?_
    refine lv_dup hx hb dX8_next_13 rfl ?_
    refine va_get (D := (dC, dI)) (ci := 8) (v := .int (nI (k11))) (C := RX8) (T := TX8) (N := 25) hx hb hts hin8 hown hK hP 0 rfl rfl 11 (by decide) hW0 (fun _ h9 => h9) (congrArg (fun z => some (Value.int z)) e11) dX8_next_14 ?_
    refine lv_iconst (v := nI (1)) hx hb dX8_next_17 (by decide +kernel) ?_
    refine lv_iadd hx hb dX8_next_18 ?_
    refine tv (nI_add (k11) (1)) ?_
    refine va_put (D := (dC, dI)) (ci := 8) (v := .int (nI (k11 + 1))) (ty := .int) (C := RX8) (T := TX8) (N := 25) hx hb hts hin8 tyX8 tyX8_ok nmX8 hown hK hP hD hS 0 rfl rfl 11 (by decide) hW0 (fun _ h9 => h9) rfl (by decide +kernel) rfl rfl (Nat.le_of_ble_eq_true rfl) dX8_next_19 (fun H locs hP hD hS => ?_)
    have hP : va_P (dC, dI) vwCl (mW cI a o (su f 11 (nI (k11 + 1))) (g) (h)) H := hP
    have hD : va_D A (mW cI a o (su f 11 (nI (k11 + 1))) (g) (h)) := hD
    refine lv_iconst (v := (-1)) hx hb dX8_next_22 (by decide +kernel) ?_
    refine lv_istore_n (lv' := [(1, .int ((-1))), (0, .ref (a))]) hx hb dX8_next_23 rfl hl (by decide) rfl (fun ls hl => ?_)
    refine lv_sipush (v := nI (321)) hx hb dX8_next_24 (by decide +kernel) ?_
    refine lv_istore_n (lv' := [(2, .int (nI (321))), (1, .int ((-1))), (0, .ref (a))]) hx hb dX8_next_27 rfl hl (by decide) rfl (fun ls hl => ?_)
    refine lv_iconst (v := nI (0)) hx hb dX8_next_28 (by decide +kernel) ?_
    refine lv_istore_n (lv' := [(3, .int (nI (0))), (2, .int (nI (321))), (1, .int ((-1))), (0, .ref (a))]) hx hb dX8_next_29 rfl hl (by decide) rfl (fun ls hl => ?_)
    have e0_1 : ((-1)) = (mNx g k10 0).1 := rfl
    have e0_2 : (nI (321)) = (mNx g k10 0).2.1 := rfl
    have hP0 : va_P (dC, dI) vwCl (mW cI a o (su f 11 (nI (k11 + 1))) (su g 13 ((mNx g k10 (0)).2.2)) (h)) H := by skip; exact hP
    have hD0 : va_D A (mW cI a o (su f 11 (nI (k11 + 1))) (su g 13 ((mNx g k10 (0)).2.2)) (h)) := by skip; exact hD
    refine lp_rw (fun u : Nat => 8 - u) (fun u : Nat => u ≤ 8) (fun u : Nat => [(0, .ref (a)), (1, .int ((mNx g k10 u).1)), (2, .int ((mNx g k10 u).2.1)), (3, .int (nI (u)))]) (fun u : Nat => mW cI a o (su f 11 (nI (k11 + 1))) (su g 13 ((mNx g k10 (u)).2.2)) (h)) (0) (by omega) hP0 hD0 hS (by show lv_has ls 6 [(0, .ref (a)), (1, .int ((mNx g k10 0).1)), (2, .int ((mNx g k10 0).2.1)), (3, .int (nI (0)))]; rw [← e0_1, ← e0_2]; exact lv_sub hl [3, 2, 1, 0] rfl) (fun u hI ih_30 H locs ls hP hD hS hl => ?_)
    have hP : va_P (dC, dI) vwCl (mW cI a o (su f 11 (nI (k11 + 1))) (su g 13 ((mNx g k10 (u)).2.2)) (h)) H := hP
    have hD : va_D A (mW cI a o (su f 11 (nI (k11 + 1))) (su g 13 ((mNx g k10 (u)).2.2)) (h)) := hD
    have hI : u ≤ 8 := hI
    have hl : lv_has ls 6 [(0, .ref (a)), (1, .int ((mNx g k10 u).1)), (2, .int ((mNx g k10 u).2.1)), (3, .int (nI (u)))] := hl
    have hO : u ≤ 8 := hI
    refine lv_iload_n hx hb dX8_next_30 rfl (lv_at hl 3 rfl) ?_
    refine lv_bipush (v := nI (8)) hx hb dX8_next_31 (by decide +kernel) ?_
    refine lv_icmp_ge (tgt := 186) hx hb dX8_next_33 (by decide) (fun c_2 => ?_) (fun c_2 => ?_)
    · skip
      rw [nI_leI (a := 8) (b := u) (by omega) (by omega)] at c_2
      have hE : 8 = u := by omega
      subst hE
      refine lv_iload_n hx hb dX8_next_186 rfl (lv_at hl 1 rfl) ?_
      have hP9 : va_P (dC, dI) vwCl (mW cI a o (su f 11 (nI (k11 + 1))) (su g 13 ((mNx g k10 (8)).2.2)) (h)) H := hP
      exact W.iret (v := (mNx g k10 8).1) hx hb hr (fun t ht hW => ⟨⟨(mNx g k10 8).1, (su f 11 (nI (k11 + 1)), su g 13 ((mNx g k10 (8)).2.2), h), rfl, (by show (((mNx g k10 8).1, (su f 11 (nI (k11 + 1)), su g 13 ((mNx g k10 (8)).2.2), h)) : _ × MSt) = mNext f g h k10 k11; simp only [mNext, if_neg c_1, if_pos c_2]), by rw [ht]; exact hP9, va_K.moved hW.alike hK, hD⟩, hS.F ht⟩) hS.2.2 dX8_next_187
    · skip
      rw [nI_leI (a := 8) (b := u) (by omega) (by omega)] at c_2
      refine lv_iconst (v := nI (0)) hx hb dX8_next_36 (by decide +kernel) ?_
      refine lv_istore (lv' := [(4, .int (nI (0))), (0, .ref (a)), (1, .int ((mNx g k10 u).1)), (2, .int ((mNx g k10 u).2.1)), (3, .int (nI (u)))]) hx hb dX8_next_37 hl (by decide) rfl (fun ls hl => ?_)
      have hP0 : va_P (dC, dI) vwCl (mW cI a o (su f 11 (nI (k11 + 1))) (su g 13 (fil ((mNx g k10 u).2.2) (fun _ => nI 0) (0))) (h)) H := by rw [fil_0]; exact hP
      have hD0 : va_D A (mW cI a o (su f 11 (nI (k11 + 1))) (su g 13 (fil ((mNx g k10 u).2.2) (fun _ => nI 0) (0))) (h)) := by rw [fil_0]; exact hD
      refine lp_rw (fun k : Nat => 8 - k) (fun k : Nat => k ≤ 8) (fun k : Nat => [(0, .ref (a)), (1, .int ((mNx g k10 u).1)), (2, .int ((mNx g k10 u).2.1)), (3, .int (nI (u))), (4, .int (nI (k)))]) (fun k : Nat => mW cI a o (su f 11 (nI (k11 + 1))) (su g 13 (fil ((mNx g k10 u).2.2) (fun _ => nI 0) (k))) (h)) (0) (by omega) hP0 hD0 hS (by show lv_has ls 6 [(0, .ref (a)), (1, .int ((mNx g k10 u).1)), (2, .int ((mNx g k10 u).2.1)), (3, .int (nI (u))), (4, .int (nI (0)))]; exact lv_sub hl [1, 2, 3, 4, 0] rfl) (fun k hI ih_39 H locs ls hP hD hS hl => ?_)
      have hP : va_P (dC, dI) vwCl (mW cI a o (su f 11 (nI (k11 + 1))) (su g 13 (fil ((mNx g k10 u).2.2) (fun _ => nI 0) (k))) (h)) H := hP
      have hD : va_D A (mW cI a o (su f 11 (nI (k11 + 1))) (su g 13 (fil ((mNx g k10 u).2.2) (fun _ => nI 0) (k))) (h)) := hD
      have hI : k ≤ 8 := hI
      have hl : lv_has ls 6 [(0, .ref (a)), (1, .int ((mNx g k10 u).1)), (2, .int ((mNx g k10 u).2.1)), (3, .int (nI (u))), (4, .int (nI (k)))] := hl
      refine lv_iload hx hb dX8_next_39 (lv_at hl 4 rfl) ?_
      refine lv_bipush (v := nI (8)) hx hb dX8_next_41 (by decide +kernel) ?_
      refine lv_icmp_ge (tgt := 60) hx hb dX8_next_43 (by decide) (fun c_3 => ?_) (fun c_3 => ?_)
      · skip
        rw [nI_leI (a := 8) (b := k) (by omega) (by omega)] at c_3
        have hE : 8 = k := by omega
        subst hE
        refine lv_iconst (v := nI (0)) hx hb dX8_next_60 (by decide +kernel) ?_
        refine lv_istore (lv' := [(4, .int (nI (0))), (0, .ref (a)), (1, .int ((mNx g k10 u).1)), (2, .int ((mNx g k10 u).2.1)), (3, .int (nI (u)))]) hx hb dX8_next_61 hl (by decide) rfl (fun ls hl => ?_)
        have hP0 : va_P (dC, dI) vwCl (mW cI a o (su f 11 (nI (k11 + 1))) (su g 13 (mSays g k10 u (fil ((mNx g k10 u).2.2) (fun _ => nI 0) 8) (0))) (h)) H := by rw [mSays]; exact hP
        have hD0 : va_D A (mW cI a o (su f 11 (nI (k11 + 1))) (su g 13 (mSays g k10 u (fil ((mNx g k10 u).2.2) (fun _ => nI 0) 8) (0))) (h)) := by rw [mSays]; exact hD
        refine lp_rw (fun k : Nat => 320 - k) (fun k : Nat => k ≤ 320) (fun k : Nat => [(0, .ref (a)), (1, .int ((mNx g k10 u).1)), (2, .int ((mNx g k10 u).2.1)), (3, .int (nI (u))), (4, .int (nI (k)))]) (fun k : Nat => mW cI a o (su f 11 (nI (k11 + 1))) (su g 13 (mSays g k10 u (fil ((mNx g k10 u).2.2) (fun _ => nI 0) 8) (k))) (h)) (0) (by omega) hP0 hD0 hS (by show lv_has ls 6 [(0, .ref (a)), (1, .int ((mNx g k10 u).1)), (2, .int ((mNx g k10 u).2.1)), (3, .int (nI (u))), (4, .int (nI (0)))]; exact lv_sub hl [1, 2, 3, 4, 0] rfl) (fun k hI ih_63 H locs ls hP hD hS hl => ?_)
        have hP : va_P (dC, dI) vwCl (mW cI a o (su f 11 (nI (k11 + 1))) (su g 13 (mSays g k10 u (fil ((mNx g k10 u).2.2) (fun _ => nI 0) 8) (k))) (h)) H := hP
        have hD : va_D A (mW cI a o (su f 11 (nI (k11 + 1))) (su g 13 (mSays g k10 u (fil ((mNx g k10 u).2.2) (fun _ => nI 0) 8) (k))) (h)) := hD
        have hI : k ≤ 320 := hI
        have hl : lv_has ls 6 [(0, .ref (a)), (1, .int ((mNx g k10 u).1)), (2, .int ((mNx g k10 u).2.1)), (3, .int (nI (u))), (4, .int (nI (k)))] := hl
        refine lv_iload hx hb dX8_next_63 (lv_at hl 4 rfl) ?_
        refine lv_sipush (v := nI (320)) hx hb dX8_next_65 (by decide +kernel) ?_
        refine lv_icmp_ge (tgt := 105) hx hb dX8_next_68 (by decide) (fun c_4 => ?_) (fun c_4 => ?_)
        · skip
          rw [nI_leI (a := 320) (b := k) (by omega) (by omega)] at c_4
          have hE : 320 = k := by omega
          subst hE
          refine lv_iconst (v := nI (0)) hx hb dX8_next_105 (by decide +kernel) ?_
          refine lv_istore (lv' := [(4, .int (nI (0))), (0, .ref (a)), (1, .int ((mNx g k10 u).1)), (2, .int ((mNx g k10 u).2.1)), (3, .int (nI (u)))]) hx hb dX8_next_106 hl (by decide) rfl (fun ls hl => ?_)
          refine lv_iconst (v := nI (0)) hx hb dX8_next_108 (by decide +kernel) ?_
          refine lv_istore (lv' := [(5, .int (nI (0))), (4, .int (nI (0))), (0, .ref (a)), (1, .int ((mNx g k10 u).1)), (2, .int ((mNx g k10 u).2.1)), (3, .int (nI (u)))]) hx hb dX8_next_109 hl (by decide) rfl (fun ls hl => ?_)
          have e0_4 : (nI (0)) = mWst (mSays g k10 u (fil ((mNx g k10 u).2.2) (fun _ => nI 0) 8) 320) 0 := rfl
          have hP0 : va_P (dC, dI) vwCl (mW cI a o (su f 11 (nI (k11 + 1))) (su g 13 (mSays g k10 u (fil ((mNx g k10 u).2.2) (fun _ => nI 0) 8) (320))) (h)) H := by skip; exact hP
          have hD0 : va_D A (mW cI a o (su f 11 (nI (k11 + 1))) (su g 13 (mSays g k10 u (fil ((mNx g k10 u).2.2) (fun _ => nI 0) 8) (320))) (h)) := by skip; exact hD
          refine lp_rw (fun k : Nat => 8 - k) (fun k : Nat => k ≤ 8) (fun k : Nat => [(0, .ref (a)), (1, .int ((mNx g k10 u).1)), (2, .int ((mNx g k10 u).2.1)), (3, .int (nI (u))), (4, .int (mWst (mSays g k10 u (fil ((mNx g k10 u).2.2) (fun _ => nI 0) 8) 320) k)), (5, .int (nI (k)))]) (fun k : Nat => mW cI a o (su f 11 (nI (k11 + 1))) (su g 13 (mSays g k10 u (fil ((mNx g k10 u).2.2) (fun _ => nI 0) 8) (320))) (h)) (0) (by omega) hP0 hD0 hS (by show lv_has ls 6 [(0, .ref (a)), (1, .int ((mNx g k10 u).1)), (2, .int ((mNx g k10 u).2.1)), (3, .int (nI (u))), (4, .int (mWst (mSays g k10 u (fil ((mNx g k10 u).2.2) (fun _ => nI 0) 8) 320) 0)), (5, .int (nI (0)))]; rw [← e0_4]; exact lv_sub hl [2, 3, 4, 5, 1, 0] rfl) (fun k hI ih_111 H locs ls hP hD hS hl => ?_)
          have hP : va_P (dC, dI) vwCl (mW cI a o (su f 11 (nI (k11 + 1))) (su g 13 (mSays g k10 u (fil ((mNx g k10 u).2.2) (fun _ => nI 0) 8) (320))) (h)) H := hP
          have hD : va_D A (mW cI a o (su f 11 (nI (k11 + 1))) (su g 13 (mSays g k10 u (fil ((mNx g k10 u).2.2) (fun _ => nI 0) 8) (320))) (h)) := hD
          have hI : k ≤ 8 := hI
          have hl : lv_has ls 6 [(0, .ref (a)), (1, .int ((mNx g k10 u).1)), (2, .int ((mNx g k10 u).2.1)), (3, .int (nI (u))), (4, .int (mWst (mSays g k10 u (fil ((mNx g k10 u).2.2) (fun _ => nI 0) 8) 320) k)), (5, .int (nI (k)))] := hl
          refine lv_iload hx hb dX8_next_111 (lv_at hl 5 rfl) ?_
          refine lv_bipush (v := nI (8)) hx hb dX8_next_113 (by decide +kernel) ?_
          refine lv_icmp_ge (tgt := 150) hx hb dX8_next_115 (by decide) (fun c_5 => ?_) (fun c_5 => ?_)
          · skip
            rw [nI_leI (a := 8) (b := k) (by omega) (by omega)] at c_5
            have hE : 8 = k := by omega
            subst hE
            refine lv_iload hx hb dX8_next_150 (lv_at hl 4 rfl) ?_
            refine lv_if_le (tgt := 165) hx hb dX8_next_152 (by decide) (fun c_6 => ?_) (fun c_6 => ?_)
            · skip
              rw [lei, show (0 : Int32).toInt = 0 from rfl] at c_6
              refine lv_iload_n hx hb dX8_next_165 rfl (lv_at hl 1 rfl) ?_
              refine lv_istore_n (lv' := [(1, .int ((mNx g k10 u).1)), (0, .ref (a)), (2, .int ((mNx g k10 u).2.1)), (3, .int (nI (u))), (4, .int (mWst (mSays g k10 u (fil ((mNx g k10 u).2.2) (fun _ => nI 0) 8) 320) 8)), (5, .int (nI (8)))]) hx hb dX8_next_166 rfl hl (by decide) rfl (fun ls hl => ?_)
              refine lv_iload hx hb dX8_next_167 (lv_at hl 4 rfl) ?_
              refine lv_iload_n hx hb dX8_next_169 rfl (lv_at hl 2 rfl) ?_
              refine lv_icmp_ge (tgt := 178) hx hb dX8_next_170 (by decide) (fun c_7 => ?_) (fun c_7 => ?_)
              · skip
                rw [lei] at c_7
                refine lv_iload_n hx hb dX8_next_178 rfl (lv_at hl 2 rfl) ?_
                refine lv_istore_n (lv' := [(2, .int ((mNx g k10 u).2.1)), (1, .int ((mNx g k10 u).1)), (0, .ref (a)), (3, .int (nI (u))), (4, .int (mWst (mSays g k10 u (fil ((mNx g k10 u).2.2) (fun _ => nI 0) 8) 320) 8)), (5, .int (nI (8)))]) hx hb dX8_next_179 rfl hl (by decide) rfl (fun ls hl => ?_)
                refine lv_iinc (v := nI (u + 1)) (lv' := [(3, .int (nI (u + 1))), (2, .int ((mNx g k10 u).2.1)), (1, .int ((mNx g k10 u).1)), (0, .ref (a)), (4, .int (mWst (mSays g k10 u (fil ((mNx g k10 u).2.2) (fun _ => nI 0) 8) 320) 8)), (5, .int (nI (8)))]) hx hb dX8_next_180 hl (k := 3) rfl (nI_1 _) (by decide) rfl (fun ls hl => ?_)
                refine lv_goto (tgt := 30) hx hb dX8_next_183 (by decide) ?_
                have e1_1 : ((mNx g k10 u).1) = (mNx g k10 (u + 1)).1 := by first | (simp only [mNx, if_neg c_1, if_neg c_2, if_pos c_3, if_pos c_4, if_pos c_5, if_pos c_6, if_pos c_7]; done) | exact absurd c_6 c_7 | exact absurd c_7 c_6
                have e1_2 : ((mNx g k10 u).2.1) = (mNx g k10 (u + 1)).2.1 := by first | (simp only [mNx, if_neg c_1, if_neg c_2, if_pos c_3, if_pos c_4, if_pos c_5, if_pos c_6, if_pos c_7]; done) | exact absurd c_6 c_7 | exact absurd c_7 c_6
                have e2_0 : mSays g k10 u (fil ((mNx g k10 u).2.2) (fun _ => nI 0) 8) (320) = (mNx g k10 (u + 1)).2.2 := by rfl
                have hP : va_P (dC, dI) vwCl (mW cI a o (su f 11 (nI (k11 + 1))) (su g 13 ((mNx g k10 (u + 1)).2.2)) (h)) H := by rw [← e2_0]; exact hP
                have hD : va_D A (mW cI a o (su f 11 (nI (k11 + 1))) (su g 13 ((mNx g k10 (u + 1)).2.2)) (h)) := by rw [← e2_0]; exact hD
                exact ih_30 (u + 1) H locs ls (by show _ < _; omega) (by show _; omega) hP hD hS (by show lv_has ls 6 [(0, .ref (a)), (1, .int ((mNx g k10 (u + 1)).1)), (2, .int ((mNx g k10 (u + 1)).2.1)), (3, .int (nI ((u + 1))))]; rw [← e1_1, ← e1_2]; exact lv_sub hl [3, 2, 1, 0] rfl)
              · skip
                rw [lei] at c_7
                refine lv_iload hx hb dX8_next_173 (lv_at hl 4 rfl) ?_
                refine lv_goto (tgt := 179) hx hb dX8_next_175 (by decide) ?_
                refine lv_istore_n (lv' := [(2, .int (mWst (mSays g k10 u (fil ((mNx g k10 u).2.2) (fun _ => nI 0) 8) 320) 8)), (1, .int ((mNx g k10 u).1)), (0, .ref (a)), (3, .int (nI (u))), (4, .int (mWst (mSays g k10 u (fil ((mNx g k10 u).2.2) (fun _ => nI 0) 8) 320) 8)), (5, .int (nI (8)))]) hx hb dX8_next_179 rfl hl (by decide) rfl (fun ls hl => ?_)
                refine lv_iinc (v := nI (u + 1)) (lv' := [(3, .int (nI (u + 1))), (2, .int (mWst (mSays g k10 u (fil ((mNx g k10 u).2.2) (fun _ => nI 0) 8) 320) 8)), (1, .int ((mNx g k10 u).1)), (0, .ref (a)), (4, .int (mWst (mSays g k10 u (fil ((mNx g k10 u).2.2) (fun _ => nI 0) 8) 320) 8)), (5, .int (nI (8)))]) hx hb dX8_next_180 hl (k := 3) rfl (nI_1 _) (by decide) rfl (fun ls hl => ?_)
                refine lv_goto (tgt := 30) hx hb dX8_next_183 (by decide) ?_
                have e1_1 : ((mNx g k10 u).1) = (mNx g k10 (u + 1)).1 := by first | (simp only [mNx, if_neg c_1, if_neg c_2, if_pos c_3, if_pos c_4, if_pos c_5, if_pos c_6, if_neg c_7]; done) | exact absurd c_6 c_7 | exact absurd c_7 c_6
                have e1_2 : (mWst (mSays g k10 u (fil ((mNx g k10 u).2.2) (fun _ => nI 0) 8) 320) 8) = (mNx g k10 (u + 1)).2.1 := by first | (simp only [mNx, if_neg c_1, if_neg c_2, if_pos c_3, if_pos c_4, if_pos c_5, if_pos c_6, if_neg c_7]; done) | exact absurd c_6 c_7 | exact absurd c_7 c_6
                have e2_0 : mSays g k10 u (fil ((mNx g k10 u).2.2) (fun _ => nI 0) 8) (320) = (mNx g k10 (u + 1)).2.2 := by rfl
                have hP : va_P (dC, dI) vwCl (mW cI a o (su f 11 (nI (k11 + 1))) (su g 13 ((mNx g k10 (u + 1)).2.2)) (h)) H := by rw [← e2_0]; exact hP
                have hD : va_D A (mW cI a o (su f 11 (nI (k11 + 1))) (su g 13 ((mNx g k10 (u + 1)).2.2)) (h)) := by rw [← e2_0]; exact hD
                exact ih_30 (u + 1) H locs ls (by show _ < _; omega) (by show _; omega) hP hD hS (by show lv_has ls 6 [(0, .ref (a)), (1, .int ((mNx g k10 (u + 1)).1)), (2, .int ((mNx g k10 (u + 1)).2.1)), (3, .int (nI ((u + 1))))]; rw [← e1_1, ← e1_2]; exact lv_sub hl [3, 2, 1, 0] rfl)
            · skip
              rw [lei, show (0 : Int32).toInt = 0 from rfl] at c_6
              refine lv_iload hx hb dX8_next_155 (lv_at hl 4 rfl) ?_
              refine lv_iload_n hx hb dX8_next_157 rfl (lv_at hl 2 rfl) ?_
              refine lv_icmp_ge (tgt := 165) hx hb dX8_next_158 (by decide) (fun c_8 => ?_) (fun c_8 => ?_)
              · skip
                rw [lei] at c_8
                refine lv_iload_n hx hb dX8_next_165 rfl (lv_at hl 1 rfl) ?_
                refine lv_istore_n (lv' := [(1, .int ((mNx g k10 u).1)), (0, .ref (a)), (2, .int ((mNx g k10 u).2.1)), (3, .int (nI (u))), (4, .int (mWst (mSays g k10 u (fil ((mNx g k10 u).2.2) (fun _ => nI 0) 8) 320) 8)), (5, .int (nI (8)))]) hx hb dX8_next_166 rfl hl (by decide) rfl (fun ls hl => ?_)
                refine lv_iload hx hb dX8_next_167 (lv_at hl 4 rfl) ?_
                refine lv_iload_n hx hb dX8_next_169 rfl (lv_at hl 2 rfl) ?_
                refine lv_icmp_ge (tgt := 178) hx hb dX8_next_170 (by decide) (fun c_9 => ?_) (fun c_9 => ?_)
                · skip
                  rw [lei] at c_9
                  refine lv_iload_n hx hb dX8_next_178 rfl (lv_at hl 2 rfl) ?_
                  refine lv_istore_n (lv' := [(2, .int ((mNx g k10 u).2.1)), (1, .int ((mNx g k10 u).1)), (0, .ref (a)), (3, .int (nI (u))), (4, .int (mWst (mSays g k10 u (fil ((mNx g k10 u).2.2) (fun _ => nI 0) 8) 320) 8)), (5, .int (nI (8)))]) hx hb dX8_next_179 rfl hl (by decide) rfl (fun ls hl => ?_)
                  refine lv_iinc (v := nI (u + 1)) (lv' := [(3, .int (nI (u + 1))), (2, .int ((mNx g k10 u).2.1)), (1, .int ((mNx g k10 u).1)), (0, .ref (a)), (4, .int (mWst (mSays g k10 u (fil ((mNx g k10 u).2.2) (fun _ => nI 0) 8) 320) 8)), (5, .int (nI (8)))]) hx hb dX8_next_180 hl (k := 3) rfl (nI_1 _) (by decide) rfl (fun ls hl => ?_)
                  refine lv_goto (tgt := 30) hx hb dX8_next_183 (by decide) ?_
                  have e1_1 : ((mNx g k10 u).1) = (mNx g k10 (u + 1)).1 := by first | (simp only [mNx, if_neg c_1, if_neg c_2, if_pos c_3, if_pos c_4, if_pos c_5, if_neg c_6, if_pos c_8, if_pos c_9]; done) | exact absurd c_8 c_9 | exact absurd c_9 c_8
                  have e1_2 : ((mNx g k10 u).2.1) = (mNx g k10 (u + 1)).2.1 := by first | (simp only [mNx, if_neg c_1, if_neg c_2, if_pos c_3, if_pos c_4, if_pos c_5, if_neg c_6, if_pos c_8, if_pos c_9]; done) | exact absurd c_8 c_9 | exact absurd c_9 c_8
                  have e2_0 : mSays g k10 u (fil ((mNx g k10 u).2.2) (fun _ => nI 0) 8) (320) = (mNx g k10 (u + 1)).2.2 := by rfl
                  have hP : va_P (dC, dI) vwCl (mW cI a o (su f 11 (nI (k11 + 1))) (su g 13 ((mNx g k10 (u + 1)).2.2)) (h)) H := by rw [← e2_0]; exact hP
                  have hD : va_D A (mW cI a o (su f 11 (nI (k11 + 1))) (su g 13 ((mNx g k10 (u + 1)).2.2)) (h)) := by rw [← e2_0]; exact hD
                  exact ih_30 (u + 1) H locs ls (by show _ < _; omega) (by show _; omega) hP hD hS (by show lv_has ls 6 [(0, .ref (a)), (1, .int ((mNx g k10 (u + 1)).1)), (2, .int ((mNx g k10 (u + 1)).2.1)), (3, .int (nI ((u + 1))))]; rw [← e1_1, ← e1_2]; exact lv_sub hl [3, 2, 1, 0] rfl)
                · skip
                  rw [lei] at c_9
                  refine lv_iload hx hb dX8_next_173 (lv_at hl 4 rfl) ?_
                  refine lv_goto (tgt := 179) hx hb dX8_next_175 (by decide) ?_
                  refine lv_istore_n (lv' := [(2, .int (mWst (mSays g k10 u (fil ((mNx g k10 u).2.2) (fun _ => nI 0) 8) 320) 8)), (1, .int ((mNx g k10 u).1)), (0, .ref (a)), (3, .int (nI (u))), (4, .int (mWst (mSays g k10 u (fil ((mNx g k10 u).2.2) (fun _ => nI 0) 8) 320) 8)), (5, .int (nI (8)))]) hx hb dX8_next_179 rfl hl (by decide) rfl (fun ls hl => ?_)
                  refine lv_iinc (v := nI (u + 1)) (lv' := [(3, .int (nI (u + 1))), (2, .int (mWst (mSays g k10 u (fil ((mNx g k10 u).2.2) (fun _ => nI 0) 8) 320) 8)), (1, .int ((mNx g k10 u).1)), (0, .ref (a)), (4, .int (mWst (mSays g k10 u (fil ((mNx g k10 u).2.2) (fun _ => nI 0) 8) 320) 8)), (5, .int (nI (8)))]) hx hb dX8_next_180 hl (k := 3) rfl (nI_1 _) (by decide) rfl (fun ls hl => ?_)
                  refine lv_goto (tgt := 30) hx hb dX8_next_183 (by decide) ?_
                  have e1_1 : ((mNx g k10 u).1) = (mNx g k10 (u + 1)).1 := by first | (simp only [mNx, if_neg c_1, if_neg c_2, if_pos c_3, if_pos c_4, if_pos c_5, if_neg c_6, if_pos c_8, if_neg c_9]; done) | exact absurd c_8 c_9 | exact absurd c_9 c_8
                  have e1_2 : (mWst (mSays g k10 u (fil ((mNx g k10 u).2.2) (fun _ => nI 0) 8) 320) 8) = (mNx g k10 (u + 1)).2.1 := by first | (simp only [mNx, if_neg c_1, if_neg c_2, if_pos c_3, if_pos c_4, if_pos c_5, if_neg c_6, if_pos c_8, if_neg c_9]; done) | exact absurd c_8 c_9 | exact absurd c_9 c_8
                  have e2_0 : mSays g k10 u (fil ((mNx g k10 u).2.2) (fun _ => nI 0) 8) (320) = (mNx g k10 (u + 1)).2.2 := by rfl
                  have hP : va_P (dC, dI) vwCl (mW cI a o (su f 11 (nI (k11 + 1))) (su g 13 ((mNx g k10 (u + 1)).2.2)) (h)) H := by rw [← e2_0]; exact hP
                  have hD : va_D A (mW cI a o (su f 11 (nI (k11 + 1))) (su g 13 ((mNx g k10 (u + 1)).2.2)) (h)) := by rw [← e2_0]; exact hD
                  exact ih_30 (u + 1) H locs ls (by show _ < _; omega) (by show _; omega) hP hD hS (by show lv_has ls 6 [(0, .ref (a)), (1, .int ((mNx g k10 (u + 1)).1)), (2, .int ((mNx g k10 (u + 1)).2.1)), (3, .int (nI ((u + 1))))]; rw [← e1_1, ← e1_2]; exact lv_sub hl [3, 2, 1, 0] rfl)
              · skip
                rw [lei] at c_8
                refine lv_iload_n hx hb dX8_next_161 rfl (lv_at hl 3 rfl) ?_
                refine lv_goto (tgt := 166) hx hb dX8_next_162 (by decide) ?_
                refine lv_istore_n (lv' := [(1, .int (nI (u))), (0, .ref (a)), (2, .int ((mNx g k10 u).2.1)), (3, .int (nI (u))), (4, .int (mWst (mSays g k10 u (fil ((mNx g k10 u).2.2) (fun _ => nI 0) 8) 320) 8)), (5, .int (nI (8)))]) hx hb dX8_next_166 rfl hl (by decide) rfl (fun ls hl => ?_)
                refine lv_iload hx hb dX8_next_167 (lv_at hl 4 rfl) ?_
                refine lv_iload_n hx hb dX8_next_169 rfl (lv_at hl 2 rfl) ?_
                refine lv_icmp_ge (tgt := 178) hx hb dX8_next_170 (by decide) (fun c_10 => ?_) (fun c_10 => ?_)
                · skip
                  rw [lei] at c_10
                  refine lv_iload_n hx hb dX8_next_178 rfl (lv_at hl 2 rfl) ?_
                  refine lv_istore_n (lv' := [(2, .int ((mNx g k10 u).2.1)), (1, .int (nI (u))), (0, .ref (a)), (3, .int (nI (u))), (4, .int (mWst (mSays g k10 u (fil ((mNx g k10 u).2.2) (fun _ => nI 0) 8) 320) 8)), (5, .int (nI (8)))]) hx hb dX8_next_179 rfl hl (by decide) rfl (fun ls hl => ?_)
                  refine lv_iinc (v := nI (u + 1)) (lv' := [(3, .int (nI (u + 1))), (2, .int ((mNx g k10 u).2.1)), (1, .int (nI (u))), (0, .ref (a)), (4, .int (mWst (mSays g k10 u (fil ((mNx g k10 u).2.2) (fun _ => nI 0) 8) 320) 8)), (5, .int (nI (8)))]) hx hb dX8_next_180 hl (k := 3) rfl (nI_1 _) (by decide) rfl (fun ls hl => ?_)
                  refine lv_goto (tgt := 30) hx hb dX8_next_183 (by decide) ?_
                  have e1_1 : (nI (u)) = (mNx g k10 (u + 1)).1 := by first | (simp only [mNx, if_neg c_1, if_neg c_2, if_pos c_3, if_pos c_4, if_pos c_5, if_neg c_6, if_neg c_8, if_pos c_10]; done) | exact absurd c_8 c_10 | exact absurd c_10 c_8
                  have e1_2 : ((mNx g k10 u).2.1) = (mNx g k10 (u + 1)).2.1 := by first | (simp only [mNx, if_neg c_1, if_neg c_2, if_pos c_3, if_pos c_4, if_pos c_5, if_neg c_6, if_neg c_8, if_pos c_10]; done) | exact absurd c_8 c_10 | exact absurd c_10 c_8
                  have e2_0 : mSays g k10 u (fil ((mNx g k10 u).2.2) (fun _ => nI 0) 8) (320) = (mNx g k10 (u + 1)).2.2 := by rfl
                  have hP : va_P (dC, dI) vwCl (mW cI a o (su f 11 (nI (k11 + 1))) (su g 13 ((mNx g k10 (u + 1)).2.2)) (h)) H := by rw [← e2_0]; exact hP
                  have hD : va_D A (mW cI a o (su f 11 (nI (k11 + 1))) (su g 13 ((mNx g k10 (u + 1)).2.2)) (h)) := by rw [← e2_0]; exact hD
                  exact ih_30 (u + 1) H locs ls (by show _ < _; omega) (by show _; omega) hP hD hS (by show lv_has ls 6 [(0, .ref (a)), (1, .int ((mNx g k10 (u + 1)).1)), (2, .int ((mNx g k10 (u + 1)).2.1)), (3, .int (nI ((u + 1))))]; rw [← e1_1, ← e1_2]; exact lv_sub hl [3, 2, 1, 0] rfl)
                · skip
                  rw [lei] at c_10
                  refine lv_iload hx hb dX8_next_173 (lv_at hl 4 rfl) ?_
                  refine lv_goto (tgt := 179) hx hb dX8_next_175 (by decide) ?_
                  refine lv_istore_n (lv' := [(2, .int (mWst (mSays g k10 u (fil ((mNx g k10 u).2.2) (fun _ => nI 0) 8) 320) 8)), (1, .int (nI (u))), (0, .ref (a)), (3, .int (nI (u))), (4, .int (mWst (mSays g k10 u (fil ((mNx g k10 u).2.2) (fun _ => nI 0) 8) 320) 8)), (5, .int (nI (8)))]) hx hb dX8_next_179 rfl hl (by decide) rfl (fun ls hl => ?_)
                  refine lv_iinc (v := nI (u + 1)) (lv' := [(3, .int (nI (u + 1))), (2, .int (mWst (mSays g k10 u (fil ((mNx g k10 u).2.2) (fun _ => nI 0) 8) 320) 8)), (1, .int (nI (u))), (0, .ref (a)), (4, .int (mWst (mSays g k10 u (fil ((mNx g k10 u).2.2) (fun _ => nI 0) 8) 320) 8)), (5, .int (nI (8)))]) hx hb dX8_next_180 hl (k := 3) rfl (nI_1 _) (by decide) rfl (fun ls hl => ?_)
                  refine lv_goto (tgt := 30) hx hb dX8_next_183 (by decide) ?_
                  have e1_1 : (nI (u)) = (mNx g k10 (u + 1)).1 := by first | (simp only [mNx, if_neg c_1, if_neg c_2, if_pos c_3, if_pos c_4, if_pos c_5, if_neg c_6, if_neg c_8, if_neg c_10]; done) | exact absurd c_8 c_10 | exact absurd c_10 c_8
                  have e1_2 : (mWst (mSays g k10 u (fil ((mNx g k10 u).2.2) (fun _ => nI 0) 8) 320) 8) = (mNx g k10 (u + 1)).2.1 := by first | (simp only [mNx, if_neg c_1, if_neg c_2, if_pos c_3, if_pos c_4, if_pos c_5, if_neg c_6, if_neg c_8, if_neg c_10]; done) | exact absurd c_8 c_10 | exact absurd c_10 c_8
                  have e2_0 : mSays g k10 u (fil ((mNx g k10 u).2.2) (fun _ => nI 0) 8) (320) = (mNx g k10 (u + 1)).2.2 := by rfl
                  have hP : va_P (dC, dI) vwCl (mW cI a o (su f 11 (nI (k11 + 1))) (su g 13 ((mNx g k10 (u + 1)).2.2)) (h)) H := by rw [← e2_0]; exact hP
                  have hD : va_D A (mW cI a o (su f 11 (nI (k11 + 1))) (su g 13 ((mNx g k10 (u + 1)).2.2)) (h)) := by rw [← e2_0]; exact hD
                  exact ih_30 (u + 1) H locs ls (by show _ < _; omega) (by show _; omega) hP hD hS (by show lv_has ls 6 [(0, .ref (a)), (1, .int ((mNx g k10 (u + 1)).1)), (2, .int ((mNx g k10 (u + 1)).2.1)), (3, .int (nI ((u + 1))))]; rw [← e1_1, ← e1_2]; exact lv_sub hl [3, 2, 1, 0] rfl)
          · skip
            rw [nI_leI (a := 8) (b := k) (by omega) (by omega)] at c_5
            refine lv_aload_n hx hb dX8_next_118 rfl (lv_at hl 0 rfl) ?_
            refine va_get (D := (dC, dI)) (ci := 8) (v := .ref (o 13)) (C := RX8) (T := TX8) (N := 25) hx hb hts hin8 hown hK hP 0 rfl rfl 13 (by decide) hW1 (fun _ h9 => h9) rfl dX8_next_119 ?_
            refine lv_iload hx hb dX8_next_122 (lv_at hl 5 rfl) ?_
            refine ald hx hb hK hP (f := mSays g k10 u (fil ((mNx g k10 u).2.2) (fun _ => nI 0) 8) (320)) (k := k) 6 0 rfl rfl rfl (by omega) (by decide) dX8_next_124 ?_
            refine lv_iload hx hb dX8_next_125 (lv_at hl 4 rfl) ?_
            refine lv_icmp_le (tgt := 140) hx hb dX8_next_127 (by decide) (fun c_11 => ?_) (fun c_11 => ?_)
            · skip
              rw [lei] at c_11
              refine lv_iload hx hb dX8_next_140 (lv_at hl 4 rfl) ?_
              refine lv_istore (lv' := [(4, .int (mWst (mSays g k10 u (fil ((mNx g k10 u).2.2) (fun _ => nI 0) 8) 320) k)), (0, .ref (a)), (1, .int ((mNx g k10 u).1)), (2, .int ((mNx g k10 u).2.1)), (3, .int (nI (u))), (5, .int (nI (k)))]) hx hb dX8_next_142 hl (by decide) rfl (fun ls hl => ?_)
              refine lv_iinc (v := nI (k + 1)) (lv' := [(5, .int (nI (k + 1))), (4, .int (mWst (mSays g k10 u (fil ((mNx g k10 u).2.2) (fun _ => nI 0) 8) 320) k)), (0, .ref (a)), (1, .int ((mNx g k10 u).1)), (2, .int ((mNx g k10 u).2.1)), (3, .int (nI (u)))]) hx hb dX8_next_144 hl (k := 5) rfl (nI_1 _) (by decide) rfl (fun ls hl => ?_)
              refine lv_goto (tgt := 111) hx hb dX8_next_147 (by decide) ?_
              have e1_4 : (mWst (mSays g k10 u (fil ((mNx g k10 u).2.2) (fun _ => nI 0) 8) 320) k) = mWst (mSays g k10 u (fil ((mNx g k10 u).2.2) (fun _ => nI 0) 8) 320) (k + 1) := by rw [mWst]; first | (rw [if_pos c_11]; done) | (rw [if_neg c_11]; done)
              have hP : va_P (dC, dI) vwCl (mW cI a o (su f 11 (nI (k11 + 1))) (su g 13 (mSays g k10 u (fil ((mNx g k10 u).2.2) (fun _ => nI 0) 8) (320))) (h)) H := by exact hP
              have hD : va_D A (mW cI a o (su f 11 (nI (k11 + 1))) (su g 13 (mSays g k10 u (fil ((mNx g k10 u).2.2) (fun _ => nI 0) 8) (320))) (h)) := by exact hD
              exact ih_111 (k + 1) H locs ls (by show _ < _; omega) (by show _; omega) hP hD hS (by show lv_has ls 6 [(0, .ref (a)), (1, .int ((mNx g k10 u).1)), (2, .int ((mNx g k10 u).2.1)), (3, .int (nI (u))), (4, .int (mWst (mSays g k10 u (fil ((mNx g k10 u).2.2) (fun _ => nI 0) 8) 320) (k + 1))), (5, .int (nI ((k + 1))))]; rw [← e1_4]; exact lv_sub hl [2, 3, 4, 5, 1, 0] rfl)
            · skip
              rw [lei] at c_11
              refine lv_aload_n hx hb dX8_next_130 rfl (lv_at hl 0 rfl) ?_
              refine va_get (D := (dC, dI)) (ci := 8) (v := .ref (o 13)) (C := RX8) (T := TX8) (N := 25) hx hb hts hin8 hown hK hP 0 rfl rfl 13 (by decide) hW1 (fun _ h9 => h9) rfl dX8_next_131 ?_
              refine lv_iload hx hb dX8_next_134 (lv_at hl 5 rfl) ?_
              refine ald hx hb hK hP (f := mSays g k10 u (fil ((mNx g k10 u).2.2) (fun _ => nI 0) 8) (320)) (k := k) 6 0 rfl rfl rfl (by omega) (by decide) dX8_next_136 ?_
              refine lv_goto (tgt := 142) hx hb dX8_next_137 (by decide) ?_
              refine lv_istore (lv' := [(4, .int ((mSays g k10 u (fil ((mNx g k10 u).2.2) (fun _ => nI 0) 8) (320)) (k))), (0, .ref (a)), (1, .int ((mNx g k10 u).1)), (2, .int ((mNx g k10 u).2.1)), (3, .int (nI (u))), (5, .int (nI (k)))]) hx hb dX8_next_142 hl (by decide) rfl (fun ls hl => ?_)
              refine lv_iinc (v := nI (k + 1)) (lv' := [(5, .int (nI (k + 1))), (4, .int ((mSays g k10 u (fil ((mNx g k10 u).2.2) (fun _ => nI 0) 8) (320)) (k))), (0, .ref (a)), (1, .int ((mNx g k10 u).1)), (2, .int ((mNx g k10 u).2.1)), (3, .int (nI (u)))]) hx hb dX8_next_144 hl (k := 5) rfl (nI_1 _) (by decide) rfl (fun ls hl => ?_)
              refine lv_goto (tgt := 111) hx hb dX8_next_147 (by decide) ?_
              have e1_4 : ((mSays g k10 u (fil ((mNx g k10 u).2.2) (fun _ => nI 0) 8) (320)) (k)) = mWst (mSays g k10 u (fil ((mNx g k10 u).2.2) (fun _ => nI 0) 8) 320) (k + 1) := by rw [mWst]; first | (rw [if_pos c_11]; done) | (rw [if_neg c_11]; done)
              have hP : va_P (dC, dI) vwCl (mW cI a o (su f 11 (nI (k11 + 1))) (su g 13 (mSays g k10 u (fil ((mNx g k10 u).2.2) (fun _ => nI 0) 8) (320))) (h)) H := by exact hP
              have hD : va_D A (mW cI a o (su f 11 (nI (k11 + 1))) (su g 13 (mSays g k10 u (fil ((mNx g k10 u).2.2) (fun _ => nI 0) 8) (320))) (h)) := by exact hD
              exact ih_111 (k + 1) H locs ls (by show _ < _; omega) (by show _; omega) hP hD hS (by show lv_has ls 6 [(0, .ref (a)), (1, .int ((mNx g k10 u).1)), (2, .int ((mNx g k10 u).2.1)), (3, .int (nI (u))), (4, .int (mWst (mSays g k10 u (fil ((mNx g k10 u).2.2) (fun _ => nI 0) 8) 320) (k + 1))), (5, .int (nI ((k + 1))))]; rw [← e1_4]; exact lv_sub hl [2, 3, 4, 5, 1, 0] rfl)
        · skip
          rw [nI_leI (a := 320) (b := k) (by omega) (by omega)] at c_4
          refine lv_aload_n hx hb dX8_next_71 rfl (lv_at hl 0 rfl) ?_
          refine va_get (D := (dC, dI)) (ci := 8) (v := .ref (o 13)) (C := RX8) (T := TX8) (N := 25) hx hb hts hin8 hown hK hP 0 rfl rfl 13 (by decide) hW1 (fun _ h9 => h9) rfl dX8_next_72 ?_
          refine lv_iload hx hb dX8_next_75 (lv_at hl 4 rfl) ?_
          refine lv_iload_n hx hb dX8_next_77 rfl (lv_at hl 3 rfl) ?_
          refine vp_callSi (va_Run.run (va_runS (As := [.int (nI (k)), .int (nI (u))]) (rest := [.ref (o 13)]) ⟨hx, hb, hml, hown, hts⟩ (c8_seenByCode l (k) (by omega) (nI (u))) (va_cwS 2 hts gX8_next_X8_seenByCode rfl rfl rfl (by decide +kernel) ⟨Nat.le_of_ble_eq_true rfl, Nat.le_of_ble_eq_true rfl⟩) ⟨fun _ _ _ _ q => q, fun U hU hW => ⟨rfl, trivial⟩⟩ rfl rfl hl.1 rfl (lv_room (Nat.le_of_ble_eq_true rfl)) dX8_next_78 ⟨Nat.le_of_ble_eq_true rfl, Nat.le_of_ble_eq_true rfl⟩)) (fun r hrc => ?_)
          have hrc : r = see (nI ((k) / 64)) (nI ((k) / 8 % 8)) (nI ((k) % 8)) (nI (u)) := hrc
          subst hrc
          refine lv_dup2_11 hx hb dX8_next_81 rfl rfl ?_
          refine ald hx hb hK hP (f := mSays g k10 u (fil ((mNx g k10 u).2.2) (fun _ => nI 0) 8) (k)) (k := sayN (k) (u)) 6 0 rfl rfl (sayN_e _ _ (by omega) (by omega)) (sayN_b _ _ (by omega) (by omega)) (by decide) dX8_next_82 ?_
          refine lv_aload_n hx hb dX8_next_83 rfl (lv_at hl 0 rfl) ?_
          refine lv_iload hx hb dX8_next_84 (lv_at hl 4 rfl) ?_
          refine vp_callSi (va_Run.run (va_runV (As := [.int (nI (k))]) (rest := [.int ((mSays g k10 u (fil ((mNx g k10 u).2.2) (fun _ => nI 0) 8) (k)) (sayN (k) (u))), .int (see (nI ((k) / 64)) (nI ((k) / 8 % 8)) (nI ((k) % 8)) (nI (u))), .ref (o 13)]) ⟨hx, hb, hml, hown, hts⟩ (c8_isSo l dC dI cI a o (su f 11 (nI (k11 + 1))) (su g 13 (mSays g k10 u (fil ((mNx g k10 u).2.2) (fun _ => nI 0) 8) (k))) (h) e10 (by omega)  (k) (by omega)) (cwV 1 hts gX8_next_X8_isSo rfl rfl rfl (by decide +kernel) ⟨Nat.le_of_ble_eq_true rfl, Nat.le_of_ble_eq_true rfl⟩) ⟨fun a U g mk q => ⟨q.1, q.2.1, va_K.moved (u := U) (U := U.calling g mk a) (Vm.Alike.refl U.vm) q.2.2⟩, va_recv hK hP (ci := 8) (q0 := 0) rfl rfl, fun U hU hW => ⟨rfl, by rw [hU]; exact hP, va_K.moved hW.alike hK⟩⟩ rfl rfl hl.1 rfl (lv_room (Nat.le_of_ble_eq_true rfl)) dX8_next_86 ⟨Nat.le_of_ble_eq_true rfl, Nat.le_of_ble_eq_true rfl⟩)) (fun r hrc => ?_)
          have hrc : r = b2i (mSo (g) (k10) (k) = true) := hrc
          subst hrc
          refine lv_if_eq (tgt := 96) hx hb dX8_next_89 (by decide) (fun c_12 => ?_) (fun c_12 => ?_)
          · skip
            have c_12 := b2i_0 c_12
            refine lv_iconst (v := nI (0)) hx hb dX8_next_96 (by decide +kernel) ?_
            refine lv_iadd hx hb dX8_next_97 ?_
            refine ast hx hb hK hP hD hS (f := mSays g k10 u (fil ((mNx g k10 u).2.2) (fun _ => nI 0) 8) (k)) (k := sayN (k) (u)) 6 0 rfl rfl (sayN_e _ _ (by omega) (by omega)) (sayN_b _ _ (by omega) (by omega)) (by decide) dX8_next_98 (fun H locs hP hD hS => ?_)
            have hP : va_P (dC, dI) vwCl (mW cI a o (su f 11 (nI (k11 + 1))) (su g 13 (su (mSays g k10 u (fil ((mNx g k10 u).2.2) (fun _ => nI 0) 8) (k)) (sayN (k) (u)) (((mSays g k10 u (fil ((mNx g k10 u).2.2) (fun _ => nI 0) 8) (k)) (sayN (k) (u))) + (nI (0))))) (h)) H := hP
            have hD : va_D A (mW cI a o (su f 11 (nI (k11 + 1))) (su g 13 (su (mSays g k10 u (fil ((mNx g k10 u).2.2) (fun _ => nI 0) 8) (k)) (sayN (k) (u)) (((mSays g k10 u (fil ((mNx g k10 u).2.2) (fun _ => nI 0) 8) (k)) (sayN (k) (u))) + (nI (0))))) (h)) := hD
            refine lv_iinc (v := nI (k + 1)) (lv' := [(4, .int (nI (k + 1))), (0, .ref (a)), (1, .int ((mNx g k10 u).1)), (2, .int ((mNx g k10 u).2.1)), (3, .int (nI (u)))]) hx hb dX8_next_99 hl (k := 4) rfl (nI_1 _) (by decide) rfl (fun ls hl => ?_)
            refine lv_goto (tgt := 63) hx hb dX8_next_102 (by decide) ?_
            have e2_0 : su (mSays g k10 u (fil ((mNx g k10 u).2.2) (fun _ => nI 0) 8) (k)) (sayN (k) (u)) (((mSays g k10 u (fil ((mNx g k10 u).2.2) (fun _ => nI 0) 8) (k)) (sayN (k) (u))) + (nI (0))) = mSays g k10 u (fil ((mNx g k10 u).2.2) (fun _ => nI 0) 8) (k + 1) := by rw [mSays]; first | (rw [if_pos c_12]; done) | (rw [if_neg c_12]; done)
            have hP : va_P (dC, dI) vwCl (mW cI a o (su f 11 (nI (k11 + 1))) (su g 13 (mSays g k10 u (fil ((mNx g k10 u).2.2) (fun _ => nI 0) 8) (k + 1))) (h)) H := by rw [← e2_0]; exact hP
            have hD : va_D A (mW cI a o (su f 11 (nI (k11 + 1))) (su g 13 (mSays g k10 u (fil ((mNx g k10 u).2.2) (fun _ => nI 0) 8) (k + 1))) (h)) := by rw [← e2_0]; exact hD
            exact ih_63 (k + 1) H locs ls (by show _ < _; omega) (by show _; omega) hP hD hS (by show lv_has ls 6 [(0, .ref (a)), (1, .int ((mNx g k10 u).1)), (2, .int ((mNx g k10 u).2.1)), (3, .int (nI (u))), (4, .int (nI ((k + 1))))]; exact lv_sub hl [1, 2, 3, 4, 0] rfl)
          · skip
            have c_12 := b2i_1 c_12
            refine lv_iconst (v := nI (1)) hx hb dX8_next_92 (by decide +kernel) ?_
            refine lv_goto (tgt := 97) hx hb dX8_next_93 (by decide) ?_
            refine lv_iadd hx hb dX8_next_97 ?_
            refine ast hx hb hK hP hD hS (f := mSays g k10 u (fil ((mNx g k10 u).2.2) (fun _ => nI 0) 8) (k)) (k := sayN (k) (u)) 6 0 rfl rfl (sayN_e _ _ (by omega) (by omega)) (sayN_b _ _ (by omega) (by omega)) (by decide) dX8_next_98 (fun H locs hP hD hS => ?_)
            have hP : va_P (dC, dI) vwCl (mW cI a o (su f 11 (nI (k11 + 1))) (su g 13 (su (mSays g k10 u (fil ((mNx g k10 u).2.2) (fun _ => nI 0) 8) (k)) (sayN (k) (u)) (((mSays g k10 u (fil ((mNx g k10 u).2.2) (fun _ => nI 0) 8) (k)) (sayN (k) (u))) + (nI (1))))) (h)) H := hP
            have hD : va_D A (mW cI a o (su f 11 (nI (k11 + 1))) (su g 13 (su (mSays g k10 u (fil ((mNx g k10 u).2.2) (fun _ => nI 0) 8) (k)) (sayN (k) (u)) (((mSays g k10 u (fil ((mNx g k10 u).2.2) (fun _ => nI 0) 8) (k)) (sayN (k) (u))) + (nI (1))))) (h)) := hD
            refine lv_iinc (v := nI (k + 1)) (lv' := [(4, .int (nI (k + 1))), (0, .ref (a)), (1, .int ((mNx g k10 u).1)), (2, .int ((mNx g k10 u).2.1)), (3, .int (nI (u)))]) hx hb dX8_next_99 hl (k := 4) rfl (nI_1 _) (by decide) rfl (fun ls hl => ?_)
            refine lv_goto (tgt := 63) hx hb dX8_next_102 (by decide) ?_
            have e2_0 : su (mSays g k10 u (fil ((mNx g k10 u).2.2) (fun _ => nI 0) 8) (k)) (sayN (k) (u)) (((mSays g k10 u (fil ((mNx g k10 u).2.2) (fun _ => nI 0) 8) (k)) (sayN (k) (u))) + (nI (1))) = mSays g k10 u (fil ((mNx g k10 u).2.2) (fun _ => nI 0) 8) (k + 1) := by rw [mSays]; first | (rw [if_pos c_12]; done) | (rw [if_neg c_12]; done)
            have hP : va_P (dC, dI) vwCl (mW cI a o (su f 11 (nI (k11 + 1))) (su g 13 (mSays g k10 u (fil ((mNx g k10 u).2.2) (fun _ => nI 0) 8) (k + 1))) (h)) H := by rw [← e2_0]; exact hP
            have hD : va_D A (mW cI a o (su f 11 (nI (k11 + 1))) (su g 13 (mSays g k10 u (fil ((mNx g k10 u).2.2) (fun _ => nI 0) 8) (k + 1))) (h)) := by rw [← e2_0]; exact hD
            exact ih_63 (k + 1) H locs ls (by show _ < _; omega) (by show _; omega) hP hD hS (by show lv_has ls 6 [(0, .ref (a)), (1, .int ((mNx g k10 u).1)), (2, .int ((mNx g k10 u).2.1)), (3, .int (nI (u))), (4, .int (nI ((k + 1))))]; exact lv_sub hl [1, 2, 3, 4, 0] rfl)
      · skip
        rw [nI_leI (a := 8) (b := k) (by omega) (by omega)] at c_3
        refine lv_aload_n hx hb dX8_next_46 rfl (lv_at hl 0 rfl) ?_
        refine va_get (D := (dC, dI)) (ci := 8) (v := .ref (o 13)) (C := RX8) (T := TX8) (N := 25) hx hb hts hin8 hown hK hP 0 rfl rfl 13 (by decide) hW1 (fun _ h9 => h9) rfl dX8_next_47 ?_
        refine lv_iload hx hb dX8_next_50 (lv_at hl 4 rfl) ?_
        refine lv_iconst (v := nI (0)) hx hb dX8_next_52 (by decide +kernel) ?_
        refine ast hx hb hK hP hD hS (f := fil ((mNx g k10 u).2.2) (fun _ => nI 0) (k)) (k := k) 6 0 rfl rfl rfl (by omega) (by decide) dX8_next_53 (fun H locs hP hD hS => ?_)
        have hP : va_P (dC, dI) vwCl (mW cI a o (su f 11 (nI (k11 + 1))) (su g 13 (su (fil ((mNx g k10 u).2.2) (fun _ => nI 0) (k)) (k) (nI (0)))) (h)) H := hP
        have hD : va_D A (mW cI a o (su f 11 (nI (k11 + 1))) (su g 13 (su (fil ((mNx g k10 u).2.2) (fun _ => nI 0) (k)) (k) (nI (0)))) (h)) := hD
        refine lv_iinc (v := nI (k + 1)) (lv' := [(4, .int (nI (k + 1))), (0, .ref (a)), (1, .int ((mNx g k10 u).1)), (2, .int ((mNx g k10 u).2.1)), (3, .int (nI (u)))]) hx hb dX8_next_54 hl (k := 4) rfl (nI_1 _) (by decide) rfl (fun ls hl => ?_)
        refine lv_goto (tgt := 39) hx hb dX8_next_57 (by decide) ?_
        have e2_0 : su (fil ((mNx g k10 u).2.2) (fun _ => nI 0) (k)) (k) (nI (0)) = fil ((mNx g k10 u).2.2) (fun _ => nI 0) (k + 1) := by rw [← fil_s]
        have hP : va_P (dC, dI) vwCl (mW cI a o (su f 11 (nI (k11 + 1))) (su g 13 (fil ((mNx g k10 u).2.2) (fun _ => nI 0) (k + 1))) (h)) H := by rw [← e2_0]; exact hP
        have hD : va_D A (mW cI a o (su f 11 (nI (k11 + 1))) (su g 13 (fil ((mNx g k10 u).2.2) (fun _ => nI 0) (k + 1))) (h)) := by rw [← e2_0]; exact hD
        exact ih_39 (k + 1) H locs ls (by show _ < _; omega) (by show _; omega) hP hD hS (by show lv_has ls 6 [(0, .ref (a)), (1, .int ((mNx g k10 u).1)), (2, .int ((mNx g k10 u).2.1)), (3, .int (nI (u))), (4, .int (nI ((k + 1))))]; exact lv_sub hl [1, 2, 3, 4, 0] rfl)
  · skip
    rw [nI_eq (a := k11) (b := 60) (by omega) (by omega)] at c_1
    refine lv_bipush (v := (-103)) hx hb dX8_next_9 (by decide +kernel) ?_
    have hP9 : va_P (dC, dI) vwCl (mW cI a o (f) (g) (h)) H := hP
    exact W.iret (v := (-103)) hx hb hr (fun t ht hW => ⟨⟨(-103), (f, g, h), rfl, (by show (((-103), (f, g, h)) : _ × MSt) = mNext f g h k10 k11; simp only [mNext, if_pos c_1]), by rw [ht]; exact hP9, va_K.moved hW.alike hK, hD⟩, hS.F ht⟩) hS.2.2 dX8_next_11

set_option maxHeartbeats 1200000 in
set_option maxRecDepth 100000 in
theorem c8_digest (l : Launch) (dC : Nat → ClassId) (dI : Nat → Nat → Nat) (cI : ClassId) (a : Nat) (o : Nat → Nat) (f : Nat → Int32) (g : Nat → Nat → Int32) (h : Int64) (sz : Nat) {k1 : Nat} (e1 : f 1 = nI k1) (b1 : k1 ≤ 10) {k6 : Nat} (e6 : f 6 = nI k6) (b6 : k6 ≤ 4) {k7 : Nat} (e7 : f 7 = nI k7) (b7 : k7 ≤ 5) {k10 : Nat} (e10 : f 10 = nI k10) (b10 : k10 ≤ 8) : Met l yX8_digest wsX8_digest ({ frames := 6, cells := 0, slots := 0, locals := 142 } : Room) (va_Pc [.ref (a)] (fun U => U.heap.size = sz ∧ va_P (dC, dI) vwCl (mW cI a o f g h) U.heap ∧ va_K (dC, dI) vwCl [(cI, .int)] U ∧ va_D (fun _ => True) (mW cI a o f g h))) (va_Ql (fun (r : Int64) (u : MSt) => (r, u) = (mH6 f g k1 k6 k7 k10 9, f, g, mH6 f g k1 k6 k7 k10 9)) (mB dC dI cI a o (va_A (mW cI a o f g h) sz)) (va_A (mW cI a o f g h) sz)) 0 0 (va_A (mW cI a o f g h) sz) := by
  refine Met.ofW (cc := cX8_digest) (maxL := 2) (ret := (some .long)) (by decide) rfl ?_
  intro p_ e_ s m args below meth c_0 s₁ B hml hv
  obtain ⟨rfl, hsz, hP, hK, hD0⟩ := hv
  have hx := B.exec
  have hb := B.bytes
  have hr := B.returns
  have hts := atoms_spec (ws := wsX8_digest) B.pre
  have hown : s.vm.findClass RX8 = some m.cls := findClass_of_methodNamed B.named
  have hlocks := B.notSynchronized
  subst hsz
  have hD := hD0.self (sz := s.heap.size)
  generalize hAe : va_A (mW cI a o f g h) s.heap.size = A at hD ⊢
  have hA : ∀ q : Nat, s.heap.size ≤ q → A q := fun q h => by rw [← hAe]; exact Or.inr h
  obtain ⟨H, hHe⟩ : ∃ H : Heap, H = s.heap := ⟨_, rfl⟩
  have hS : va_S A s.heap H [] := by rw [hHe]; exact va_S.rf
  rw [← hHe] at hP ⊢
  have hP : va_P (dC, dI) vwCl (mW cI a o f g h) H := hP
  have hl := lv_entry ([.ref (a)]) (n := 2) (Nat.le_of_ble_eq_true rfl)
  rw [lg_entry_eq]
  generalize (lg_sl ([.ref (a)]) ++ List.replicate (2 - (lg_sl ([.ref (a)])).length) Slot.unset).toArray = ls at hl ⊢
  have hl : lv_has ls 2 [(0, .ref (a))] := hl
  have hin8 : ∀ w ∈ wsX80, w ∈ wsX8_digest := fun _ h => List.mem_cons_of_mem _ (List.mem_append_right _ h)
  have hW0 := hts (.constantLong RX8 215 (853)) (by decide +kernel)
  have hW1 := hts (.fieldLink RX8 207 "EachEyeModel" "hash" "J") (by decide +kernel)
  have hW2 := hts (.fieldLink RX8 63 "EachEyeModel" "isThere" "Z") (by decide +kernel)
  have hW3 := hts (.fieldLink RX8 71 "EachEyeModel" "people" "I") (by decide +kernel)
  have hW4 := hts (.fieldLink RX8 74 "EachEyeModel" "inks" "I") (by decide +kernel)
  have hW5 := hts (.fieldLink RX8 52 "EachEyeModel" "pageMany" "I") (by decide +kernel)
  have hW6 := hts (.fieldLink RX8 7 "EachEyeModel" "page" "[I") (by decide +kernel)
  have hW7 := hts (.fieldLink RX8 19 "EachEyeModel" "inkHues" "[I") (by decide +kernel)
  have hW8 := hts (.fieldLink RX8 13 "EachEyeModel" "hues" "[I") (by decide +kernel)
  refine lv_aload_n hx hb dX8_digest_0 rfl (lv_at hl 0 rfl) ?_
  refine lv_ldc2 (v := 853) hx hb hown hW0 dX8_digest_1 ?_
  refine va_put (D := (dC, dI)) (ci := 8) (v := .long (853)) (ty := .long) (C := RX8) (T := TX8) (N := 25) hx hb hts hin8 tyX8 tyX8_ok nmX8 hown hK hP hD hS 0 rfl rfl 24 (by decide) hW1 (fun _ h9 => h9) rfl (by decide +kernel) rfl rfl (Nat.le_of_ble_eq_true rfl) dX8_digest_4 (fun H locs hP hD hS => ?_)
  have hP : va_P (dC, dI) vwCl (mW cI a o (f) (g) (853)) H := hP
  have hD : va_D A (mW cI a o (f) (g) (853)) := hD
  refine lv_iconst (v := nI (0)) hx hb dX8_digest_7 (by decide +kernel) ?_
  refine lv_istore_n (lv' := [(1, .int (nI (0))), (0, .ref (a))]) hx hb dX8_digest_8 rfl hl (by decide) rfl (fun ls hl => ?_)
  have hP0 : va_P (dC, dI) vwCl (mW cI a o (f) (g) (mH1 g (0))) H := by rw [mH1]; exact hP
  have hD0 : va_D A (mW cI a o (f) (g) (mH1 g (0))) := by rw [mH1]; exact hD
  refine lp_rw (fun k : Nat => 6 - k) (fun k : Nat => k ≤ 6 ∧ (k = 0 ∨ ¬ f 2 = nI 0)) (fun k : Nat => [(0, .ref (a)), (1, .int (nI (k)))]) (fun k : Nat => mW cI a o (f) (g) (mH1 g (k))) (0) ⟨by omega, Or.inl rfl⟩ hP0 hD0 hS (by show lv_has ls 2 [(0, .ref (a)), (1, .int (nI (0)))]; exact lv_sub hl [1, 0] rfl) (fun k hI ih_9 H locs ls hP hD hS hl => ?_)
  have hP : va_P (dC, dI) vwCl (mW cI a o (f) (g) (mH1 g (k))) H := hP
  have hD : va_D A (mW cI a o (f) (g) (mH1 g (k))) := hD
  have hI : k ≤ 6 ∧ (k = 0 ∨ ¬ f 2 = nI 0) := hI
  have hl : lv_has ls 2 [(0, .ref (a)), (1, .int (nI (k)))] := hl
  have hI1 := hI.1
  refine lv_iload_n hx hb dX8_digest_9 rfl (lv_at hl 1 rfl) ?_
  refine lv_bipush (v := nI (6)) hx hb dX8_digest_10 (by decide +kernel) ?_
  refine lv_icmp_ge (tgt := 39) hx hb dX8_digest_12 (by decide) (fun c_1 => ?_) (fun c_1 => ?_)
  · skip
    rw [nI_leI (a := 6) (b := k) (by omega) (by omega)] at c_1
    have hE : 6 = k := by omega
    subst hE
    have hT0 : ¬ f 2 = nI 0 := hI.2.resolve_left (by decide)
    refine lv_aload_n hx hb dX8_digest_39 rfl (lv_at hl 0 rfl) ?_
    refine va_get (D := (dC, dI)) (ci := 8) (v := .int (f 2)) (C := RX8) (T := TX8) (N := 25) hx hb hts hin8 hown hK hP 0 rfl rfl 2 (by decide) hW2 (fun _ h9 => h9) rfl dX8_digest_40 ?_
    refine lv_if_eq (tgt := 66) hx hb dX8_digest_43 (by decide) (fun c_2 => ?_) (fun c_2 => ?_)
    · skip
      have c_2 : (f 2) = nI 0 := c_2
      exact absurd c_2 hT0
    · skip
      have c_2 : ¬ (f 2) = nI 0 := c_2
      refine lv_aload_n hx hb dX8_digest_46 rfl (lv_at hl 0 rfl) ?_
      refine lv_aload_n hx hb dX8_digest_47 rfl (lv_at hl 0 rfl) ?_
      refine lv_iconst (v := nI (0)) hx hb dX8_digest_48 (by decide +kernel) ?_
      refine vp_callSi (va_Run.run (va_runV (As := [.int (nI (0))]) (rest := [.ref (a)]) ⟨hx, hb, hml, hown, hts⟩ (c8_fewOf l dC dI cI a o (f) (g) (mH1 g (6)) e6 (by omega) e7 (by omega) (nI (0)) ) (cwV 1 hts gX8_digest_X8_fewOf rfl rfl rfl (by decide +kernel) ⟨Nat.le_of_ble_eq_true rfl, Nat.le_of_ble_eq_true rfl⟩) ⟨fun a U g mk q => ⟨q.1, q.2.1, va_K.moved (u := U) (U := U.calling g mk a) (Vm.Alike.refl U.vm) q.2.2⟩, va_recv hK hP (ci := 8) (q0 := 0) rfl rfl, fun U hU hW => ⟨rfl, by rw [hU]; exact hP, va_K.moved hW.alike hK⟩⟩ rfl rfl hl.1 rfl (lv_room (Nat.le_of_ble_eq_true rfl)) dX8_digest_49 ⟨Nat.le_of_ble_eq_true rfl, Nat.le_of_ble_eq_true rfl⟩)) (fun r hrc => ?_)
      have hrc : r = mFewOf (g) (k6) (k7) (nI (0)) := hrc
      subst hrc
      refine lv_i2l hx hb dX8_digest_52 rfl ?_
      have hPc := hP.sub (ws' := (mW cI a o (f) (g) (mH1 g (6)))) [0, 1, 2, 3, 4, 5, 6, 7, 8, 9, 10] rfl
      have hDc := hD.sub (ws' := (mW cI a o (f) (g) (mH1 g (6)))) [0, 1, 2, 3, 4, 5, 6, 7, 8, 9, 10] (by decide) rfl
      have hFc := va_free (wc := (mW cI a o (f) (g) (mH1 g (6)))) hD hS hA [0, 1, 2, 3, 4, 5, 6, 7, 8, 9, 10] rfl
      refine va_callv (va_runV (As := [.long ((mFewOf (g) (k6) (k7) (nI (0))).toInt64)]) (rest := []) ⟨hx, hb, hml, hown, hts⟩ (c8_say l dC dI cI a o (f) (g) (mH1 g (6)) H.size  ((mFewOf (g) (k6) (k7) (nI (0))).toInt64) ) (cwV 1 hts gX8_digest_X8_say rfl rfl rfl (by decide +kernel) ⟨Nat.le_of_ble_eq_true rfl, Nat.le_of_ble_eq_true rfl⟩) ⟨fun a U g mk q => by obtain ⟨q0, q1, qP, qK, qD⟩ := q; exact ⟨q0, q1, qP, va_K.moved (u := U) (U := U.calling g mk a) (Vm.Alike.refl U.vm) qK, qD⟩, va_recv hK hP (ci := 8) (q0 := 0) rfl rfl, fun U hU hW => ⟨rfl, by rw [hU], by rw [hU]; exact hPc, va_K.moved hW.alike hK, hDc.weaken (fun _ _ _ _ => trivial)⟩⟩ rfl rfl hl.1 rfl (lv_room (Nat.le_of_ble_eq_true rfl)) dX8_digest_53 ⟨Nat.le_of_ble_eq_true rfl, Nat.le_of_ble_eq_true rfl⟩) hS (fun q _ h => hFc q h) hFc (fun u t H1 locs ht hvm hw hB hz1 hk1 hS => ?_)
      have hw : u = ((f, g, 31 * (mH1 g (6)) + ((mFewOf (g) (k6) (k7) (nI (0))).toInt64)) : MSt) := hw
      subst hw
      obtain ⟨hP1, hK1, hD1⟩ := hB
      rw [ht] at hP1
      have hP1 : va_P (dC, dI) vwCl (mW cI a o (f) (g) (31 * (mH1 g (6)) + ((mFewOf (g) (k6) (k7) (nI (0))).toInt64))) H1 := hP1
      have hD1 : va_D _ (mW cI a o (f) (g) (31 * (mH1 g (6)) + ((mFewOf (g) (k6) (k7) (nI (0))).toInt64))) := hD1
      obtain ⟨hP, hD⟩ := va_join (wr := []) (w1 := mW cI a o (f) (g) (31 * (mH1 g (6)) + ((mFewOf (g) (k6) (k7) (nI (0))).toInt64))) hP hD [0, 1, 2, 3, 4, 5, 6, 7, 8, 9, 10] [] rfl rfl (by decide) (by decide) hk1 hFc hP1 hD1
      clear hP1 hD1 hK1 hPc hDc hFc hk1 hz1
      generalize H1 = H at hP hS ⊢
      have hP : va_P (dC, dI) vwCl (mW cI a o (f) (g) (31 * (mH1 g (6)) + ((mFewOf (g) (k6) (k7) (nI (0))).toInt64))) H := hP
      have hD : va_D A (mW cI a o (f) (g) (31 * (mH1 g (6)) + ((mFewOf (g) (k6) (k7) (nI (0))).toInt64))) := hD
      refine lv_aload_n hx hb dX8_digest_56 rfl (lv_at hl 0 rfl) ?_
      refine lv_aload_n hx hb dX8_digest_57 rfl (lv_at hl 0 rfl) ?_
      refine lv_iconst (v := nI (1)) hx hb dX8_digest_58 (by decide +kernel) ?_
      refine vp_callSi (va_Run.run (va_runV (As := [.int (nI (1))]) (rest := [.ref (a)]) ⟨hx, hb, hml, hown, hts⟩ (c8_fewOf l dC dI cI a o (f) (g) (31 * (mH1 g (6)) + ((mFewOf (g) (k6) (k7) (nI (0))).toInt64)) e6 (by omega) e7 (by omega) (nI (1)) ) (cwV 1 hts gX8_digest_X8_fewOf rfl rfl rfl (by decide +kernel) ⟨Nat.le_of_ble_eq_true rfl, Nat.le_of_ble_eq_true rfl⟩) ⟨fun a U g mk q => ⟨q.1, q.2.1, va_K.moved (u := U) (U := U.calling g mk a) (Vm.Alike.refl U.vm) q.2.2⟩, va_recv hK hP (ci := 8) (q0 := 0) rfl rfl, fun U hU hW => ⟨rfl, by rw [hU]; exact hP, va_K.moved hW.alike hK⟩⟩ rfl rfl hl.1 rfl (lv_room (Nat.le_of_ble_eq_true rfl)) dX8_digest_59 ⟨Nat.le_of_ble_eq_true rfl, Nat.le_of_ble_eq_true rfl⟩)) (fun r hrc => ?_)
      have hrc : r = mFewOf (g) (k6) (k7) (nI (1)) := hrc
      subst hrc
      refine lv_i2l hx hb dX8_digest_62 rfl ?_
      have hPc := hP.sub (ws' := (mW cI a o (f) (g) (31 * (mH1 g (6)) + ((mFewOf (g) (k6) (k7) (nI (0))).toInt64)))) [0, 1, 2, 3, 4, 5, 6, 7, 8, 9, 10] rfl
      have hDc := hD.sub (ws' := (mW cI a o (f) (g) (31 * (mH1 g (6)) + ((mFewOf (g) (k6) (k7) (nI (0))).toInt64)))) [0, 1, 2, 3, 4, 5, 6, 7, 8, 9, 10] (by decide) rfl
      have hFc := va_free (wc := (mW cI a o (f) (g) (31 * (mH1 g (6)) + ((mFewOf (g) (k6) (k7) (nI (0))).toInt64)))) hD hS hA [0, 1, 2, 3, 4, 5, 6, 7, 8, 9, 10] rfl
      refine va_callv (va_runV (As := [.long ((mFewOf (g) (k6) (k7) (nI (1))).toInt64)]) (rest := []) ⟨hx, hb, hml, hown, hts⟩ (c8_say l dC dI cI a o (f) (g) (31 * (mH1 g (6)) + ((mFewOf (g) (k6) (k7) (nI (0))).toInt64)) H.size  ((mFewOf (g) (k6) (k7) (nI (1))).toInt64) ) (cwV 1 hts gX8_digest_X8_say rfl rfl rfl (by decide +kernel) ⟨Nat.le_of_ble_eq_true rfl, Nat.le_of_ble_eq_true rfl⟩) ⟨fun a U g mk q => by obtain ⟨q0, q1, qP, qK, qD⟩ := q; exact ⟨q0, q1, qP, va_K.moved (u := U) (U := U.calling g mk a) (Vm.Alike.refl U.vm) qK, qD⟩, va_recv hK hP (ci := 8) (q0 := 0) rfl rfl, fun U hU hW => ⟨rfl, by rw [hU], by rw [hU]; exact hPc, va_K.moved hW.alike hK, hDc.weaken (fun _ _ _ _ => trivial)⟩⟩ rfl rfl hl.1 rfl (lv_room (Nat.le_of_ble_eq_true rfl)) dX8_digest_63 ⟨Nat.le_of_ble_eq_true rfl, Nat.le_of_ble_eq_true rfl⟩) hS (fun q _ h => hFc q h) hFc (fun u t H1 locs ht hvm hw hB hz1 hk1 hS => ?_)
      have hw : u = ((f, g, 31 * (31 * (mH1 g (6)) + ((mFewOf (g) (k6) (k7) (nI (0))).toInt64)) + ((mFewOf (g) (k6) (k7) (nI (1))).toInt64)) : MSt) := hw
      subst hw
      obtain ⟨hP1, hK1, hD1⟩ := hB
      rw [ht] at hP1
      have hP1 : va_P (dC, dI) vwCl (mW cI a o (f) (g) (31 * (31 * (mH1 g (6)) + ((mFewOf (g) (k6) (k7) (nI (0))).toInt64)) + ((mFewOf (g) (k6) (k7) (nI (1))).toInt64))) H1 := hP1
      have hD1 : va_D _ (mW cI a o (f) (g) (31 * (31 * (mH1 g (6)) + ((mFewOf (g) (k6) (k7) (nI (0))).toInt64)) + ((mFewOf (g) (k6) (k7) (nI (1))).toInt64))) := hD1
      obtain ⟨hP, hD⟩ := va_join (wr := []) (w1 := mW cI a o (f) (g) (31 * (31 * (mH1 g (6)) + ((mFewOf (g) (k6) (k7) (nI (0))).toInt64)) + ((mFewOf (g) (k6) (k7) (nI (1))).toInt64))) hP hD [0, 1, 2, 3, 4, 5, 6, 7, 8, 9, 10] [] rfl rfl (by decide) (by decide) hk1 hFc hP1 hD1
      clear hP1 hD1 hK1 hPc hDc hFc hk1 hz1
      generalize H1 = H at hP hS ⊢
      have hP : va_P (dC, dI) vwCl (mW cI a o (f) (g) (31 * (31 * (mH1 g (6)) + ((mFewOf (g) (k6) (k7) (nI (0))).toInt64)) + ((mFewOf (g) (k6) (k7) (nI (1))).toInt64))) H := hP
      have hD : va_D A (mW cI a o (f) (g) (31 * (31 * (mH1 g (6)) + ((mFewOf (g) (k6) (k7) (nI (0))).toInt64)) + ((mFewOf (g) (k6) (k7) (nI (1))).toInt64))) := hD
      refine lv_iconst (v := nI (0)) hx hb dX8_digest_66 (by decide +kernel) ?_
      refine lv_istore_n (lv' := [(1, .int (nI (0))), (0, .ref (a))]) hx hb dX8_digest_67 rfl hl (by decide) rfl (fun ls hl => ?_)
      have hP0 : va_P (dC, dI) vwCl (mW cI a o (f) (g) (mH3 f g k6 k7 (0))) H := by rw [mH3, mH2]; (first | rw [if_pos hT0] | rw [if_neg hT0]); exact hP
      have hD0 : va_D A (mW cI a o (f) (g) (mH3 f g k6 k7 (0))) := by rw [mH3, mH2]; (first | rw [if_pos hT0] | rw [if_neg hT0]); exact hD
      refine lp_rw (fun k : Nat => k6 - k) (fun k : Nat => k ≤ k6) (fun k : Nat => [(0, .ref (a)), (1, .int (nI (k)))]) (fun k : Nat => mW cI a o (f) (g) (mH3 f g k6 k7 (k))) (0) (by omega) hP0 hD0 hS (by show lv_has ls 2 [(0, .ref (a)), (1, .int (nI (0)))]; exact lv_sub hl [1, 0] rfl) (fun k hI ih_68 H locs ls hP hD hS hl => ?_)
      have hP : va_P (dC, dI) vwCl (mW cI a o (f) (g) (mH3 f g k6 k7 (k))) H := hP
      have hD : va_D A (mW cI a o (f) (g) (mH3 f g k6 k7 (k))) := hD
      have hI : k ≤ k6 := hI
      have hl : lv_has ls 2 [(0, .ref (a)), (1, .int (nI (k)))] := hl
      refine lv_iload_n hx hb dX8_digest_68 rfl (lv_at hl 1 rfl) ?_
      refine lv_aload_n hx hb dX8_digest_69 rfl (lv_at hl 0 rfl) ?_
      refine va_get (D := (dC, dI)) (ci := 8) (v := .int (nI (k6))) (C := RX8) (T := TX8) (N := 25) hx hb hts hin8 hown hK hP 0 rfl rfl 6 (by decide) hW3 (fun _ h9 => h9) (congrArg (fun z => some (Value.int z)) e6) dX8_digest_70 ?_
      refine lv_icmp_ge (tgt := 87) hx hb dX8_digest_73 (by decide) (fun c_3 => ?_) (fun c_3 => ?_)
      · skip
        rw [nI_leI (a := k6) (b := k) (by omega) (by omega)] at c_3
        have hE : k6 = k := by omega
        subst hE
        refine lv_iconst (v := nI (0)) hx hb dX8_digest_87 (by decide +kernel) ?_
        refine lv_istore_n (lv' := [(1, .int (nI (0))), (0, .ref (a))]) hx hb dX8_digest_88 rfl hl (by decide) rfl (fun ls hl => ?_)
        have hP0 : va_P (dC, dI) vwCl (mW cI a o (f) (g) (mH4 f g k6 k7 (0))) H := by rw [mH4]; exact hP
        have hD0 : va_D A (mW cI a o (f) (g) (mH4 f g k6 k7 (0))) := by rw [mH4]; exact hD
        refine lp_rw (fun k : Nat => k7 - k) (fun k : Nat => k ≤ k7) (fun k : Nat => [(0, .ref (a)), (1, .int (nI (k)))]) (fun k : Nat => mW cI a o (f) (g) (mH4 f g k6 k7 (k))) (0) (by omega) hP0 hD0 hS (by show lv_has ls 2 [(0, .ref (a)), (1, .int (nI (0)))]; exact lv_sub hl [1, 0] rfl) (fun k hI ih_89 H locs ls hP hD hS hl => ?_)
        have hP : va_P (dC, dI) vwCl (mW cI a o (f) (g) (mH4 f g k6 k7 (k))) H := hP
        have hD : va_D A (mW cI a o (f) (g) (mH4 f g k6 k7 (k))) := hD
        have hI : k ≤ k7 := hI
        have hl : lv_has ls 2 [(0, .ref (a)), (1, .int (nI (k)))] := hl
        refine lv_iload_n hx hb dX8_digest_89 rfl (lv_at hl 1 rfl) ?_
        refine lv_aload_n hx hb dX8_digest_90 rfl (lv_at hl 0 rfl) ?_
        refine va_get (D := (dC, dI)) (ci := 8) (v := .int (nI (k7))) (C := RX8) (T := TX8) (N := 25) hx hb hts hin8 hown hK hP 0 rfl rfl 7 (by decide) hW4 (fun _ h9 => h9) (congrArg (fun z => some (Value.int z)) e7) dX8_digest_91 ?_
        refine lv_icmp_ge (tgt := 114) hx hb dX8_digest_94 (by decide) (fun c_4 => ?_) (fun c_4 => ?_)
        · skip
          rw [nI_leI (a := k7) (b := k) (by omega) (by omega)] at c_4
          have hE : k7 = k := by omega
          subst hE
          refine lv_iconst (v := nI (0)) hx hb dX8_digest_114 (by decide +kernel) ?_
          refine lv_istore_n (lv' := [(1, .int (nI (0))), (0, .ref (a))]) hx hb dX8_digest_115 rfl hl (by decide) rfl (fun ls hl => ?_)
          have hP0 : va_P (dC, dI) vwCl (mW cI a o (f) (g) (mH5 f g k6 k7 (0))) H := by rw [mH5]; exact hP
          have hD0 : va_D A (mW cI a o (f) (g) (mH5 f g k6 k7 (0))) := by rw [mH5]; exact hD
          refine lp_rw (fun k : Nat => k1 - k) (fun k : Nat => k ≤ k1) (fun k : Nat => [(0, .ref (a)), (1, .int (nI (k)))]) (fun k : Nat => mW cI a o (f) (g) (mH5 f g k6 k7 (k))) (0) (by omega) hP0 hD0 hS (by show lv_has ls 2 [(0, .ref (a)), (1, .int (nI (0)))]; exact lv_sub hl [1, 0] rfl) (fun k hI ih_116 H locs ls hP hD hS hl => ?_)
          have hP : va_P (dC, dI) vwCl (mW cI a o (f) (g) (mH5 f g k6 k7 (k))) H := hP
          have hD : va_D A (mW cI a o (f) (g) (mH5 f g k6 k7 (k))) := hD
          have hI : k ≤ k1 := hI
          have hl : lv_has ls 2 [(0, .ref (a)), (1, .int (nI (k)))] := hl
          refine lv_iload_n hx hb dX8_digest_116 rfl (lv_at hl 1 rfl) ?_
          refine lv_aload_n hx hb dX8_digest_117 rfl (lv_at hl 0 rfl) ?_
          refine va_get (D := (dC, dI)) (ci := 8) (v := .int (nI (k1))) (C := RX8) (T := TX8) (N := 25) hx hb hts hin8 hown hK hP 0 rfl rfl 1 (by decide) hW5 (fun _ h9 => h9) (congrArg (fun z => some (Value.int z)) e1) dX8_digest_118 ?_
          refine lv_icmp_ge (tgt := 141) hx hb dX8_digest_121 (by decide) (fun c_5 => ?_) (fun c_5 => ?_)
          · skip
            rw [nI_leI (a := k1) (b := k) (by omega) (by omega)] at c_5
            have hE : k1 = k := by omega
            subst hE
            refine lv_iconst (v := nI (0)) hx hb dX8_digest_141 (by decide +kernel) ?_
            refine lv_istore_n (lv' := [(1, .int (nI (0))), (0, .ref (a))]) hx hb dX8_digest_142 rfl hl (by decide) rfl (fun ls hl => ?_)
            have hP0 : va_P (dC, dI) vwCl (mW cI a o (f) (g) (mH6 f g k1 k6 k7 k10 (0))) H := by rw [mH6]; exact hP
            have hD0 : va_D A (mW cI a o (f) (g) (mH6 f g k1 k6 k7 k10 (0))) := by rw [mH6]; exact hD
            refine lp_rw (fun k : Nat => 9 - k) (fun k : Nat => k ≤ 9) (fun k : Nat => [(0, .ref (a)), (1, .int (nI (k)))]) (fun k : Nat => mW cI a o (f) (g) (mH6 f g k1 k6 k7 k10 (k))) (0) (by omega) hP0 hD0 hS (by show lv_has ls 2 [(0, .ref (a)), (1, .int (nI (0)))]; exact lv_sub hl [1, 0] rfl) (fun k hI ih_143 H locs ls hP hD hS hl => ?_)
            have hP : va_P (dC, dI) vwCl (mW cI a o (f) (g) (mH6 f g k1 k6 k7 k10 (k))) H := hP
            have hD : va_D A (mW cI a o (f) (g) (mH6 f g k1 k6 k7 k10 (k))) := hD
            have hI : k ≤ 9 := hI
            have hl : lv_has ls 2 [(0, .ref (a)), (1, .int (nI (k)))] := hl
            refine lv_iload_n hx hb dX8_digest_143 rfl (lv_at hl 1 rfl) ?_
            refine lv_bipush (v := nI (9)) hx hb dX8_digest_144 (by decide +kernel) ?_
            refine lv_icmp_ge (tgt := 165) hx hb dX8_digest_146 (by decide) (fun c_6 => ?_) (fun c_6 => ?_)
            · skip
              rw [nI_leI (a := 9) (b := k) (by omega) (by omega)] at c_6
              have hE : 9 = k := by omega
              subst hE
              refine lv_aload_n hx hb dX8_digest_165 rfl (lv_at hl 0 rfl) ?_
              refine va_get (D := (dC, dI)) (ci := 8) (v := .long (mH6 f g k1 k6 k7 k10 (9))) (C := RX8) (T := TX8) (N := 25) hx hb hts hin8 hown hK hP 0 rfl rfl 24 (by decide) hW1 (fun _ h9 => h9) rfl dX8_digest_166 ?_
              have hP9 : va_P (dC, dI) vwCl (mW cI a o (f) (g) (mH6 f g k1 k6 k7 k10 (9))) H := hP
              exact W.lret (v := mH6 f g k1 k6 k7 k10 (9)) hx hb hr (fun t ht hW => ⟨⟨mH6 f g k1 k6 k7 k10 (9), (f, g, mH6 f g k1 k6 k7 k10 (9)), rfl, (by show ((mH6 f g k1 k6 k7 k10 (9), (f, g, mH6 f g k1 k6 k7 k10 (9))) : _ × MSt) = (mH6 f g k1 k6 k7 k10 9, f, g, mH6 f g k1 k6 k7 k10 9); rfl), by rw [ht]; exact hP9, va_K.moved hW.alike hK, hD⟩, hS.F ht⟩) hS.2.2 dX8_digest_169
            · skip
              rw [nI_leI (a := 9) (b := k) (by omega) (by omega)] at c_6
              refine lv_aload_n hx hb dX8_digest_149 rfl (lv_at hl 0 rfl) ?_
              refine lv_aload_n hx hb dX8_digest_150 rfl (lv_at hl 0 rfl) ?_
              refine lv_iload_n hx hb dX8_digest_151 rfl (lv_at hl 1 rfl) ?_
              refine vp_callSi (va_Run.run (va_runV (As := [.int (nI (k))]) (rest := [.ref (a)]) ⟨hx, hb, hml, hown, hts⟩ (c8_countOf l dC dI cI a o (f) (g) (mH6 f g k1 k6 k7 k10 (k)) e1 (by omega) e6 (by omega) e7 (by omega) e10 (by omega) (nI (k)) ) (cwV 1 hts gX8_digest_X8_countOf rfl rfl rfl (by decide +kernel) ⟨Nat.le_of_ble_eq_true rfl, Nat.le_of_ble_eq_true rfl⟩) ⟨fun a U g mk q => ⟨q.1, q.2.1, va_K.moved (u := U) (U := U.calling g mk a) (Vm.Alike.refl U.vm) q.2.2⟩, va_recv hK hP (ci := 8) (q0 := 0) rfl rfl, fun U hU hW => ⟨rfl, by rw [hU]; exact hP, va_K.moved hW.alike hK⟩⟩ rfl rfl hl.1 rfl (lv_room (Nat.le_of_ble_eq_true rfl)) dX8_digest_152 ⟨Nat.le_of_ble_eq_true rfl, Nat.le_of_ble_eq_true rfl⟩)) (fun r hrc => ?_)
              have hrc : r = mCount (f) (g) (k1) (k6) (k7) (k10) (nI (k)) := hrc
              subst hrc
              refine lv_i2l hx hb dX8_digest_155 rfl ?_
              have hPc := hP.sub (ws' := (mW cI a o (f) (g) (mH6 f g k1 k6 k7 k10 (k)))) [0, 1, 2, 3, 4, 5, 6, 7, 8, 9, 10] rfl
              have hDc := hD.sub (ws' := (mW cI a o (f) (g) (mH6 f g k1 k6 k7 k10 (k)))) [0, 1, 2, 3, 4, 5, 6, 7, 8, 9, 10] (by decide) rfl
              have hFc := va_free (wc := (mW cI a o (f) (g) (mH6 f g k1 k6 k7 k10 (k)))) hD hS hA [0, 1, 2, 3, 4, 5, 6, 7, 8, 9, 10] rfl
              refine va_callv (va_runV (As := [.long ((mCount (f) (g) (k1) (k6) (k7) (k10) (nI (k))).toInt64)]) (rest := []) ⟨hx, hb, hml, hown, hts⟩ (c8_say l dC dI cI a o (f) (g) (mH6 f g k1 k6 k7 k10 (k)) H.size  ((mCount (f) (g) (k1) (k6) (k7) (k10) (nI (k))).toInt64) ) (cwV 1 hts gX8_digest_X8_say rfl rfl rfl (by decide +kernel) ⟨Nat.le_of_ble_eq_true rfl, Nat.le_of_ble_eq_true rfl⟩) ⟨fun a U g mk q => by obtain ⟨q0, q1, qP, qK, qD⟩ := q; exact ⟨q0, q1, qP, va_K.moved (u := U) (U := U.calling g mk a) (Vm.Alike.refl U.vm) qK, qD⟩, va_recv hK hP (ci := 8) (q0 := 0) rfl rfl, fun U hU hW => ⟨rfl, by rw [hU], by rw [hU]; exact hPc, va_K.moved hW.alike hK, hDc.weaken (fun _ _ _ _ => trivial)⟩⟩ rfl rfl hl.1 rfl (lv_room (Nat.le_of_ble_eq_true rfl)) dX8_digest_156 ⟨Nat.le_of_ble_eq_true rfl, Nat.le_of_ble_eq_true rfl⟩) hS (fun q _ h => hFc q h) hFc (fun u t H1 locs ht hvm hw hB hz1 hk1 hS => ?_)
              have hw : u = ((f, g, 31 * (mH6 f g k1 k6 k7 k10 (k)) + ((mCount (f) (g) (k1) (k6) (k7) (k10) (nI (k))).toInt64)) : MSt) := hw
              subst hw
              obtain ⟨hP1, hK1, hD1⟩ := hB
              rw [ht] at hP1
              have hP1 : va_P (dC, dI) vwCl (mW cI a o (f) (g) (31 * (mH6 f g k1 k6 k7 k10 (k)) + ((mCount (f) (g) (k1) (k6) (k7) (k10) (nI (k))).toInt64))) H1 := hP1
              have hD1 : va_D _ (mW cI a o (f) (g) (31 * (mH6 f g k1 k6 k7 k10 (k)) + ((mCount (f) (g) (k1) (k6) (k7) (k10) (nI (k))).toInt64))) := hD1
              obtain ⟨hP, hD⟩ := va_join (wr := []) (w1 := mW cI a o (f) (g) (31 * (mH6 f g k1 k6 k7 k10 (k)) + ((mCount (f) (g) (k1) (k6) (k7) (k10) (nI (k))).toInt64))) hP hD [0, 1, 2, 3, 4, 5, 6, 7, 8, 9, 10] [] rfl rfl (by decide) (by decide) hk1 hFc hP1 hD1
              clear hP1 hD1 hK1 hPc hDc hFc hk1 hz1
              generalize H1 = H at hP hS ⊢
              have hP : va_P (dC, dI) vwCl (mW cI a o (f) (g) (31 * (mH6 f g k1 k6 k7 k10 (k)) + ((mCount (f) (g) (k1) (k6) (k7) (k10) (nI (k))).toInt64))) H := hP
              have hD : va_D A (mW cI a o (f) (g) (31 * (mH6 f g k1 k6 k7 k10 (k)) + ((mCount (f) (g) (k1) (k6) (k7) (k10) (nI (k))).toInt64))) := hD
              refine lv_iinc (v := nI (k + 1)) (lv' := [(1, .int (nI (k + 1))), (0, .ref (a))]) hx hb dX8_digest_159 hl (k := 1) rfl (nI_1 _) (by decide) rfl (fun ls hl => ?_)
              refine lv_goto (tgt := 143) hx hb dX8_digest_162 (by decide) ?_
              have e2_0 : 31 * (mH6 f g k1 k6 k7 k10 (k)) + ((mCount (f) (g) (k1) (k6) (k7) (k10) (nI (k))).toInt64) = mH6 f g k1 k6 k7 k10 (k + 1) := by rfl
              have hP : va_P (dC, dI) vwCl (mW cI a o (f) (g) (mH6 f g k1 k6 k7 k10 (k + 1))) H := by rw [← e2_0]; exact hP
              have hD : va_D A (mW cI a o (f) (g) (mH6 f g k1 k6 k7 k10 (k + 1))) := by rw [← e2_0]; exact hD
              exact ih_143 (k + 1) H locs ls (by show _ < _; omega) (by show _; omega) hP hD hS (by show lv_has ls 2 [(0, .ref (a)), (1, .int (nI ((k + 1))))]; exact lv_sub hl [1, 0] rfl)
          · skip
            rw [nI_leI (a := k1) (b := k) (by omega) (by omega)] at c_5
            refine lv_aload_n hx hb dX8_digest_124 rfl (lv_at hl 0 rfl) ?_
            refine lv_aload_n hx hb dX8_digest_125 rfl (lv_at hl 0 rfl) ?_
            refine va_get (D := (dC, dI)) (ci := 8) (v := .ref (o 0)) (C := RX8) (T := TX8) (N := 25) hx hb hts hin8 hown hK hP 0 rfl rfl 0 (by decide) hW6 (fun _ h9 => h9) rfl dX8_digest_126 ?_
            refine lv_iload_n hx hb dX8_digest_129 rfl (lv_at hl 1 rfl) ?_
            refine ald hx hb hK hP (f := g 0) (k := k) 1 0 rfl rfl rfl (by omega) (by decide) dX8_digest_130 ?_
            refine lv_i2l hx hb dX8_digest_131 rfl ?_
            have hPc := hP.sub (ws' := (mW cI a o (f) (g) (mH5 f g k6 k7 (k)))) [0, 1, 2, 3, 4, 5, 6, 7, 8, 9, 10] rfl
            have hDc := hD.sub (ws' := (mW cI a o (f) (g) (mH5 f g k6 k7 (k)))) [0, 1, 2, 3, 4, 5, 6, 7, 8, 9, 10] (by decide) rfl
            have hFc := va_free (wc := (mW cI a o (f) (g) (mH5 f g k6 k7 (k)))) hD hS hA [0, 1, 2, 3, 4, 5, 6, 7, 8, 9, 10] rfl
            refine va_callv (va_runV (As := [.long ((g 0 (k)).toInt64)]) (rest := []) ⟨hx, hb, hml, hown, hts⟩ (c8_say l dC dI cI a o (f) (g) (mH5 f g k6 k7 (k)) H.size  ((g 0 (k)).toInt64) ) (cwV 1 hts gX8_digest_X8_say rfl rfl rfl (by decide +kernel) ⟨Nat.le_of_ble_eq_true rfl, Nat.le_of_ble_eq_true rfl⟩) ⟨fun a U g mk q => by obtain ⟨q0, q1, qP, qK, qD⟩ := q; exact ⟨q0, q1, qP, va_K.moved (u := U) (U := U.calling g mk a) (Vm.Alike.refl U.vm) qK, qD⟩, va_recv hK hP (ci := 8) (q0 := 0) rfl rfl, fun U hU hW => ⟨rfl, by rw [hU], by rw [hU]; exact hPc, va_K.moved hW.alike hK, hDc.weaken (fun _ _ _ _ => trivial)⟩⟩ rfl rfl hl.1 rfl (lv_room (Nat.le_of_ble_eq_true rfl)) dX8_digest_132 ⟨Nat.le_of_ble_eq_true rfl, Nat.le_of_ble_eq_true rfl⟩) hS (fun q _ h => hFc q h) hFc (fun u t H1 locs ht hvm hw hB hz1 hk1 hS => ?_)
            have hw : u = ((f, g, 31 * (mH5 f g k6 k7 (k)) + ((g 0 (k)).toInt64)) : MSt) := hw
            subst hw
            obtain ⟨hP1, hK1, hD1⟩ := hB
            rw [ht] at hP1
            have hP1 : va_P (dC, dI) vwCl (mW cI a o (f) (g) (31 * (mH5 f g k6 k7 (k)) + ((g 0 (k)).toInt64))) H1 := hP1
            have hD1 : va_D _ (mW cI a o (f) (g) (31 * (mH5 f g k6 k7 (k)) + ((g 0 (k)).toInt64))) := hD1
            obtain ⟨hP, hD⟩ := va_join (wr := []) (w1 := mW cI a o (f) (g) (31 * (mH5 f g k6 k7 (k)) + ((g 0 (k)).toInt64))) hP hD [0, 1, 2, 3, 4, 5, 6, 7, 8, 9, 10] [] rfl rfl (by decide) (by decide) hk1 hFc hP1 hD1
            clear hP1 hD1 hK1 hPc hDc hFc hk1 hz1
            generalize H1 = H at hP hS ⊢
            have hP : va_P (dC, dI) vwCl (mW cI a o (f) (g) (31 * (mH5 f g k6 k7 (k)) + ((g 0 (k)).toInt64))) H := hP
            have hD : va_D A (mW cI a o (f) (g) (31 * (mH5 f g k6 k7 (k)) + ((g 0 (k)).toInt64))) := hD
            refine lv_iinc (v := nI (k + 1)) (lv' := [(1, .int (nI (k + 1))), (0, .ref (a))]) hx hb dX8_digest_135 hl (k := 1) rfl (nI_1 _) (by decide) rfl (fun ls hl => ?_)
            refine lv_goto (tgt := 116) hx hb dX8_digest_138 (by decide) ?_
            have e2_0 : 31 * (mH5 f g k6 k7 (k)) + ((g 0 (k)).toInt64) = mH5 f g k6 k7 (k + 1) := by rfl
            have hP : va_P (dC, dI) vwCl (mW cI a o (f) (g) (mH5 f g k6 k7 (k + 1))) H := by rw [← e2_0]; exact hP
            have hD : va_D A (mW cI a o (f) (g) (mH5 f g k6 k7 (k + 1))) := by rw [← e2_0]; exact hD
            exact ih_116 (k + 1) H locs ls (by show _ < _; omega) (by show _; omega) hP hD hS (by show lv_has ls 2 [(0, .ref (a)), (1, .int (nI ((k + 1))))]; exact lv_sub hl [1, 0] rfl)
        · skip
          rw [nI_leI (a := k7) (b := k) (by omega) (by omega)] at c_4
          refine lv_aload_n hx hb dX8_digest_97 rfl (lv_at hl 0 rfl) ?_
          refine lv_aload_n hx hb dX8_digest_98 rfl (lv_at hl 0 rfl) ?_
          refine va_get (D := (dC, dI)) (ci := 8) (v := .ref (o 9)) (C := RX8) (T := TX8) (N := 25) hx hb hts hin8 hown hK hP 0 rfl rfl 9 (by decide) hW7 (fun _ h9 => h9) rfl dX8_digest_99 ?_
          refine lv_iload_n hx hb dX8_digest_102 rfl (lv_at hl 1 rfl) ?_
          refine ald hx hb hK hP (f := g 9) (k := k) 4 0 rfl rfl rfl (by omega) (by decide) dX8_digest_103 ?_
          refine lv_i2l hx hb dX8_digest_104 rfl ?_
          have hPc := hP.sub (ws' := (mW cI a o (f) (g) (mH4 f g k6 k7 (k)))) [0, 1, 2, 3, 4, 5, 6, 7, 8, 9, 10] rfl
          have hDc := hD.sub (ws' := (mW cI a o (f) (g) (mH4 f g k6 k7 (k)))) [0, 1, 2, 3, 4, 5, 6, 7, 8, 9, 10] (by decide) rfl
          have hFc := va_free (wc := (mW cI a o (f) (g) (mH4 f g k6 k7 (k)))) hD hS hA [0, 1, 2, 3, 4, 5, 6, 7, 8, 9, 10] rfl
          refine va_callv (va_runV (As := [.long ((g 9 (k)).toInt64)]) (rest := []) ⟨hx, hb, hml, hown, hts⟩ (c8_say l dC dI cI a o (f) (g) (mH4 f g k6 k7 (k)) H.size  ((g 9 (k)).toInt64) ) (cwV 1 hts gX8_digest_X8_say rfl rfl rfl (by decide +kernel) ⟨Nat.le_of_ble_eq_true rfl, Nat.le_of_ble_eq_true rfl⟩) ⟨fun a U g mk q => by obtain ⟨q0, q1, qP, qK, qD⟩ := q; exact ⟨q0, q1, qP, va_K.moved (u := U) (U := U.calling g mk a) (Vm.Alike.refl U.vm) qK, qD⟩, va_recv hK hP (ci := 8) (q0 := 0) rfl rfl, fun U hU hW => ⟨rfl, by rw [hU], by rw [hU]; exact hPc, va_K.moved hW.alike hK, hDc.weaken (fun _ _ _ _ => trivial)⟩⟩ rfl rfl hl.1 rfl (lv_room (Nat.le_of_ble_eq_true rfl)) dX8_digest_105 ⟨Nat.le_of_ble_eq_true rfl, Nat.le_of_ble_eq_true rfl⟩) hS (fun q _ h => hFc q h) hFc (fun u t H1 locs ht hvm hw hB hz1 hk1 hS => ?_)
          have hw : u = ((f, g, 31 * (mH4 f g k6 k7 (k)) + ((g 9 (k)).toInt64)) : MSt) := hw
          subst hw
          obtain ⟨hP1, hK1, hD1⟩ := hB
          rw [ht] at hP1
          have hP1 : va_P (dC, dI) vwCl (mW cI a o (f) (g) (31 * (mH4 f g k6 k7 (k)) + ((g 9 (k)).toInt64))) H1 := hP1
          have hD1 : va_D _ (mW cI a o (f) (g) (31 * (mH4 f g k6 k7 (k)) + ((g 9 (k)).toInt64))) := hD1
          obtain ⟨hP, hD⟩ := va_join (wr := []) (w1 := mW cI a o (f) (g) (31 * (mH4 f g k6 k7 (k)) + ((g 9 (k)).toInt64))) hP hD [0, 1, 2, 3, 4, 5, 6, 7, 8, 9, 10] [] rfl rfl (by decide) (by decide) hk1 hFc hP1 hD1
          clear hP1 hD1 hK1 hPc hDc hFc hk1 hz1
          generalize H1 = H at hP hS ⊢
          have hP : va_P (dC, dI) vwCl (mW cI a o (f) (g) (31 * (mH4 f g k6 k7 (k)) + ((g 9 (k)).toInt64))) H := hP
          have hD : va_D A (mW cI a o (f) (g) (31 * (mH4 f g k6 k7 (k)) + ((g 9 (k)).toInt64))) := hD
          refine lv_iinc (v := nI (k + 1)) (lv' := [(1, .int (nI (k + 1))), (0, .ref (a))]) hx hb dX8_digest_108 hl (k := 1) rfl (nI_1 _) (by decide) rfl (fun ls hl => ?_)
          refine lv_goto (tgt := 89) hx hb dX8_digest_111 (by decide) ?_
          have e2_0 : 31 * (mH4 f g k6 k7 (k)) + ((g 9 (k)).toInt64) = mH4 f g k6 k7 (k + 1) := by rfl
          have hP : va_P (dC, dI) vwCl (mW cI a o (f) (g) (mH4 f g k6 k7 (k + 1))) H := by rw [← e2_0]; exact hP
          have hD : va_D A (mW cI a o (f) (g) (mH4 f g k6 k7 (k + 1))) := by rw [← e2_0]; exact hD
          exact ih_89 (k + 1) H locs ls (by show _ < _; omega) (by show _; omega) hP hD hS (by show lv_has ls 2 [(0, .ref (a)), (1, .int (nI ((k + 1))))]; exact lv_sub hl [1, 0] rfl)
      · skip
        rw [nI_leI (a := k6) (b := k) (by omega) (by omega)] at c_3
        refine lv_aload_n hx hb dX8_digest_76 rfl (lv_at hl 0 rfl) ?_
        refine lv_iload_n hx hb dX8_digest_77 rfl (lv_at hl 1 rfl) ?_
        have hPc := hP.sub (ws' := (mW cI a o (f) (g) (mH3 f g k6 k7 (k)))) [0, 1, 2, 3, 4, 5, 6, 7, 8, 9, 10] rfl
        have hDc := hD.sub (ws' := (mW cI a o (f) (g) (mH3 f g k6 k7 (k)))) [0, 1, 2, 3, 4, 5, 6, 7, 8, 9, 10] (by decide) rfl
        have hFc := va_free (wc := (mW cI a o (f) (g) (mH3 f g k6 k7 (k)))) hD hS hA [0, 1, 2, 3, 4, 5, 6, 7, 8, 9, 10] rfl
        refine va_callv (va_runV (As := [.int (nI (k))]) (rest := []) ⟨hx, hb, hml, hown, hts⟩ (c8_sayPerson l dC dI cI a o (f) (g) (mH3 f g k6 k7 (k)) H.size e6 (by omega)  (k) (by omega)) (cwV 1 hts gX8_digest_X8_sayPerson rfl rfl rfl (by decide +kernel) ⟨Nat.le_of_ble_eq_true rfl, Nat.le_of_ble_eq_true rfl⟩) ⟨fun a U g mk q => by obtain ⟨q0, q1, qP, qK, qD⟩ := q; exact ⟨q0, q1, qP, va_K.moved (u := U) (U := U.calling g mk a) (Vm.Alike.refl U.vm) qK, qD⟩, va_recv hK hP (ci := 8) (q0 := 0) rfl rfl, fun U hU hW => ⟨rfl, by rw [hU], by rw [hU]; exact hPc, va_K.moved hW.alike hK, hDc.weaken (fun _ _ _ _ => trivial)⟩⟩ rfl rfl hl.1 rfl (lv_room (Nat.le_of_ble_eq_true rfl)) dX8_digest_78 ⟨Nat.le_of_ble_eq_true rfl, Nat.le_of_ble_eq_true rfl⟩) hS (fun q _ h => hFc q h) hFc (fun u t H1 locs ht hvm hw hB hz1 hk1 hS => ?_)
        have hw : u = ((f, g, mSyP (g) (k6) (k) (mH3 f g k6 k7 (k))) : MSt) := hw
        subst hw
        obtain ⟨hP1, hK1, hD1⟩ := hB
        rw [ht] at hP1
        have hP1 : va_P (dC, dI) vwCl (mW cI a o (f) (g) (mSyP (g) (k6) (k) (mH3 f g k6 k7 (k)))) H1 := hP1
        have hD1 : va_D _ (mW cI a o (f) (g) (mSyP (g) (k6) (k) (mH3 f g k6 k7 (k)))) := hD1
        obtain ⟨hP, hD⟩ := va_join (wr := []) (w1 := mW cI a o (f) (g) (mSyP (g) (k6) (k) (mH3 f g k6 k7 (k)))) hP hD [0, 1, 2, 3, 4, 5, 6, 7, 8, 9, 10] [] rfl rfl (by decide) (by decide) hk1 hFc hP1 hD1
        clear hP1 hD1 hK1 hPc hDc hFc hk1 hz1
        generalize H1 = H at hP hS ⊢
        have hP : va_P (dC, dI) vwCl (mW cI a o (f) (g) (mSyP (g) (k6) (k) (mH3 f g k6 k7 (k)))) H := hP
        have hD : va_D A (mW cI a o (f) (g) (mSyP (g) (k6) (k) (mH3 f g k6 k7 (k)))) := hD
        refine lv_iinc (v := nI (k + 1)) (lv' := [(1, .int (nI (k + 1))), (0, .ref (a))]) hx hb dX8_digest_81 hl (k := 1) rfl (nI_1 _) (by decide) rfl (fun ls hl => ?_)
        refine lv_goto (tgt := 68) hx hb dX8_digest_84 (by decide) ?_
        have e2_0 : mSyP (g) (k6) (k) (mH3 f g k6 k7 (k)) = mH3 f g k6 k7 (k + 1) := by rfl
        have hP : va_P (dC, dI) vwCl (mW cI a o (f) (g) (mH3 f g k6 k7 (k + 1))) H := by rw [← e2_0]; exact hP
        have hD : va_D A (mW cI a o (f) (g) (mH3 f g k6 k7 (k + 1))) := by rw [← e2_0]; exact hD
        exact ih_68 (k + 1) H locs ls (by show _ < _; omega) (by show _; omega) hP hD hS (by show lv_has ls 2 [(0, .ref (a)), (1, .int (nI ((k + 1))))]; exact lv_sub hl [1, 0] rfl)
  · skip
    rw [nI_leI (a := 6) (b := k) (by omega) (by omega)] at c_1
    refine lv_aload_n hx hb dX8_digest_15 rfl (lv_at hl 0 rfl) ?_
    refine va_get (D := (dC, dI)) (ci := 8) (v := .int (f 2)) (C := RX8) (T := TX8) (N := 25) hx hb hts hin8 hown hK hP 0 rfl rfl 2 (by decide) hW2 (fun _ h9 => h9) rfl dX8_digest_16 ?_
    refine lv_if_eq (tgt := 39) hx hb dX8_digest_19 (by decide) (fun c_7 => ?_) (fun c_7 => ?_)
    · skip
      have c_7 : (f 2) = nI 0 := c_7
      have hT0 : f 2 = nI 0 := c_7
      have hk0 : 0 = k := (hI.2.resolve_right (fun z => z hT0)).symm
      subst hk0
      refine lv_aload_n hx hb dX8_digest_39 rfl (lv_at hl 0 rfl) ?_
      refine va_get (D := (dC, dI)) (ci := 8) (v := .int (f 2)) (C := RX8) (T := TX8) (N := 25) hx hb hts hin8 hown hK hP 0 rfl rfl 2 (by decide) hW2 (fun _ h9 => h9) rfl dX8_digest_40 ?_
      refine lv_if_eq (tgt := 66) hx hb dX8_digest_43 (by decide) (fun c_8 => ?_) (fun c_8 => ?_)
      · skip
        have c_8 : (f 2) = nI 0 := c_8
        refine lv_iconst (v := nI (0)) hx hb dX8_digest_66 (by decide +kernel) ?_
        refine lv_istore_n (lv' := [(1, .int (nI (0))), (0, .ref (a))]) hx hb dX8_digest_67 rfl hl (by decide) rfl (fun ls hl => ?_)
        have hP0 : va_P (dC, dI) vwCl (mW cI a o (f) (g) (mH3 f g k6 k7 (0))) H := by rw [mH3, mH2]; (first | rw [if_pos hT0] | rw [if_neg hT0]); exact hP
        have hD0 : va_D A (mW cI a o (f) (g) (mH3 f g k6 k7 (0))) := by rw [mH3, mH2]; (first | rw [if_pos hT0] | rw [if_neg hT0]); exact hD
        refine lp_rw (fun k : Nat => k6 - k) (fun k : Nat => k ≤ k6) (fun k : Nat => [(0, .ref (a)), (1, .int (nI (k)))]) (fun k : Nat => mW cI a o (f) (g) (mH3 f g k6 k7 (k))) (0) (by omega) hP0 hD0 hS (by show lv_has ls 2 [(0, .ref (a)), (1, .int (nI (0)))]; exact lv_sub hl [1, 0] rfl) (fun k hI ih_68 H locs ls hP hD hS hl => ?_)
        have hP : va_P (dC, dI) vwCl (mW cI a o (f) (g) (mH3 f g k6 k7 (k))) H := hP
        have hD : va_D A (mW cI a o (f) (g) (mH3 f g k6 k7 (k))) := hD
        have hI : k ≤ k6 := hI
        have hl : lv_has ls 2 [(0, .ref (a)), (1, .int (nI (k)))] := hl
        refine lv_iload_n hx hb dX8_digest_68 rfl (lv_at hl 1 rfl) ?_
        refine lv_aload_n hx hb dX8_digest_69 rfl (lv_at hl 0 rfl) ?_
        refine va_get (D := (dC, dI)) (ci := 8) (v := .int (nI (k6))) (C := RX8) (T := TX8) (N := 25) hx hb hts hin8 hown hK hP 0 rfl rfl 6 (by decide) hW3 (fun _ h9 => h9) (congrArg (fun z => some (Value.int z)) e6) dX8_digest_70 ?_
        refine lv_icmp_ge (tgt := 87) hx hb dX8_digest_73 (by decide) (fun c_9 => ?_) (fun c_9 => ?_)
        · skip
          rw [nI_leI (a := k6) (b := k) (by omega) (by omega)] at c_9
          have hE : k6 = k := by omega
          subst hE
          refine lv_iconst (v := nI (0)) hx hb dX8_digest_87 (by decide +kernel) ?_
          refine lv_istore_n (lv' := [(1, .int (nI (0))), (0, .ref (a))]) hx hb dX8_digest_88 rfl hl (by decide) rfl (fun ls hl => ?_)
          have hP0 : va_P (dC, dI) vwCl (mW cI a o (f) (g) (mH4 f g k6 k7 (0))) H := by rw [mH4]; exact hP
          have hD0 : va_D A (mW cI a o (f) (g) (mH4 f g k6 k7 (0))) := by rw [mH4]; exact hD
          refine lp_rw (fun k : Nat => k7 - k) (fun k : Nat => k ≤ k7) (fun k : Nat => [(0, .ref (a)), (1, .int (nI (k)))]) (fun k : Nat => mW cI a o (f) (g) (mH4 f g k6 k7 (k))) (0) (by omega) hP0 hD0 hS (by show lv_has ls 2 [(0, .ref (a)), (1, .int (nI (0)))]; exact lv_sub hl [1, 0] rfl) (fun k hI ih_89 H locs ls hP hD hS hl => ?_)
          have hP : va_P (dC, dI) vwCl (mW cI a o (f) (g) (mH4 f g k6 k7 (k))) H := hP
          have hD : va_D A (mW cI a o (f) (g) (mH4 f g k6 k7 (k))) := hD
          have hI : k ≤ k7 := hI
          have hl : lv_has ls 2 [(0, .ref (a)), (1, .int (nI (k)))] := hl
          refine lv_iload_n hx hb dX8_digest_89 rfl (lv_at hl 1 rfl) ?_
          refine lv_aload_n hx hb dX8_digest_90 rfl (lv_at hl 0 rfl) ?_
          refine va_get (D := (dC, dI)) (ci := 8) (v := .int (nI (k7))) (C := RX8) (T := TX8) (N := 25) hx hb hts hin8 hown hK hP 0 rfl rfl 7 (by decide) hW4 (fun _ h9 => h9) (congrArg (fun z => some (Value.int z)) e7) dX8_digest_91 ?_
          refine lv_icmp_ge (tgt := 114) hx hb dX8_digest_94 (by decide) (fun c_10 => ?_) (fun c_10 => ?_)
          · skip
            rw [nI_leI (a := k7) (b := k) (by omega) (by omega)] at c_10
            have hE : k7 = k := by omega
            subst hE
            refine lv_iconst (v := nI (0)) hx hb dX8_digest_114 (by decide +kernel) ?_
            refine lv_istore_n (lv' := [(1, .int (nI (0))), (0, .ref (a))]) hx hb dX8_digest_115 rfl hl (by decide) rfl (fun ls hl => ?_)
            have hP0 : va_P (dC, dI) vwCl (mW cI a o (f) (g) (mH5 f g k6 k7 (0))) H := by rw [mH5]; exact hP
            have hD0 : va_D A (mW cI a o (f) (g) (mH5 f g k6 k7 (0))) := by rw [mH5]; exact hD
            refine lp_rw (fun k : Nat => k1 - k) (fun k : Nat => k ≤ k1) (fun k : Nat => [(0, .ref (a)), (1, .int (nI (k)))]) (fun k : Nat => mW cI a o (f) (g) (mH5 f g k6 k7 (k))) (0) (by omega) hP0 hD0 hS (by show lv_has ls 2 [(0, .ref (a)), (1, .int (nI (0)))]; exact lv_sub hl [1, 0] rfl) (fun k hI ih_116 H locs ls hP hD hS hl => ?_)
            have hP : va_P (dC, dI) vwCl (mW cI a o (f) (g) (mH5 f g k6 k7 (k))) H := hP
            have hD : va_D A (mW cI a o (f) (g) (mH5 f g k6 k7 (k))) := hD
            have hI : k ≤ k1 := hI
            have hl : lv_has ls 2 [(0, .ref (a)), (1, .int (nI (k)))] := hl
            refine lv_iload_n hx hb dX8_digest_116 rfl (lv_at hl 1 rfl) ?_
            refine lv_aload_n hx hb dX8_digest_117 rfl (lv_at hl 0 rfl) ?_
            refine va_get (D := (dC, dI)) (ci := 8) (v := .int (nI (k1))) (C := RX8) (T := TX8) (N := 25) hx hb hts hin8 hown hK hP 0 rfl rfl 1 (by decide) hW5 (fun _ h9 => h9) (congrArg (fun z => some (Value.int z)) e1) dX8_digest_118 ?_
            refine lv_icmp_ge (tgt := 141) hx hb dX8_digest_121 (by decide) (fun c_11 => ?_) (fun c_11 => ?_)
            · skip
              rw [nI_leI (a := k1) (b := k) (by omega) (by omega)] at c_11
              have hE : k1 = k := by omega
              subst hE
              refine lv_iconst (v := nI (0)) hx hb dX8_digest_141 (by decide +kernel) ?_
              refine lv_istore_n (lv' := [(1, .int (nI (0))), (0, .ref (a))]) hx hb dX8_digest_142 rfl hl (by decide) rfl (fun ls hl => ?_)
              have hP0 : va_P (dC, dI) vwCl (mW cI a o (f) (g) (mH6 f g k1 k6 k7 k10 (0))) H := by rw [mH6]; exact hP
              have hD0 : va_D A (mW cI a o (f) (g) (mH6 f g k1 k6 k7 k10 (0))) := by rw [mH6]; exact hD
              refine lp_rw (fun k : Nat => 9 - k) (fun k : Nat => k ≤ 9) (fun k : Nat => [(0, .ref (a)), (1, .int (nI (k)))]) (fun k : Nat => mW cI a o (f) (g) (mH6 f g k1 k6 k7 k10 (k))) (0) (by omega) hP0 hD0 hS (by show lv_has ls 2 [(0, .ref (a)), (1, .int (nI (0)))]; exact lv_sub hl [1, 0] rfl) (fun k hI ih_143 H locs ls hP hD hS hl => ?_)
              have hP : va_P (dC, dI) vwCl (mW cI a o (f) (g) (mH6 f g k1 k6 k7 k10 (k))) H := hP
              have hD : va_D A (mW cI a o (f) (g) (mH6 f g k1 k6 k7 k10 (k))) := hD
              have hI : k ≤ 9 := hI
              have hl : lv_has ls 2 [(0, .ref (a)), (1, .int (nI (k)))] := hl
              refine lv_iload_n hx hb dX8_digest_143 rfl (lv_at hl 1 rfl) ?_
              refine lv_bipush (v := nI (9)) hx hb dX8_digest_144 (by decide +kernel) ?_
              refine lv_icmp_ge (tgt := 165) hx hb dX8_digest_146 (by decide) (fun c_12 => ?_) (fun c_12 => ?_)
              · skip
                rw [nI_leI (a := 9) (b := k) (by omega) (by omega)] at c_12
                have hE : 9 = k := by omega
                subst hE
                refine lv_aload_n hx hb dX8_digest_165 rfl (lv_at hl 0 rfl) ?_
                refine va_get (D := (dC, dI)) (ci := 8) (v := .long (mH6 f g k1 k6 k7 k10 (9))) (C := RX8) (T := TX8) (N := 25) hx hb hts hin8 hown hK hP 0 rfl rfl 24 (by decide) hW1 (fun _ h9 => h9) rfl dX8_digest_166 ?_
                have hP9 : va_P (dC, dI) vwCl (mW cI a o (f) (g) (mH6 f g k1 k6 k7 k10 (9))) H := hP
                exact W.lret (v := mH6 f g k1 k6 k7 k10 (9)) hx hb hr (fun t ht hW => ⟨⟨mH6 f g k1 k6 k7 k10 (9), (f, g, mH6 f g k1 k6 k7 k10 (9)), rfl, (by show ((mH6 f g k1 k6 k7 k10 (9), (f, g, mH6 f g k1 k6 k7 k10 (9))) : _ × MSt) = (mH6 f g k1 k6 k7 k10 9, f, g, mH6 f g k1 k6 k7 k10 9); rfl), by rw [ht]; exact hP9, va_K.moved hW.alike hK, hD⟩, hS.F ht⟩) hS.2.2 dX8_digest_169
              · skip
                rw [nI_leI (a := 9) (b := k) (by omega) (by omega)] at c_12
                refine lv_aload_n hx hb dX8_digest_149 rfl (lv_at hl 0 rfl) ?_
                refine lv_aload_n hx hb dX8_digest_150 rfl (lv_at hl 0 rfl) ?_
                refine lv_iload_n hx hb dX8_digest_151 rfl (lv_at hl 1 rfl) ?_
                refine vp_callSi (va_Run.run (va_runV (As := [.int (nI (k))]) (rest := [.ref (a)]) ⟨hx, hb, hml, hown, hts⟩ (c8_countOf l dC dI cI a o (f) (g) (mH6 f g k1 k6 k7 k10 (k)) e1 (by omega) e6 (by omega) e7 (by omega) e10 (by omega) (nI (k)) ) (cwV 1 hts gX8_digest_X8_countOf rfl rfl rfl (by decide +kernel) ⟨Nat.le_of_ble_eq_true rfl, Nat.le_of_ble_eq_true rfl⟩) ⟨fun a U g mk q => ⟨q.1, q.2.1, va_K.moved (u := U) (U := U.calling g mk a) (Vm.Alike.refl U.vm) q.2.2⟩, va_recv hK hP (ci := 8) (q0 := 0) rfl rfl, fun U hU hW => ⟨rfl, by rw [hU]; exact hP, va_K.moved hW.alike hK⟩⟩ rfl rfl hl.1 rfl (lv_room (Nat.le_of_ble_eq_true rfl)) dX8_digest_152 ⟨Nat.le_of_ble_eq_true rfl, Nat.le_of_ble_eq_true rfl⟩)) (fun r hrc => ?_)
                have hrc : r = mCount (f) (g) (k1) (k6) (k7) (k10) (nI (k)) := hrc
                subst hrc
                refine lv_i2l hx hb dX8_digest_155 rfl ?_
                have hPc := hP.sub (ws' := (mW cI a o (f) (g) (mH6 f g k1 k6 k7 k10 (k)))) [0, 1, 2, 3, 4, 5, 6, 7, 8, 9, 10] rfl
                have hDc := hD.sub (ws' := (mW cI a o (f) (g) (mH6 f g k1 k6 k7 k10 (k)))) [0, 1, 2, 3, 4, 5, 6, 7, 8, 9, 10] (by decide) rfl
                have hFc := va_free (wc := (mW cI a o (f) (g) (mH6 f g k1 k6 k7 k10 (k)))) hD hS hA [0, 1, 2, 3, 4, 5, 6, 7, 8, 9, 10] rfl
                refine va_callv (va_runV (As := [.long ((mCount (f) (g) (k1) (k6) (k7) (k10) (nI (k))).toInt64)]) (rest := []) ⟨hx, hb, hml, hown, hts⟩ (c8_say l dC dI cI a o (f) (g) (mH6 f g k1 k6 k7 k10 (k)) H.size  ((mCount (f) (g) (k1) (k6) (k7) (k10) (nI (k))).toInt64) ) (cwV 1 hts gX8_digest_X8_say rfl rfl rfl (by decide +kernel) ⟨Nat.le_of_ble_eq_true rfl, Nat.le_of_ble_eq_true rfl⟩) ⟨fun a U g mk q => by obtain ⟨q0, q1, qP, qK, qD⟩ := q; exact ⟨q0, q1, qP, va_K.moved (u := U) (U := U.calling g mk a) (Vm.Alike.refl U.vm) qK, qD⟩, va_recv hK hP (ci := 8) (q0 := 0) rfl rfl, fun U hU hW => ⟨rfl, by rw [hU], by rw [hU]; exact hPc, va_K.moved hW.alike hK, hDc.weaken (fun _ _ _ _ => trivial)⟩⟩ rfl rfl hl.1 rfl (lv_room (Nat.le_of_ble_eq_true rfl)) dX8_digest_156 ⟨Nat.le_of_ble_eq_true rfl, Nat.le_of_ble_eq_true rfl⟩) hS (fun q _ h => hFc q h) hFc (fun u t H1 locs ht hvm hw hB hz1 hk1 hS => ?_)
                have hw : u = ((f, g, 31 * (mH6 f g k1 k6 k7 k10 (k)) + ((mCount (f) (g) (k1) (k6) (k7) (k10) (nI (k))).toInt64)) : MSt) := hw
                subst hw
                obtain ⟨hP1, hK1, hD1⟩ := hB
                rw [ht] at hP1
                have hP1 : va_P (dC, dI) vwCl (mW cI a o (f) (g) (31 * (mH6 f g k1 k6 k7 k10 (k)) + ((mCount (f) (g) (k1) (k6) (k7) (k10) (nI (k))).toInt64))) H1 := hP1
                have hD1 : va_D _ (mW cI a o (f) (g) (31 * (mH6 f g k1 k6 k7 k10 (k)) + ((mCount (f) (g) (k1) (k6) (k7) (k10) (nI (k))).toInt64))) := hD1
                obtain ⟨hP, hD⟩ := va_join (wr := []) (w1 := mW cI a o (f) (g) (31 * (mH6 f g k1 k6 k7 k10 (k)) + ((mCount (f) (g) (k1) (k6) (k7) (k10) (nI (k))).toInt64))) hP hD [0, 1, 2, 3, 4, 5, 6, 7, 8, 9, 10] [] rfl rfl (by decide) (by decide) hk1 hFc hP1 hD1
                clear hP1 hD1 hK1 hPc hDc hFc hk1 hz1
                generalize H1 = H at hP hS ⊢
                have hP : va_P (dC, dI) vwCl (mW cI a o (f) (g) (31 * (mH6 f g k1 k6 k7 k10 (k)) + ((mCount (f) (g) (k1) (k6) (k7) (k10) (nI (k))).toInt64))) H := hP
                have hD : va_D A (mW cI a o (f) (g) (31 * (mH6 f g k1 k6 k7 k10 (k)) + ((mCount (f) (g) (k1) (k6) (k7) (k10) (nI (k))).toInt64))) := hD
                refine lv_iinc (v := nI (k + 1)) (lv' := [(1, .int (nI (k + 1))), (0, .ref (a))]) hx hb dX8_digest_159 hl (k := 1) rfl (nI_1 _) (by decide) rfl (fun ls hl => ?_)
                refine lv_goto (tgt := 143) hx hb dX8_digest_162 (by decide) ?_
                have e2_0 : 31 * (mH6 f g k1 k6 k7 k10 (k)) + ((mCount (f) (g) (k1) (k6) (k7) (k10) (nI (k))).toInt64) = mH6 f g k1 k6 k7 k10 (k + 1) := by rfl
                have hP : va_P (dC, dI) vwCl (mW cI a o (f) (g) (mH6 f g k1 k6 k7 k10 (k + 1))) H := by rw [← e2_0]; exact hP
                have hD : va_D A (mW cI a o (f) (g) (mH6 f g k1 k6 k7 k10 (k + 1))) := by rw [← e2_0]; exact hD
                exact ih_143 (k + 1) H locs ls (by show _ < _; omega) (by show _; omega) hP hD hS (by show lv_has ls 2 [(0, .ref (a)), (1, .int (nI ((k + 1))))]; exact lv_sub hl [1, 0] rfl)
            · skip
              rw [nI_leI (a := k1) (b := k) (by omega) (by omega)] at c_11
              refine lv_aload_n hx hb dX8_digest_124 rfl (lv_at hl 0 rfl) ?_
              refine lv_aload_n hx hb dX8_digest_125 rfl (lv_at hl 0 rfl) ?_
              refine va_get (D := (dC, dI)) (ci := 8) (v := .ref (o 0)) (C := RX8) (T := TX8) (N := 25) hx hb hts hin8 hown hK hP 0 rfl rfl 0 (by decide) hW6 (fun _ h9 => h9) rfl dX8_digest_126 ?_
              refine lv_iload_n hx hb dX8_digest_129 rfl (lv_at hl 1 rfl) ?_
              refine ald hx hb hK hP (f := g 0) (k := k) 1 0 rfl rfl rfl (by omega) (by decide) dX8_digest_130 ?_
              refine lv_i2l hx hb dX8_digest_131 rfl ?_
              have hPc := hP.sub (ws' := (mW cI a o (f) (g) (mH5 f g k6 k7 (k)))) [0, 1, 2, 3, 4, 5, 6, 7, 8, 9, 10] rfl
              have hDc := hD.sub (ws' := (mW cI a o (f) (g) (mH5 f g k6 k7 (k)))) [0, 1, 2, 3, 4, 5, 6, 7, 8, 9, 10] (by decide) rfl
              have hFc := va_free (wc := (mW cI a o (f) (g) (mH5 f g k6 k7 (k)))) hD hS hA [0, 1, 2, 3, 4, 5, 6, 7, 8, 9, 10] rfl
              refine va_callv (va_runV (As := [.long ((g 0 (k)).toInt64)]) (rest := []) ⟨hx, hb, hml, hown, hts⟩ (c8_say l dC dI cI a o (f) (g) (mH5 f g k6 k7 (k)) H.size  ((g 0 (k)).toInt64) ) (cwV 1 hts gX8_digest_X8_say rfl rfl rfl (by decide +kernel) ⟨Nat.le_of_ble_eq_true rfl, Nat.le_of_ble_eq_true rfl⟩) ⟨fun a U g mk q => by obtain ⟨q0, q1, qP, qK, qD⟩ := q; exact ⟨q0, q1, qP, va_K.moved (u := U) (U := U.calling g mk a) (Vm.Alike.refl U.vm) qK, qD⟩, va_recv hK hP (ci := 8) (q0 := 0) rfl rfl, fun U hU hW => ⟨rfl, by rw [hU], by rw [hU]; exact hPc, va_K.moved hW.alike hK, hDc.weaken (fun _ _ _ _ => trivial)⟩⟩ rfl rfl hl.1 rfl (lv_room (Nat.le_of_ble_eq_true rfl)) dX8_digest_132 ⟨Nat.le_of_ble_eq_true rfl, Nat.le_of_ble_eq_true rfl⟩) hS (fun q _ h => hFc q h) hFc (fun u t H1 locs ht hvm hw hB hz1 hk1 hS => ?_)
              have hw : u = ((f, g, 31 * (mH5 f g k6 k7 (k)) + ((g 0 (k)).toInt64)) : MSt) := hw
              subst hw
              obtain ⟨hP1, hK1, hD1⟩ := hB
              rw [ht] at hP1
              have hP1 : va_P (dC, dI) vwCl (mW cI a o (f) (g) (31 * (mH5 f g k6 k7 (k)) + ((g 0 (k)).toInt64))) H1 := hP1
              have hD1 : va_D _ (mW cI a o (f) (g) (31 * (mH5 f g k6 k7 (k)) + ((g 0 (k)).toInt64))) := hD1
              obtain ⟨hP, hD⟩ := va_join (wr := []) (w1 := mW cI a o (f) (g) (31 * (mH5 f g k6 k7 (k)) + ((g 0 (k)).toInt64))) hP hD [0, 1, 2, 3, 4, 5, 6, 7, 8, 9, 10] [] rfl rfl (by decide) (by decide) hk1 hFc hP1 hD1
              clear hP1 hD1 hK1 hPc hDc hFc hk1 hz1
              generalize H1 = H at hP hS ⊢
              have hP : va_P (dC, dI) vwCl (mW cI a o (f) (g) (31 * (mH5 f g k6 k7 (k)) + ((g 0 (k)).toInt64))) H := hP
              have hD : va_D A (mW cI a o (f) (g) (31 * (mH5 f g k6 k7 (k)) + ((g 0 (k)).toInt64))) := hD
              refine lv_iinc (v := nI (k + 1)) (lv' := [(1, .int (nI (k + 1))), (0, .ref (a))]) hx hb dX8_digest_135 hl (k := 1) rfl (nI_1 _) (by decide) rfl (fun ls hl => ?_)
              refine lv_goto (tgt := 116) hx hb dX8_digest_138 (by decide) ?_
              have e2_0 : 31 * (mH5 f g k6 k7 (k)) + ((g 0 (k)).toInt64) = mH5 f g k6 k7 (k + 1) := by rfl
              have hP : va_P (dC, dI) vwCl (mW cI a o (f) (g) (mH5 f g k6 k7 (k + 1))) H := by rw [← e2_0]; exact hP
              have hD : va_D A (mW cI a o (f) (g) (mH5 f g k6 k7 (k + 1))) := by rw [← e2_0]; exact hD
              exact ih_116 (k + 1) H locs ls (by show _ < _; omega) (by show _; omega) hP hD hS (by show lv_has ls 2 [(0, .ref (a)), (1, .int (nI ((k + 1))))]; exact lv_sub hl [1, 0] rfl)
          · skip
            rw [nI_leI (a := k7) (b := k) (by omega) (by omega)] at c_10
            refine lv_aload_n hx hb dX8_digest_97 rfl (lv_at hl 0 rfl) ?_
            refine lv_aload_n hx hb dX8_digest_98 rfl (lv_at hl 0 rfl) ?_
            refine va_get (D := (dC, dI)) (ci := 8) (v := .ref (o 9)) (C := RX8) (T := TX8) (N := 25) hx hb hts hin8 hown hK hP 0 rfl rfl 9 (by decide) hW7 (fun _ h9 => h9) rfl dX8_digest_99 ?_
            refine lv_iload_n hx hb dX8_digest_102 rfl (lv_at hl 1 rfl) ?_
            refine ald hx hb hK hP (f := g 9) (k := k) 4 0 rfl rfl rfl (by omega) (by decide) dX8_digest_103 ?_
            refine lv_i2l hx hb dX8_digest_104 rfl ?_
            have hPc := hP.sub (ws' := (mW cI a o (f) (g) (mH4 f g k6 k7 (k)))) [0, 1, 2, 3, 4, 5, 6, 7, 8, 9, 10] rfl
            have hDc := hD.sub (ws' := (mW cI a o (f) (g) (mH4 f g k6 k7 (k)))) [0, 1, 2, 3, 4, 5, 6, 7, 8, 9, 10] (by decide) rfl
            have hFc := va_free (wc := (mW cI a o (f) (g) (mH4 f g k6 k7 (k)))) hD hS hA [0, 1, 2, 3, 4, 5, 6, 7, 8, 9, 10] rfl
            refine va_callv (va_runV (As := [.long ((g 9 (k)).toInt64)]) (rest := []) ⟨hx, hb, hml, hown, hts⟩ (c8_say l dC dI cI a o (f) (g) (mH4 f g k6 k7 (k)) H.size  ((g 9 (k)).toInt64) ) (cwV 1 hts gX8_digest_X8_say rfl rfl rfl (by decide +kernel) ⟨Nat.le_of_ble_eq_true rfl, Nat.le_of_ble_eq_true rfl⟩) ⟨fun a U g mk q => by obtain ⟨q0, q1, qP, qK, qD⟩ := q; exact ⟨q0, q1, qP, va_K.moved (u := U) (U := U.calling g mk a) (Vm.Alike.refl U.vm) qK, qD⟩, va_recv hK hP (ci := 8) (q0 := 0) rfl rfl, fun U hU hW => ⟨rfl, by rw [hU], by rw [hU]; exact hPc, va_K.moved hW.alike hK, hDc.weaken (fun _ _ _ _ => trivial)⟩⟩ rfl rfl hl.1 rfl (lv_room (Nat.le_of_ble_eq_true rfl)) dX8_digest_105 ⟨Nat.le_of_ble_eq_true rfl, Nat.le_of_ble_eq_true rfl⟩) hS (fun q _ h => hFc q h) hFc (fun u t H1 locs ht hvm hw hB hz1 hk1 hS => ?_)
            have hw : u = ((f, g, 31 * (mH4 f g k6 k7 (k)) + ((g 9 (k)).toInt64)) : MSt) := hw
            subst hw
            obtain ⟨hP1, hK1, hD1⟩ := hB
            rw [ht] at hP1
            have hP1 : va_P (dC, dI) vwCl (mW cI a o (f) (g) (31 * (mH4 f g k6 k7 (k)) + ((g 9 (k)).toInt64))) H1 := hP1
            have hD1 : va_D _ (mW cI a o (f) (g) (31 * (mH4 f g k6 k7 (k)) + ((g 9 (k)).toInt64))) := hD1
            obtain ⟨hP, hD⟩ := va_join (wr := []) (w1 := mW cI a o (f) (g) (31 * (mH4 f g k6 k7 (k)) + ((g 9 (k)).toInt64))) hP hD [0, 1, 2, 3, 4, 5, 6, 7, 8, 9, 10] [] rfl rfl (by decide) (by decide) hk1 hFc hP1 hD1
            clear hP1 hD1 hK1 hPc hDc hFc hk1 hz1
            generalize H1 = H at hP hS ⊢
            have hP : va_P (dC, dI) vwCl (mW cI a o (f) (g) (31 * (mH4 f g k6 k7 (k)) + ((g 9 (k)).toInt64))) H := hP
            have hD : va_D A (mW cI a o (f) (g) (31 * (mH4 f g k6 k7 (k)) + ((g 9 (k)).toInt64))) := hD
            refine lv_iinc (v := nI (k + 1)) (lv' := [(1, .int (nI (k + 1))), (0, .ref (a))]) hx hb dX8_digest_108 hl (k := 1) rfl (nI_1 _) (by decide) rfl (fun ls hl => ?_)
            refine lv_goto (tgt := 89) hx hb dX8_digest_111 (by decide) ?_
            have e2_0 : 31 * (mH4 f g k6 k7 (k)) + ((g 9 (k)).toInt64) = mH4 f g k6 k7 (k + 1) := by rfl
            have hP : va_P (dC, dI) vwCl (mW cI a o (f) (g) (mH4 f g k6 k7 (k + 1))) H := by rw [← e2_0]; exact hP
            have hD : va_D A (mW cI a o (f) (g) (mH4 f g k6 k7 (k + 1))) := by rw [← e2_0]; exact hD
            exact ih_89 (k + 1) H locs ls (by show _ < _; omega) (by show _; omega) hP hD hS (by show lv_has ls 2 [(0, .ref (a)), (1, .int (nI ((k + 1))))]; exact lv_sub hl [1, 0] rfl)
        · skip
          rw [nI_leI (a := k6) (b := k) (by omega) (by omega)] at c_9
          refine lv_aload_n hx hb dX8_digest_76 rfl (lv_at hl 0 rfl) ?_
          refine lv_iload_n hx hb dX8_digest_77 rfl (lv_at hl 1 rfl) ?_
          have hPc := hP.sub (ws' := (mW cI a o (f) (g) (mH3 f g k6 k7 (k)))) [0, 1, 2, 3, 4, 5, 6, 7, 8, 9, 10] rfl
          have hDc := hD.sub (ws' := (mW cI a o (f) (g) (mH3 f g k6 k7 (k)))) [0, 1, 2, 3, 4, 5, 6, 7, 8, 9, 10] (by decide) rfl
          have hFc := va_free (wc := (mW cI a o (f) (g) (mH3 f g k6 k7 (k)))) hD hS hA [0, 1, 2, 3, 4, 5, 6, 7, 8, 9, 10] rfl
          refine va_callv (va_runV (As := [.int (nI (k))]) (rest := []) ⟨hx, hb, hml, hown, hts⟩ (c8_sayPerson l dC dI cI a o (f) (g) (mH3 f g k6 k7 (k)) H.size e6 (by omega)  (k) (by omega)) (cwV 1 hts gX8_digest_X8_sayPerson rfl rfl rfl (by decide +kernel) ⟨Nat.le_of_ble_eq_true rfl, Nat.le_of_ble_eq_true rfl⟩) ⟨fun a U g mk q => by obtain ⟨q0, q1, qP, qK, qD⟩ := q; exact ⟨q0, q1, qP, va_K.moved (u := U) (U := U.calling g mk a) (Vm.Alike.refl U.vm) qK, qD⟩, va_recv hK hP (ci := 8) (q0 := 0) rfl rfl, fun U hU hW => ⟨rfl, by rw [hU], by rw [hU]; exact hPc, va_K.moved hW.alike hK, hDc.weaken (fun _ _ _ _ => trivial)⟩⟩ rfl rfl hl.1 rfl (lv_room (Nat.le_of_ble_eq_true rfl)) dX8_digest_78 ⟨Nat.le_of_ble_eq_true rfl, Nat.le_of_ble_eq_true rfl⟩) hS (fun q _ h => hFc q h) hFc (fun u t H1 locs ht hvm hw hB hz1 hk1 hS => ?_)
          have hw : u = ((f, g, mSyP (g) (k6) (k) (mH3 f g k6 k7 (k))) : MSt) := hw
          subst hw
          obtain ⟨hP1, hK1, hD1⟩ := hB
          rw [ht] at hP1
          have hP1 : va_P (dC, dI) vwCl (mW cI a o (f) (g) (mSyP (g) (k6) (k) (mH3 f g k6 k7 (k)))) H1 := hP1
          have hD1 : va_D _ (mW cI a o (f) (g) (mSyP (g) (k6) (k) (mH3 f g k6 k7 (k)))) := hD1
          obtain ⟨hP, hD⟩ := va_join (wr := []) (w1 := mW cI a o (f) (g) (mSyP (g) (k6) (k) (mH3 f g k6 k7 (k)))) hP hD [0, 1, 2, 3, 4, 5, 6, 7, 8, 9, 10] [] rfl rfl (by decide) (by decide) hk1 hFc hP1 hD1
          clear hP1 hD1 hK1 hPc hDc hFc hk1 hz1
          generalize H1 = H at hP hS ⊢
          have hP : va_P (dC, dI) vwCl (mW cI a o (f) (g) (mSyP (g) (k6) (k) (mH3 f g k6 k7 (k)))) H := hP
          have hD : va_D A (mW cI a o (f) (g) (mSyP (g) (k6) (k) (mH3 f g k6 k7 (k)))) := hD
          refine lv_iinc (v := nI (k + 1)) (lv' := [(1, .int (nI (k + 1))), (0, .ref (a))]) hx hb dX8_digest_81 hl (k := 1) rfl (nI_1 _) (by decide) rfl (fun ls hl => ?_)
          refine lv_goto (tgt := 68) hx hb dX8_digest_84 (by decide) ?_
          have e2_0 : mSyP (g) (k6) (k) (mH3 f g k6 k7 (k)) = mH3 f g k6 k7 (k + 1) := by rfl
          have hP : va_P (dC, dI) vwCl (mW cI a o (f) (g) (mH3 f g k6 k7 (k + 1))) H := by rw [← e2_0]; exact hP
          have hD : va_D A (mW cI a o (f) (g) (mH3 f g k6 k7 (k + 1))) := by rw [← e2_0]; exact hD
          exact ih_68 (k + 1) H locs ls (by show _ < _; omega) (by show _; omega) hP hD hS (by show lv_has ls 2 [(0, .ref (a)), (1, .int (nI ((k + 1))))]; exact lv_sub hl [1, 0] rfl)
      · skip
        have c_8 : ¬ (f 2) = nI 0 := c_8
        exact absurd hT0 c_8
    · skip
      have c_7 : ¬ (f 2) = nI 0 := c_7
      refine lv_aload_n hx hb dX8_digest_22 rfl (lv_at hl 0 rfl) ?_
      refine lv_aload_n hx hb dX8_digest_23 rfl (lv_at hl 0 rfl) ?_
      refine va_get (D := (dC, dI)) (ci := 8) (v := .ref (o 5)) (C := RX8) (T := TX8) (N := 25) hx hb hts hin8 hown hK hP 0 rfl rfl 5 (by decide) hW8 (fun _ h9 => h9) rfl dX8_digest_24 ?_
      refine lv_iload_n hx hb dX8_digest_27 rfl (lv_at hl 1 rfl) ?_
      refine ald hx hb hK hP (f := g 5) (k := k) 2 0 rfl rfl rfl (by omega) (by decide) dX8_digest_28 ?_
      refine lv_i2l hx hb dX8_digest_29 rfl ?_
      have hPc := hP.sub (ws' := (mW cI a o (f) (g) (mH1 g (k)))) [0, 1, 2, 3, 4, 5, 6, 7, 8, 9, 10] rfl
      have hDc := hD.sub (ws' := (mW cI a o (f) (g) (mH1 g (k)))) [0, 1, 2, 3, 4, 5, 6, 7, 8, 9, 10] (by decide) rfl
      have hFc := va_free (wc := (mW cI a o (f) (g) (mH1 g (k)))) hD hS hA [0, 1, 2, 3, 4, 5, 6, 7, 8, 9, 10] rfl
      refine va_callv (va_runV (As := [.long ((g 5 (k)).toInt64)]) (rest := []) ⟨hx, hb, hml, hown, hts⟩ (c8_say l dC dI cI a o (f) (g) (mH1 g (k)) H.size  ((g 5 (k)).toInt64) ) (cwV 1 hts gX8_digest_X8_say rfl rfl rfl (by decide +kernel) ⟨Nat.le_of_ble_eq_true rfl, Nat.le_of_ble_eq_true rfl⟩) ⟨fun a U g mk q => by obtain ⟨q0, q1, qP, qK, qD⟩ := q; exact ⟨q0, q1, qP, va_K.moved (u := U) (U := U.calling g mk a) (Vm.Alike.refl U.vm) qK, qD⟩, va_recv hK hP (ci := 8) (q0 := 0) rfl rfl, fun U hU hW => ⟨rfl, by rw [hU], by rw [hU]; exact hPc, va_K.moved hW.alike hK, hDc.weaken (fun _ _ _ _ => trivial)⟩⟩ rfl rfl hl.1 rfl (lv_room (Nat.le_of_ble_eq_true rfl)) dX8_digest_30 ⟨Nat.le_of_ble_eq_true rfl, Nat.le_of_ble_eq_true rfl⟩) hS (fun q _ h => hFc q h) hFc (fun u t H1 locs ht hvm hw hB hz1 hk1 hS => ?_)
      have hw : u = ((f, g, 31 * (mH1 g (k)) + ((g 5 (k)).toInt64)) : MSt) := hw
      subst hw
      obtain ⟨hP1, hK1, hD1⟩ := hB
      rw [ht] at hP1
      have hP1 : va_P (dC, dI) vwCl (mW cI a o (f) (g) (31 * (mH1 g (k)) + ((g 5 (k)).toInt64))) H1 := hP1
      have hD1 : va_D _ (mW cI a o (f) (g) (31 * (mH1 g (k)) + ((g 5 (k)).toInt64))) := hD1
      obtain ⟨hP, hD⟩ := va_join (wr := []) (w1 := mW cI a o (f) (g) (31 * (mH1 g (k)) + ((g 5 (k)).toInt64))) hP hD [0, 1, 2, 3, 4, 5, 6, 7, 8, 9, 10] [] rfl rfl (by decide) (by decide) hk1 hFc hP1 hD1
      clear hP1 hD1 hK1 hPc hDc hFc hk1 hz1
      generalize H1 = H at hP hS ⊢
      have hP : va_P (dC, dI) vwCl (mW cI a o (f) (g) (31 * (mH1 g (k)) + ((g 5 (k)).toInt64))) H := hP
      have hD : va_D A (mW cI a o (f) (g) (31 * (mH1 g (k)) + ((g 5 (k)).toInt64))) := hD
      refine lv_iinc (v := nI (k + 1)) (lv' := [(1, .int (nI (k + 1))), (0, .ref (a))]) hx hb dX8_digest_33 hl (k := 1) rfl (nI_1 _) (by decide) rfl (fun ls hl => ?_)
      refine lv_goto (tgt := 9) hx hb dX8_digest_36 (by decide) ?_
      have e2_0 : 31 * (mH1 g (k)) + ((g 5 (k)).toInt64) = mH1 g (k + 1) := by rfl
      have hP : va_P (dC, dI) vwCl (mW cI a o (f) (g) (mH1 g (k + 1))) H := by rw [← e2_0]; exact hP
      have hD : va_D A (mW cI a o (f) (g) (mH1 g (k + 1))) := by rw [← e2_0]; exact hD
      exact ih_9 (k + 1) H locs ls (by show _ < _; omega) ⟨by omega, Or.inr c_7⟩ hP hD hS (by show lv_has ls 2 [(0, .ref (a)), (1, .int (nI ((k + 1))))]; exact lv_sub hl [1, 0] rfl)

set_option maxHeartbeats 1200000 in
set_option maxRecDepth 100000 in
theorem c8_ageing (l : Launch) (dC : Nat → ClassId) (dI : Nat → Nat → Nat) (cI : ClassId) (a : Nat) (o : Nat → Nat) (f : Nat → Int32) (g : Nat → Nat → Int32) (h : Int64) (sz : Nat) {k6 : Nat} (e6 : f 6 = nI k6) (b6 : k6 ≤ 4) (q : Int32) (y : Int32) (z : Int32) (x : Int32) : Met l yX8_ageing wsX8_ageing ({ frames := 3, cells := 0, slots := 0, locals := 72 } : Room) (va_Pc [.ref (a), .int (q), .int (y), .int (z), .int (x)] (fun U => U.heap.size = sz ∧ va_P (dC, dI) vwCl (mW cI a o f g h) U.heap ∧ va_K (dC, dI) vwCl [(cI, .int)] U ∧ va_D (fun _ => True) (mW cI a o f g h))) (va_Qi (fun (r : Int32) (u : MSt) => (r, u) = mAgeing f g h k6 q y z x) (mB dC dI cI a o (va_A (mW cI a o f g h) sz)) (va_A (mW cI a o f g h) sz)) 0 0 (va_A (mW cI a o f g h) sz) := by
  refine Met.ofW (cc := cX8_ageing) (maxL := 12) (ret := (some .int)) (by decide) rfl ?_
  intro p_ e_ s m args below meth c_0 s₁ B hml hv
  obtain ⟨rfl, hsz, hP, hK, hD0⟩ := hv
  have hx := B.exec
  have hb := B.bytes
  have hr := B.returns
  have hts := atoms_spec (ws := wsX8_ageing) B.pre
  have hown : s.vm.findClass RX8 = some m.cls := findClass_of_methodNamed B.named
  have hlocks := B.notSynchronized
  subst hsz
  have hD := hD0.self (sz := s.heap.size)
  generalize hAe : va_A (mW cI a o f g h) s.heap.size = A at hD ⊢
  have hA : ∀ q : Nat, s.heap.size ≤ q → A q := fun q h => by rw [← hAe]; exact Or.inr h
  obtain ⟨H, hHe⟩ : ∃ H : Heap, H = s.heap := ⟨_, rfl⟩
  have hS : va_S A s.heap H [] := by rw [hHe]; exact va_S.rf
  rw [← hHe] at hP ⊢
  have hP : va_P (dC, dI) vwCl (mW cI a o f g h) H := hP
  have hl := lv_entry ([.ref (a), .int (q), .int (y), .int (z), .int (x)]) (n := 12) (Nat.le_of_ble_eq_true rfl)
  rw [lg_entry_eq]
  generalize (lg_sl ([.ref (a), .int (q), .int (y), .int (z), .int (x)]) ++ List.replicate (12 - (lg_sl ([.ref (a), .int (q), .int (y), .int (z), .int (x)])).length) Slot.unset).toArray = ls at hl ⊢
  have hl : lv_has ls 12 [(0, .ref (a)), (1, .int (q)), (2, .int (y)), (3, .int (z)), (4, .int (x))] := hl
  have hin8 : ∀ w ∈ wsX80, w ∈ wsX8_ageing := fun _ h => List.mem_cons_of_mem _ (List.mem_append_right _ h)
  have hW0 := hts (.constantLong RX8 174 (60)) (by decide +kernel)
  have hW1 := hts (.constantLong RX8 110 (2)) (by decide +kernel)
  have hW2 := hts (.fieldLink RX8 16 "EachEyeModel" "rows" "[I") (by decide +kernel)
  have hW3 := hts (.fieldLink RX8 166 "EachEyeModel" "seedNow" "I") (by decide +kernel)
  refine lv_aload_n hx hb dX8_ageing_0 rfl (lv_at hl 0 rfl) ?_
  refine lv_iload_n hx hb dX8_ageing_1 rfl (lv_at hl 1 rfl) ?_
  refine vp_callSi (va_Run.run (va_runV (As := [.int (q)]) (rest := []) ⟨hx, hb, hml, hown, hts⟩ (c8_isPerson l dC dI cI a o (f) (g) (h) e6 (by omega) (q) ) (cwV 1 hts gX8_ageing_X8_isPerson rfl rfl rfl (by decide +kernel) ⟨Nat.le_of_ble_eq_true rfl, Nat.le_of_ble_eq_true rfl⟩) ⟨fun a U g mk q => ⟨q.1, q.2.1, va_K.moved (u := U) (U := U.calling g mk a) (Vm.Alike.refl U.vm) q.2.2⟩, va_recv hK hP (ci := 8) (q0 := 0) rfl rfl, fun U hU hW => ⟨rfl, by rw [hU]; exact hP, va_K.moved hW.alike hK⟩⟩ rfl rfl hl.1 rfl (lv_room (Nat.le_of_ble_eq_true rfl)) dX8_ageing_2 ⟨Nat.le_of_ble_eq_true rfl, Nat.le_of_ble_eq_true rfl⟩)) (fun r hrc => ?_)
  have hrc : r = b2i (0 ≤ (q).toInt ∧ (q).toInt ≤ (k6 : Int) - 1) := hrc
  subst hrc
  refine lv_if_ne (tgt := 11) hx hb dX8_ageing_5 (by decide) (fun c_1 => ?_) (fun c_1 => ?_)
  · skip
    have c_1 := b2i_1 c_1
    refine lv_iload_n hx hb dX8_ageing_11 rfl (lv_at hl 2 rfl) ?_
    refine lv_i2l hx hb dX8_ageing_12 rfl ?_
    refine lv_lconst (v := 1) hx hb dX8_ageing_13 (by decide +kernel) ?_
    refine lv_ldc2 (v := 60) hx hb hown hW0 dX8_ageing_14 ?_
    refine vp_callSi (va_Run.run (va_runS (As := [.long ((y).toInt64), .long (1), .long (60)]) (rest := []) ⟨hx, hb, hml, hown, hts⟩ (c8_in l (y) (1) (60) (1) (60) rfl rfl) (va_cwS 3 hts gX8_ageing_X8_in rfl rfl rfl (by decide +kernel) ⟨Nat.le_of_ble_eq_true rfl, Nat.le_of_ble_eq_true rfl⟩) ⟨fun _ _ _ _ q => q, fun U hU hW => ⟨rfl, trivial⟩⟩ rfl rfl hl.1 rfl (lv_room (Nat.le_of_ble_eq_true rfl)) dX8_ageing_17 ⟨Nat.le_of_ble_eq_true rfl, Nat.le_of_ble_eq_true rfl⟩)) (fun r hrc => ?_)
    have hrc : r = b2i ((1) ≤ (y).toInt ∧ (y).toInt ≤ (60)) := hrc
    subst hrc
    refine lv_if_eq (tgt := 40) hx hb dX8_ageing_20 (by decide) (fun c_2 => ?_) (fun c_2 => ?_)
    · skip
      have c_2 := b2i_0 c_2
      refine lv_bipush (v := (-102)) hx hb dX8_ageing_40 (by decide +kernel) ?_
      have hP9 : va_P (dC, dI) vwCl (mW cI a o (f) (g) (h)) H := hP
      exact W.iret (v := (-102)) hx hb hr (fun t ht hW => ⟨⟨(-102), (f, g, h), rfl, (by show (((-102), (f, g, h)) : _ × MSt) = mAgeing f g h k6 q y z x; first | (simp only [mAgeing, if_pos c_1, if_neg c_2]; done) | (simp only [mAgeing, if_pos c_1, if_neg c_2]; rfl) | rfl | (simp [mAgeing, if_pos c_1, if_neg c_2]; done)), by rw [ht]; exact hP9, va_K.moved hW.alike hK, hD⟩, hS.F ht⟩) hS.2.2 dX8_ageing_42
    · skip
      have c_2 := b2i_1 c_2
      refine lv_iload_n hx hb dX8_ageing_23 rfl (lv_at hl 3 rfl) ?_
      refine lv_if_lt (tgt := 40) hx hb dX8_ageing_24 (by decide) (fun c_3 => ?_) (fun c_3 => ?_)
      · skip
        rw [lti, show (0 : Int32).toInt = 0 from rfl] at c_3
        refine lv_bipush (v := (-102)) hx hb dX8_ageing_40 (by decide +kernel) ?_
        have hP9 : va_P (dC, dI) vwCl (mW cI a o (f) (g) (h)) H := hP
        exact W.iret (v := (-102)) hx hb hr (fun t ht hW => ⟨⟨(-102), (f, g, h), rfl, (by show (((-102), (f, g, h)) : _ × MSt) = mAgeing f g h k6 q y z x; first | (simp only [mAgeing, if_pos c_1, if_pos c_2, if_pos c_3]; done) | (simp only [mAgeing, if_pos c_1, if_pos c_2, if_pos c_3]; rfl) | rfl | (simp [mAgeing, if_pos c_1, if_pos c_2, if_pos c_3]; done)), by rw [ht]; exact hP9, va_K.moved hW.alike hK, hD⟩, hS.F ht⟩) hS.2.2 dX8_ageing_42
      · skip
        rw [lti, show (0 : Int32).toInt = 0 from rfl] at c_3
        refine lv_iload hx hb dX8_ageing_27 (lv_at hl 4 rfl) ?_
        refine lv_i2l hx hb dX8_ageing_29 rfl ?_
        refine lv_lconst (v := 0) hx hb dX8_ageing_30 (by decide +kernel) ?_
        refine lv_ldc2 (v := 2) hx hb hown hW1 dX8_ageing_31 ?_
        refine vp_callSi (va_Run.run (va_runS (As := [.long ((x).toInt64), .long (0), .long (2)]) (rest := []) ⟨hx, hb, hml, hown, hts⟩ (c8_in l (x) (0) (2) (0) (2) rfl rfl) (va_cwS 3 hts gX8_ageing_X8_in rfl rfl rfl (by decide +kernel) ⟨Nat.le_of_ble_eq_true rfl, Nat.le_of_ble_eq_true rfl⟩) ⟨fun _ _ _ _ q => q, fun U hU hW => ⟨rfl, trivial⟩⟩ rfl rfl hl.1 rfl (lv_room (Nat.le_of_ble_eq_true rfl)) dX8_ageing_34 ⟨Nat.le_of_ble_eq_true rfl, Nat.le_of_ble_eq_true rfl⟩)) (fun r hrc => ?_)
        have hrc : r = b2i ((0) ≤ (x).toInt ∧ (x).toInt ≤ (2)) := hrc
        subst hrc
        refine lv_if_ne (tgt := 43) hx hb dX8_ageing_37 (by decide) (fun c_4 => ?_) (fun c_4 => ?_)
        · skip
          have c_4 := b2i_1 c_4
          refine lv_aload_n hx hb dX8_ageing_43 rfl (lv_at hl 0 rfl) ?_
          refine va_get (D := (dC, dI)) (ci := 8) (v := .ref (o 8)) (C := RX8) (T := TX8) (N := 25) hx hb hts hin8 hown hK hP 0 rfl rfl 8 (by decide) hW2 (fun _ h9 => h9) rfl dX8_ageing_44 ?_
          refine lv_bipush (v := nI (10)) hx hb dX8_ageing_47 (by decide +kernel) ?_
          refine lv_iload_n hx hb dX8_ageing_49 rfl (lv_at hl 1 rfl) ?_
          refine tv (ix_int (by omega)) ?_
          refine lv_imul hx hb dX8_ageing_50 ?_
          refine tv (pk_mul (10) (q.toInt.toNat)) ?_
          refine lv_iconst (v := nI (1)) hx hb dX8_ageing_51 (by decide +kernel) ?_
          refine lv_iadd hx hb dX8_ageing_52 ?_
          refine tv (nI_add (10 * (q.toInt.toNat)) (1)) ?_
          refine ald hx hb hK hP (f := g 8) (k := 10 * (q.toInt.toNat) + 1) 3 0 rfl rfl rfl (by omega) (by decide) dX8_ageing_53 ?_
          refine lv_istore (lv' := [(5, .int (g 8 (10 * (q.toInt.toNat) + 1))), (0, .ref (a)), (1, .int (q)), (2, .int (y)), (3, .int (z)), (4, .int (x))]) hx hb dX8_ageing_54 hl (by decide) rfl (fun ls hl => ?_)
          refine lv_aload_n hx hb dX8_ageing_56 rfl (lv_at hl 1 rfl) ?_
          refine va_get (D := (dC, dI)) (ci := 8) (v := .ref (o 8)) (C := RX8) (T := TX8) (N := 25) hx hb hts hin8 hown hK hP 0 rfl rfl 8 (by decide) hW2 (fun _ h9 => h9) rfl dX8_ageing_57 ?_
          refine lv_bipush (v := nI (10)) hx hb dX8_ageing_60 (by decide +kernel) ?_
          refine lv_iload_n hx hb dX8_ageing_62 rfl (lv_at hl 2 rfl) ?_
          refine tv (ix_int (by omega)) ?_
          refine lv_imul hx hb dX8_ageing_63 ?_
          refine tv (pk_mul (10) (q.toInt.toNat)) ?_
          refine lv_iconst (v := nI (2)) hx hb dX8_ageing_64 (by decide +kernel) ?_
          refine lv_iadd hx hb dX8_ageing_65 ?_
          refine tv (nI_add (10 * (q.toInt.toNat)) (2)) ?_
          refine ald hx hb hK hP (f := g 8) (k := 10 * (q.toInt.toNat) + 2) 3 0 rfl rfl rfl (by omega) (by decide) dX8_ageing_66 ?_
          refine lv_istore (lv' := [(6, .int (g 8 (10 * (q.toInt.toNat) + 2))), (5, .int (g 8 (10 * (q.toInt.toNat) + 1))), (0, .ref (a)), (1, .int (q)), (2, .int (y)), (3, .int (z)), (4, .int (x))]) hx hb dX8_ageing_67 hl (by decide) rfl (fun ls hl => ?_)
          refine lv_iconst (v := (-1)) hx hb dX8_ageing_69 (by decide +kernel) ?_
          refine lv_istore (lv' := [(7, .int ((-1))), (6, .int (g 8 (10 * (q.toInt.toNat) + 2))), (5, .int (g 8 (10 * (q.toInt.toNat) + 1))), (0, .ref (a)), (1, .int (q)), (2, .int (y)), (3, .int (z)), (4, .int (x))]) hx hb dX8_ageing_70 hl (by decide) rfl (fun ls hl => ?_)
          refine lv_aload_n hx hb dX8_ageing_72 rfl (lv_at hl 3 rfl) ?_
          refine lv_iload_n hx hb dX8_ageing_73 rfl (lv_at hl 6 rfl) ?_
          refine va_put (D := (dC, dI)) (ci := 8) (v := .int (z)) (ty := .int) (C := RX8) (T := TX8) (N := 25) hx hb hts hin8 tyX8 tyX8_ok nmX8 hown hK hP hD hS 0 rfl rfl 14 (by decide) hW3 (fun _ h9 => h9) rfl (by decide +kernel) rfl rfl (Nat.le_of_ble_eq_true rfl) dX8_ageing_74 (fun H locs hP hD hS => ?_)
          have hP : va_P (dC, dI) vwCl (mW cI a o (su f 14 (z)) (g) (h)) H := hP
          have hD : va_D A (mW cI a o (su f 14 (z)) (g) (h)) := hD
          refine lv_iconst (v := nI (1)) hx hb dX8_ageing_77 (by decide +kernel) ?_
          refine lv_istore (lv' := [(8, .int (nI (1))), (7, .int ((-1))), (6, .int (g 8 (10 * (q.toInt.toNat) + 2))), (5, .int (g 8 (10 * (q.toInt.toNat) + 1))), (0, .ref (a)), (1, .int (q)), (2, .int (y)), (3, .int (z)), (4, .int (x))]) hx hb dX8_ageing_78 hl (by decide) rfl (fun ls hl => ?_)
          have e0_5 : (g 8 (10 * (q.toInt.toNat) + 1)) = (mAg g q.toInt.toNat z (0)).2.1 := rfl
          have e0_6 : (g 8 (10 * (q.toInt.toNat) + 2)) = (mAg g q.toInt.toNat z (0)).2.2.1 := rfl
          have e0_7 : ((-1)) = (mAg g q.toInt.toNat z (0)).2.2.2 := rfl
          have hP0 : va_P (dC, dI) vwCl (mW cI a o (su f 14 ((mAg g q.toInt.toNat z (0)).1)) (g) (h)) H := by skip; exact hP
          have hD0 : va_D A (mW cI a o (su f 14 ((mAg g q.toInt.toNat z (0)).1)) (g) (h)) := by skip; exact hD
          refine lp_rw (fun k : Nat => y.toInt.toNat - k) (fun k : Nat => k ≤ y.toInt.toNat) (fun k : Nat => [(0, .ref (a)), (1, .int (q)), (2, .int (y)), (3, .int (z)), (4, .int (x)), (5, .int ((mAg g q.toInt.toNat z (k)).2.1)), (6, .int ((mAg g q.toInt.toNat z (k)).2.2.1)), (7, .int ((mAg g q.toInt.toNat z (k)).2.2.2)), (8, .int (nI (k + 1)))]) (fun k : Nat => mW cI a o (su f 14 ((mAg g q.toInt.toNat z (k)).1)) (g) (h)) (0) (by omega) hP0 hD0 hS (by show lv_has ls 12 [(0, .ref (a)), (1, .int (q)), (2, .int (y)), (3, .int (z)), (4, .int (x)), (5, .int ((mAg g q.toInt.toNat z (0)).2.1)), (6, .int ((mAg g q.toInt.toNat z (0)).2.2.1)), (7, .int ((mAg g q.toInt.toNat z (0)).2.2.2)), (8, .int (nI (0 + 1)))]; rw [← e0_5, ← e0_6, ← e0_7]; exact lv_sub hl [4, 5, 6, 7, 8, 3, 2, 1, 0] rfl) (fun k hI ih_80 H locs ls hP hD hS hl => ?_)
          have hP : va_P (dC, dI) vwCl (mW cI a o (su f 14 ((mAg g q.toInt.toNat z (k)).1)) (g) (h)) H := hP
          have hD : va_D A (mW cI a o (su f 14 ((mAg g q.toInt.toNat z (k)).1)) (g) (h)) := hD
          have hI : k ≤ y.toInt.toNat := hI
          have hl : lv_has ls 12 [(0, .ref (a)), (1, .int (q)), (2, .int (y)), (3, .int (z)), (4, .int (x)), (5, .int ((mAg g q.toInt.toNat z (k)).2.1)), (6, .int ((mAg g q.toInt.toNat z (k)).2.2.1)), (7, .int ((mAg g q.toInt.toNat z (k)).2.2.2)), (8, .int (nI (k + 1)))] := hl
          refine lv_iload hx hb dX8_ageing_80 (lv_at hl 8 rfl) ?_
          refine lv_iload_n hx hb dX8_ageing_82 rfl (lv_at hl 2 rfl) ?_
          refine tv (ix_int (by omega)) ?_
          refine lv_icmp_gt (tgt := 189) hx hb dX8_ageing_83 (by decide) (fun c_5 => ?_) (fun c_5 => ?_)
          · skip
            rw [nI_ltI (a := y.toInt.toNat) (b := k + 1) (by omega) (by omega)] at c_5
            have hE : y.toInt.toNat = k := by omega
            subst hE
            refine lv_iload hx hb dX8_ageing_189 (lv_at hl 4 rfl) ?_
            refine lv_if_ne (tgt := 199) hx hb dX8_ageing_191 (by decide) (fun c_6 => ?_) (fun c_6 => ?_)
            · skip
              have c_6 : ¬ (x) = nI 0 := c_6
              refine lv_iload hx hb dX8_ageing_199 (lv_at hl 4 rfl) ?_
              refine lv_iconst (v := nI (1)) hx hb dX8_ageing_201 (by decide +kernel) ?_
              refine lv_icmp_ne (tgt := 219) hx hb dX8_ageing_202 (by decide) (fun c_7 => ?_) (fun c_7 => ?_)
              · skip
                refine lv_aload_n hx hb dX8_ageing_219 rfl (lv_at hl 0 rfl) ?_
                refine va_get (D := (dC, dI)) (ci := 8) (v := .int ((mAg g q.toInt.toNat z ((y.toInt.toNat))).1)) (C := RX8) (T := TX8) (N := 25) hx hb hts hin8 hown hK hP 0 rfl rfl 14 (by decide) hW3 (fun _ h9 => h9) rfl dX8_ageing_220 ?_
                have hP9 : va_P (dC, dI) vwCl (mW cI a o (su f 14 ((mAg g q.toInt.toNat z ((y.toInt.toNat))).1)) (g) (h)) H := hP
                exact W.iret (v := (mAg g q.toInt.toNat z ((y.toInt.toNat))).1) hx hb hr (fun t ht hW => ⟨⟨(mAg g q.toInt.toNat z ((y.toInt.toNat))).1, (su f 14 ((mAg g q.toInt.toNat z ((y.toInt.toNat))).1), g, h), rfl, (by show (((mAg g q.toInt.toNat z ((y.toInt.toNat))).1, (su f 14 ((mAg g q.toInt.toNat z ((y.toInt.toNat))).1), g, h)) : _ × MSt) = mAgeing f g h k6 q y z x; first | (simp only [mAgeing, if_pos c_1, if_pos c_2, if_neg c_3, if_pos c_4, if_pos c_5, if_neg c_6, if_neg c_7]; done) | (simp only [mAgeing, if_pos c_1, if_pos c_2, if_neg c_3, if_pos c_4, if_pos c_5, if_neg c_6, if_neg c_7]; rfl) | rfl | (simp [mAgeing, if_pos c_1, if_pos c_2, if_neg c_3, if_pos c_4, if_pos c_5, if_neg c_6, if_neg c_7]; done)), by rw [ht]; exact hP9, va_K.moved hW.alike hK, hD⟩, hS.F ht⟩) hS.2.2 dX8_ageing_223
              · skip
                refine lv_iload hx hb dX8_ageing_205 (lv_at hl 5 rfl) ?_
                refine vp_callSi (va_Run.run (va_runS (As := [.int ((mAg g q.toInt.toNat z ((y.toInt.toNat))).2.1)]) (rest := []) ⟨hx, hb, hml, hown, hts⟩ (c8_parts l ((mAg g q.toInt.toNat z ((y.toInt.toNat))).2.1)) (va_cwS 1 hts gX8_ageing_X8_parts rfl rfl rfl (by decide +kernel) ⟨Nat.le_of_ble_eq_true rfl, Nat.le_of_ble_eq_true rfl⟩) ⟨fun _ _ _ _ q => q, fun U hU hW => ⟨rfl, trivial⟩⟩ rfl rfl hl.1 rfl (lv_room (Nat.le_of_ble_eq_true rfl)) dX8_ageing_207 ⟨Nat.le_of_ble_eq_true rfl, Nat.le_of_ble_eq_true rfl⟩)) (fun r hrc => ?_)
                have hrc : r = ((((mAg g q.toInt.toNat z ((y.toInt.toNat))).2.1) &&& 1) + ((((mAg g q.toInt.toNat z ((y.toInt.toNat))).2.1) >>> ((1 : Int32) &&& 31)) &&& 1)) + ((((mAg g q.toInt.toNat z ((y.toInt.toNat))).2.1) >>> ((2 : Int32) &&& 31)) &&& 1) := hrc
                subst hrc
                refine lv_iload hx hb dX8_ageing_210 (lv_at hl 6 rfl) ?_
                refine vp_callSi (va_Run.run (va_runS (As := [.int ((mAg g q.toInt.toNat z ((y.toInt.toNat))).2.2.1)]) (rest := [.int (((((mAg g q.toInt.toNat z ((y.toInt.toNat))).2.1) &&& 1) + ((((mAg g q.toInt.toNat z ((y.toInt.toNat))).2.1) >>> ((1 : Int32) &&& 31)) &&& 1)) + ((((mAg g q.toInt.toNat z ((y.toInt.toNat))).2.1) >>> ((2 : Int32) &&& 31)) &&& 1))]) ⟨hx, hb, hml, hown, hts⟩ (c8_parts l ((mAg g q.toInt.toNat z ((y.toInt.toNat))).2.2.1)) (va_cwS 1 hts gX8_ageing_X8_parts rfl rfl rfl (by decide +kernel) ⟨Nat.le_of_ble_eq_true rfl, Nat.le_of_ble_eq_true rfl⟩) ⟨fun _ _ _ _ q => q, fun U hU hW => ⟨rfl, trivial⟩⟩ rfl rfl hl.1 rfl (lv_room (Nat.le_of_ble_eq_true rfl)) dX8_ageing_212 ⟨Nat.le_of_ble_eq_true rfl, Nat.le_of_ble_eq_true rfl⟩)) (fun r hrc => ?_)
                have hrc : r = ((((mAg g q.toInt.toNat z ((y.toInt.toNat))).2.2.1) &&& 1) + ((((mAg g q.toInt.toNat z ((y.toInt.toNat))).2.2.1) >>> ((1 : Int32) &&& 31)) &&& 1)) + ((((mAg g q.toInt.toNat z ((y.toInt.toNat))).2.2.1) >>> ((2 : Int32) &&& 31)) &&& 1) := hrc
                subst hrc
                refine lv_iadd hx hb dX8_ageing_215 ?_
                refine lv_goto (tgt := 223) hx hb dX8_ageing_216 (by decide) ?_
                have hP9 : va_P (dC, dI) vwCl (mW cI a o (su f 14 ((mAg g q.toInt.toNat z ((y.toInt.toNat))).1)) (g) (h)) H := hP
                exact W.iret (v := (((((mAg g q.toInt.toNat z ((y.toInt.toNat))).2.1) &&& 1) + ((((mAg g q.toInt.toNat z ((y.toInt.toNat))).2.1) >>> ((1 : Int32) &&& 31)) &&& 1)) + ((((mAg g q.toInt.toNat z ((y.toInt.toNat))).2.1) >>> ((2 : Int32) &&& 31)) &&& 1)) + (((((mAg g q.toInt.toNat z ((y.toInt.toNat))).2.2.1) &&& 1) + ((((mAg g q.toInt.toNat z ((y.toInt.toNat))).2.2.1) >>> ((1 : Int32) &&& 31)) &&& 1)) + ((((mAg g q.toInt.toNat z ((y.toInt.toNat))).2.2.1) >>> ((2 : Int32) &&& 31)) &&& 1))) hx hb hr (fun t ht hW => ⟨⟨(((((mAg g q.toInt.toNat z ((y.toInt.toNat))).2.1) &&& 1) + ((((mAg g q.toInt.toNat z ((y.toInt.toNat))).2.1) >>> ((1 : Int32) &&& 31)) &&& 1)) + ((((mAg g q.toInt.toNat z ((y.toInt.toNat))).2.1) >>> ((2 : Int32) &&& 31)) &&& 1)) + (((((mAg g q.toInt.toNat z ((y.toInt.toNat))).2.2.1) &&& 1) + ((((mAg g q.toInt.toNat z ((y.toInt.toNat))).2.2.1) >>> ((1 : Int32) &&& 31)) &&& 1)) + ((((mAg g q.toInt.toNat z ((y.toInt.toNat))).2.2.1) >>> ((2 : Int32) &&& 31)) &&& 1)), (su f 14 ((mAg g q.toInt.toNat z ((y.toInt.toNat))).1), g, h), rfl, (by show (((((((mAg g q.toInt.toNat z ((y.toInt.toNat))).2.1) &&& 1) + ((((mAg g q.toInt.toNat z ((y.toInt.toNat))).2.1) >>> ((1 : Int32) &&& 31)) &&& 1)) + ((((mAg g q.toInt.toNat z ((y.toInt.toNat))).2.1) >>> ((2 : Int32) &&& 31)) &&& 1)) + (((((mAg g q.toInt.toNat z ((y.toInt.toNat))).2.2.1) &&& 1) + ((((mAg g q.toInt.toNat z ((y.toInt.toNat))).2.2.1) >>> ((1 : Int32) &&& 31)) &&& 1)) + ((((mAg g q.toInt.toNat z ((y.toInt.toNat))).2.2.1) >>> ((2 : Int32) &&& 31)) &&& 1)), (su f 14 ((mAg g q.toInt.toNat z ((y.toInt.toNat))).1), g, h)) : _ × MSt) = mAgeing f g h k6 q y z x; first | (simp only [mAgeing, if_pos c_1, if_pos c_2, if_neg c_3, if_pos c_4, if_pos c_5, if_neg c_6, if_pos c_7]; done) | (simp only [mAgeing, if_pos c_1, if_pos c_2, if_neg c_3, if_pos c_4, if_pos c_5, if_neg c_6, if_pos c_7]; rfl) | rfl | (simp [mAgeing, if_pos c_1, if_pos c_2, if_neg c_3, if_pos c_4, if_pos c_5, if_neg c_6, if_pos c_7]; done)), by rw [ht]; exact hP9, va_K.moved hW.alike hK, hD⟩, hS.F ht⟩) hS.2.2 dX8_ageing_223
            · skip
              have c_6 : (x) = nI 0 := c_6
              refine lv_iload hx hb dX8_ageing_194 (lv_at hl 7 rfl) ?_
              refine lv_goto (tgt := 223) hx hb dX8_ageing_196 (by decide) ?_
              have hP9 : va_P (dC, dI) vwCl (mW cI a o (su f 14 ((mAg g q.toInt.toNat z ((y.toInt.toNat))).1)) (g) (h)) H := hP
              exact W.iret (v := (mAg g q.toInt.toNat z ((y.toInt.toNat))).2.2.2) hx hb hr (fun t ht hW => ⟨⟨(mAg g q.toInt.toNat z ((y.toInt.toNat))).2.2.2, (su f 14 ((mAg g q.toInt.toNat z ((y.toInt.toNat))).1), g, h), rfl, (by show (((mAg g q.toInt.toNat z ((y.toInt.toNat))).2.2.2, (su f 14 ((mAg g q.toInt.toNat z ((y.toInt.toNat))).1), g, h)) : _ × MSt) = mAgeing f g h k6 q y z x; first | (simp only [mAgeing, if_pos c_1, if_pos c_2, if_neg c_3, if_pos c_4, if_pos c_5, if_pos c_6]; done) | (simp only [mAgeing, if_pos c_1, if_pos c_2, if_neg c_3, if_pos c_4, if_pos c_5, if_pos c_6]; rfl) | rfl | (simp [mAgeing, if_pos c_1, if_pos c_2, if_neg c_3, if_pos c_4, if_pos c_5, if_pos c_6]; done)), by rw [ht]; exact hP9, va_K.moved hW.alike hK, hD⟩, hS.F ht⟩) hS.2.2 dX8_ageing_223
          · skip
            rw [nI_ltI (a := y.toInt.toNat) (b := k + 1) (by omega) (by omega)] at c_5
            refine lv_aload_n hx hb dX8_ageing_86 rfl (lv_at hl 0 rfl) ?_
            refine lv_iconst (v := nI (2)) hx hb dX8_ageing_87 (by decide +kernel) ?_
            have hPc := hP.sub (ws' := (mW cI a o (su f 14 ((mAg g q.toInt.toNat z (k)).1)) (g) (h))) [0, 1, 2, 3, 4, 5, 6, 7, 8, 9, 10] rfl
            have hDc := hD.sub (ws' := (mW cI a o (su f 14 ((mAg g q.toInt.toNat z (k)).1)) (g) (h))) [0, 1, 2, 3, 4, 5, 6, 7, 8, 9, 10] (by decide) rfl
            have hFc := va_free (wc := (mW cI a o (su f 14 ((mAg g q.toInt.toNat z (k)).1)) (g) (h))) hD hS hA [0, 1, 2, 3, 4, 5, 6, 7, 8, 9, 10] rfl
            refine va_calli (va_runV (As := [.int (nI (2))]) (rest := []) ⟨hx, hb, hml, hown, hts⟩ (c8_draw l dC dI cI a o (su f 14 ((mAg g q.toInt.toNat z (k)).1)) (g) (h) H.size   2 (by omega)) (cwV 1 hts gX8_ageing_X8_draw rfl rfl rfl (by decide +kernel) ⟨Nat.le_of_ble_eq_true rfl, Nat.le_of_ble_eq_true rfl⟩) ⟨fun a U g mk q => by obtain ⟨q0, q1, qP, qK, qD⟩ := q; exact ⟨q0, q1, qP, va_K.moved (u := U) (U := U.calling g mk a) (Vm.Alike.refl U.vm) qK, qD⟩, va_recv hK hP (ci := 8) (q0 := 0) rfl rfl, fun U hU hW => ⟨rfl, by rw [hU], by rw [hU]; exact hPc, va_K.moved hW.alike hK, hDc.weaken (fun _ _ _ _ => trivial)⟩⟩ rfl rfl hl.1 rfl (lv_room (Nat.le_of_ble_eq_true rfl)) dX8_ageing_88 ⟨Nat.le_of_ble_eq_true rfl, Nat.le_of_ble_eq_true rfl⟩) hS (fun q _ h => hFc q h) hFc (fun r u t H1 locs ht hvm hw hB hz1 hk1 hS => ?_)
            simp only [su_su, su_s] at hw
            have hw : ((r, u) : _ × MSt) = (dr (nxs ((mAg g q.toInt.toNat z (k)).1)) (nI 2), (su f 14 (nxs ((mAg g q.toInt.toNat z (k)).1)), g, h)) := hw
            obtain ⟨hw1, hw2⟩ := Prod.mk.inj hw
            subst hw1
            subst hw2
            obtain ⟨hP1, hK1, hD1⟩ := hB
            rw [ht] at hP1
            have hP1 : va_P (dC, dI) vwCl (mW cI a o (su f 14 (nxs ((mAg g q.toInt.toNat z (k)).1))) (g) (h)) H1 := hP1
            have hD1 : va_D _ (mW cI a o (su f 14 (nxs ((mAg g q.toInt.toNat z (k)).1))) (g) (h)) := hD1
            obtain ⟨hP, hD⟩ := va_join (wr := []) (w1 := mW cI a o (su f 14 (nxs ((mAg g q.toInt.toNat z (k)).1))) (g) (h)) hP hD [0, 1, 2, 3, 4, 5, 6, 7, 8, 9, 10] [] rfl rfl (by decide) (by decide) hk1 hFc hP1 hD1
            clear hP1 hD1 hK1 hPc hDc hFc hk1 hz1
            generalize H1 = H at hP hS ⊢
            have hP : va_P (dC, dI) vwCl (mW cI a o (su f 14 (nxs ((mAg g q.toInt.toNat z (k)).1))) (g) (h)) H := hP
            have hD : va_D A (mW cI a o (su f 14 (nxs ((mAg g q.toInt.toNat z (k)).1))) (g) (h)) := hD
            refine lv_istore (lv' := [(9, .int (dr (nxs ((mAg g q.toInt.toNat z (k)).1)) (nI 2))), (0, .ref (a)), (1, .int (q)), (2, .int (y)), (3, .int (z)), (4, .int (x)), (5, .int ((mAg g q.toInt.toNat z (k)).2.1)), (6, .int ((mAg g q.toInt.toNat z (k)).2.2.1)), (7, .int ((mAg g q.toInt.toNat z (k)).2.2.2)), (8, .int (nI (k + 1)))]) hx hb dX8_ageing_91 hl (by decide) rfl (fun ls hl => ?_)
            refine lv_aload_n hx hb dX8_ageing_93 rfl (lv_at hl 1 rfl) ?_
            refine lv_bipush (v := nI (8)) hx hb dX8_ageing_94 (by decide +kernel) ?_
            have hPc := hP.sub (ws' := (mW cI a o (su f 14 (nxs ((mAg g q.toInt.toNat z (k)).1))) (g) (h))) [0, 1, 2, 3, 4, 5, 6, 7, 8, 9, 10] rfl
            have hDc := hD.sub (ws' := (mW cI a o (su f 14 (nxs ((mAg g q.toInt.toNat z (k)).1))) (g) (h))) [0, 1, 2, 3, 4, 5, 6, 7, 8, 9, 10] (by decide) rfl
            have hFc := va_free (wc := (mW cI a o (su f 14 (nxs ((mAg g q.toInt.toNat z (k)).1))) (g) (h))) hD hS hA [0, 1, 2, 3, 4, 5, 6, 7, 8, 9, 10] rfl
            refine va_calli (va_runV (As := [.int (nI (8))]) (rest := []) ⟨hx, hb, hml, hown, hts⟩ (c8_draw l dC dI cI a o (su f 14 (nxs ((mAg g q.toInt.toNat z (k)).1))) (g) (h) H.size   8 (by omega)) (cwV 1 hts gX8_ageing_X8_draw rfl rfl rfl (by decide +kernel) ⟨Nat.le_of_ble_eq_true rfl, Nat.le_of_ble_eq_true rfl⟩) ⟨fun a U g mk q => by obtain ⟨q0, q1, qP, qK, qD⟩ := q; exact ⟨q0, q1, qP, va_K.moved (u := U) (U := U.calling g mk a) (Vm.Alike.refl U.vm) qK, qD⟩, va_recv hK hP (ci := 8) (q0 := 0) rfl rfl, fun U hU hW => ⟨rfl, by rw [hU], by rw [hU]; exact hPc, va_K.moved hW.alike hK, hDc.weaken (fun _ _ _ _ => trivial)⟩⟩ rfl rfl hl.1 rfl (lv_room (Nat.le_of_ble_eq_true rfl)) dX8_ageing_96 ⟨Nat.le_of_ble_eq_true rfl, Nat.le_of_ble_eq_true rfl⟩) hS (fun q _ h => hFc q h) hFc (fun r u t H1 locs ht hvm hw hB hz1 hk1 hS => ?_)
            simp only [su_su, su_s] at hw
            have hw : ((r, u) : _ × MSt) = (dr (nxs (nxs ((mAg g q.toInt.toNat z (k)).1))) (nI 8), (su f 14 (nxs (nxs ((mAg g q.toInt.toNat z (k)).1))), g, h)) := hw
            obtain ⟨hw1, hw2⟩ := Prod.mk.inj hw
            subst hw1
            subst hw2
            obtain ⟨hP1, hK1, hD1⟩ := hB
            rw [ht] at hP1
            have hP1 : va_P (dC, dI) vwCl (mW cI a o (su f 14 (nxs (nxs ((mAg g q.toInt.toNat z (k)).1)))) (g) (h)) H1 := hP1
            have hD1 : va_D _ (mW cI a o (su f 14 (nxs (nxs ((mAg g q.toInt.toNat z (k)).1)))) (g) (h)) := hD1
            obtain ⟨hP, hD⟩ := va_join (wr := []) (w1 := mW cI a o (su f 14 (nxs (nxs ((mAg g q.toInt.toNat z (k)).1)))) (g) (h)) hP hD [0, 1, 2, 3, 4, 5, 6, 7, 8, 9, 10] [] rfl rfl (by decide) (by decide) hk1 hFc hP1 hD1
            clear hP1 hD1 hK1 hPc hDc hFc hk1 hz1
            generalize H1 = H at hP hS ⊢
            have hP : va_P (dC, dI) vwCl (mW cI a o (su f 14 (nxs (nxs ((mAg g q.toInt.toNat z (k)).1)))) (g) (h)) H := hP
            have hD : va_D A (mW cI a o (su f 14 (nxs (nxs ((mAg g q.toInt.toNat z (k)).1)))) (g) (h)) := hD
            refine lv_istore (lv' := [(10, .int (dr (nxs (nxs ((mAg g q.toInt.toNat z (k)).1))) (nI 8))), (9, .int (dr (nxs ((mAg g q.toInt.toNat z (k)).1)) (nI 2))), (0, .ref (a)), (1, .int (q)), (2, .int (y)), (3, .int (z)), (4, .int (x)), (5, .int ((mAg g q.toInt.toNat z (k)).2.1)), (6, .int ((mAg g q.toInt.toNat z (k)).2.2.1)), (7, .int ((mAg g q.toInt.toNat z (k)).2.2.2)), (8, .int (nI (k + 1)))]) hx hb dX8_ageing_99 hl (by decide) rfl (fun ls hl => ?_)
            refine lv_iload hx hb dX8_ageing_101 (lv_at hl 0 rfl) ?_
            refine lv_iconst (v := nI (3)) hx hb dX8_ageing_103 (by decide +kernel) ?_
            refine lv_icmp_ge (tgt := 114) hx hb dX8_ageing_104 (by decide) (fun c_8 => ?_) (fun c_8 => ?_)
            · skip
              rw [lei, tn (n := 3) (by omega)] at c_8
              refine lv_iconst (v := nI (0)) hx hb dX8_ageing_114 (by decide +kernel) ?_
              refine lv_istore (lv' := [(11, .int (nI (0))), (10, .int (dr (nxs (nxs ((mAg g q.toInt.toNat z (k)).1))) (nI 8))), (9, .int (dr (nxs ((mAg g q.toInt.toNat z (k)).1)) (nI 2))), (0, .ref (a)), (1, .int (q)), (2, .int (y)), (3, .int (z)), (4, .int (x)), (5, .int ((mAg g q.toInt.toNat z (k)).2.1)), (6, .int ((mAg g q.toInt.toNat z (k)).2.2.1)), (7, .int ((mAg g q.toInt.toNat z (k)).2.2.2)), (8, .int (nI (k + 1)))]) hx hb dX8_ageing_115 hl (by decide) rfl (fun ls hl => ?_)
              refine lv_iload hx hb dX8_ageing_117 (lv_at hl 2 rfl) ?_
              refine lv_if_ne (tgt := 132) hx hb dX8_ageing_119 (by decide) (fun c_9 => ?_) (fun c_9 => ?_)
              · skip
                have c_9 : ¬ (dr (nxs ((mAg g q.toInt.toNat z (k)).1)) (nI 2)) = nI 0 := c_9
                refine lv_iload hx hb dX8_ageing_132 (lv_at hl 8 rfl) ?_
                refine lv_istore (lv' := [(5, .int ((mAg g q.toInt.toNat z (k)).2.1)), (11, .int (nI (0))), (10, .int (dr (nxs (nxs ((mAg g q.toInt.toNat z (k)).1))) (nI 8))), (9, .int (dr (nxs ((mAg g q.toInt.toNat z (k)).1)) (nI 2))), (0, .ref (a)), (1, .int (q)), (2, .int (y)), (3, .int (z)), (4, .int (x)), (6, .int ((mAg g q.toInt.toNat z (k)).2.2.1)), (7, .int ((mAg g q.toInt.toNat z (k)).2.2.2)), (8, .int (nI (k + 1)))]) hx hb dX8_ageing_134 hl (by decide) rfl (fun ls hl => ?_)
                refine lv_iload hx hb dX8_ageing_136 (lv_at hl 3 rfl) ?_
                refine lv_iconst (v := nI (1)) hx hb dX8_ageing_138 (by decide +kernel) ?_
                refine lv_icmp_ne (tgt := 152) hx hb dX8_ageing_139 (by decide) (fun c_10 => ?_) (fun c_10 => ?_)
                · skip
                  refine lv_iload hx hb dX8_ageing_152 (lv_at hl 9 rfl) ?_
                  refine lv_istore (lv' := [(6, .int ((mAg g q.toInt.toNat z (k)).2.2.1)), (5, .int ((mAg g q.toInt.toNat z (k)).2.1)), (11, .int (nI (0))), (10, .int (dr (nxs (nxs ((mAg g q.toInt.toNat z (k)).1))) (nI 8))), (9, .int (dr (nxs ((mAg g q.toInt.toNat z (k)).1)) (nI 2))), (0, .ref (a)), (1, .int (q)), (2, .int (y)), (3, .int (z)), (4, .int (x)), (7, .int ((mAg g q.toInt.toNat z (k)).2.2.2)), (8, .int (nI (k + 1)))]) hx hb dX8_ageing_154 hl (by decide) rfl (fun ls hl => ?_)
                  refine lv_iload hx hb dX8_ageing_156 (lv_at hl 10 rfl) ?_
                  refine lv_iconst (v := (-1)) hx hb dX8_ageing_158 (by decide +kernel) ?_
                  refine lv_icmp_ne (tgt := 179) hx hb dX8_ageing_159 (by decide) (fun c_11 => ?_) (fun c_11 => ?_)
                  · skip
                    refine lv_iload hx hb dX8_ageing_179 (lv_at hl 10 rfl) ?_
                    refine lv_istore (lv' := [(7, .int ((mAg g q.toInt.toNat z (k)).2.2.2)), (6, .int ((mAg g q.toInt.toNat z (k)).2.2.1)), (5, .int ((mAg g q.toInt.toNat z (k)).2.1)), (11, .int (nI (0))), (10, .int (dr (nxs (nxs ((mAg g q.toInt.toNat z (k)).1))) (nI 8))), (9, .int (dr (nxs ((mAg g q.toInt.toNat z (k)).1)) (nI 2))), (0, .ref (a)), (1, .int (q)), (2, .int (y)), (3, .int (z)), (4, .int (x)), (8, .int (nI (k + 1)))]) hx hb dX8_ageing_181 hl (by decide) rfl (fun ls hl => ?_)
                    refine lv_iinc (v := nI (k + 1 + 1)) (lv' := [(8, .int (nI (k + 1 + 1))), (7, .int ((mAg g q.toInt.toNat z (k)).2.2.2)), (6, .int ((mAg g q.toInt.toNat z (k)).2.2.1)), (5, .int ((mAg g q.toInt.toNat z (k)).2.1)), (11, .int (nI (0))), (10, .int (dr (nxs (nxs ((mAg g q.toInt.toNat z (k)).1))) (nI 8))), (9, .int (dr (nxs ((mAg g q.toInt.toNat z (k)).1)) (nI 2))), (0, .ref (a)), (1, .int (q)), (2, .int (y)), (3, .int (z)), (4, .int (x))]) hx hb dX8_ageing_183 hl (k := 11) rfl (nI_1 _) (by decide) rfl (fun ls hl => ?_)
                    refine lv_goto (tgt := 80) hx hb dX8_ageing_186 (by decide) ?_
                    have e1_5 : ((mAg g q.toInt.toNat z (k)).2.1) = (mAg g q.toInt.toNat z ((k + 1))).2.1 := by simp only [mAg, mAgG, if_pos c_1, if_pos c_2, if_neg c_3, if_pos c_4, if_neg c_5, if_pos c_8, if_neg c_9, if_neg c_10, if_neg c_11]
                    have e1_6 : ((mAg g q.toInt.toNat z (k)).2.2.1) = (mAg g q.toInt.toNat z ((k + 1))).2.2.1 := by simp only [mAg, mAgG, if_pos c_1, if_pos c_2, if_neg c_3, if_pos c_4, if_neg c_5, if_pos c_8, if_neg c_9, if_neg c_10, if_neg c_11]
                    have e1_7 : ((mAg g q.toInt.toNat z (k)).2.2.2) = (mAg g q.toInt.toNat z ((k + 1))).2.2.2 := by simp only [mAg, mAgG, if_pos c_1, if_pos c_2, if_neg c_3, if_pos c_4, if_neg c_5, if_pos c_8, if_neg c_9, if_neg c_10, if_neg c_11]
                    have e2_0 : nxs (nxs ((mAg g q.toInt.toNat z (k)).1)) = (mAg g q.toInt.toNat z (k + 1)).1 := by rfl
                    have hP : va_P (dC, dI) vwCl (mW cI a o (su f 14 ((mAg g q.toInt.toNat z (k + 1)).1)) (g) (h)) H := by rw [← e2_0]; exact hP
                    have hD : va_D A (mW cI a o (su f 14 ((mAg g q.toInt.toNat z (k + 1)).1)) (g) (h)) := by rw [← e2_0]; exact hD
                    exact ih_80 (k + 1) H locs ls (by show _ < _; omega) (by show _; omega) hP hD hS (by show lv_has ls 12 [(0, .ref (a)), (1, .int (q)), (2, .int (y)), (3, .int (z)), (4, .int (x)), (5, .int ((mAg g q.toInt.toNat z ((k + 1))).2.1)), (6, .int ((mAg g q.toInt.toNat z ((k + 1))).2.2.1)), (7, .int ((mAg g q.toInt.toNat z ((k + 1))).2.2.2)), (8, .int (nI ((k + 1) + 1)))]; rw [← e1_5, ← e1_6, ← e1_7]; exact lv_sub hl [7, 8, 9, 10, 11, 3, 2, 1, 0] rfl)
                  · skip
                    refine lv_aload_n hx hb dX8_ageing_162 rfl (lv_at hl 5 rfl) ?_
                    refine lv_iload_n hx hb dX8_ageing_163 rfl (lv_at hl 6 rfl) ?_
                    refine tv (ix_int (by omega)) ?_
                    refine lv_iload hx hb dX8_ageing_164 (lv_at hl 1 rfl) ?_
                    refine lv_iload hx hb dX8_ageing_166 (lv_at hl 0 rfl) ?_
                    refine vp_callSi (va_Run.run (va_runV (As := [.int (nI (q.toInt.toNat)), .int ((mAg g q.toInt.toNat z (k)).2.1), .int ((mAg g q.toInt.toNat z (k)).2.2.1)]) (rest := []) ⟨hx, hb, hml, hown, hts⟩ (c8_readsAlike l dC dI cI a o (su f 14 (nxs (nxs ((mAg g q.toInt.toNat z (k)).1)))) (g) (h)  ((mAg g q.toInt.toNat z (k)).2.1) ((mAg g q.toInt.toNat z (k)).2.2.1) (q.toInt.toNat) (by omega)) (cwV 3 hts gX8_ageing_X8_readsAlike rfl rfl rfl (by decide +kernel) ⟨Nat.le_of_ble_eq_true rfl, Nat.le_of_ble_eq_true rfl⟩) ⟨fun a U g mk q => ⟨q.1, q.2.1, va_K.moved (u := U) (U := U.calling g mk a) (Vm.Alike.refl U.vm) q.2.2⟩, va_recv hK hP (ci := 8) (q0 := 0) rfl rfl, fun U hU hW => ⟨rfl, by rw [hU]; exact hP, va_K.moved hW.alike hK⟩⟩ rfl rfl hl.1 rfl (lv_room (Nat.le_of_ble_eq_true rfl)) dX8_ageing_168 ⟨Nat.le_of_ble_eq_true rfl, Nat.le_of_ble_eq_true rfl⟩)) (fun r hrc => ?_)
                    have hrc : r = b2i (mLike (g) (q.toInt.toNat) ((mAg g q.toInt.toNat z (k)).2.1) ((mAg g q.toInt.toNat z (k)).2.2.1) = true) := hrc
                    subst hrc
                    refine lv_if_ne (tgt := 179) hx hb dX8_ageing_171 (by decide) (fun c_12 => ?_) (fun c_12 => ?_)
                    · skip
                      have c_12 := b2i_1 c_12
                      refine lv_iload hx hb dX8_ageing_179 (lv_at hl 10 rfl) ?_
                      refine lv_istore (lv' := [(7, .int ((mAg g q.toInt.toNat z (k)).2.2.2)), (6, .int ((mAg g q.toInt.toNat z (k)).2.2.1)), (5, .int ((mAg g q.toInt.toNat z (k)).2.1)), (11, .int (nI (0))), (10, .int (dr (nxs (nxs ((mAg g q.toInt.toNat z (k)).1))) (nI 8))), (9, .int (dr (nxs ((mAg g q.toInt.toNat z (k)).1)) (nI 2))), (0, .ref (a)), (1, .int (q)), (2, .int (y)), (3, .int (z)), (4, .int (x)), (8, .int (nI (k + 1)))]) hx hb dX8_ageing_181 hl (by decide) rfl (fun ls hl => ?_)
                      refine lv_iinc (v := nI (k + 1 + 1)) (lv' := [(8, .int (nI (k + 1 + 1))), (7, .int ((mAg g q.toInt.toNat z (k)).2.2.2)), (6, .int ((mAg g q.toInt.toNat z (k)).2.2.1)), (5, .int ((mAg g q.toInt.toNat z (k)).2.1)), (11, .int (nI (0))), (10, .int (dr (nxs (nxs ((mAg g q.toInt.toNat z (k)).1))) (nI 8))), (9, .int (dr (nxs ((mAg g q.toInt.toNat z (k)).1)) (nI 2))), (0, .ref (a)), (1, .int (q)), (2, .int (y)), (3, .int (z)), (4, .int (x))]) hx hb dX8_ageing_183 hl (k := 11) rfl (nI_1 _) (by decide) rfl (fun ls hl => ?_)
                      refine lv_goto (tgt := 80) hx hb dX8_ageing_186 (by decide) ?_
                      have e1_5 : ((mAg g q.toInt.toNat z (k)).2.1) = (mAg g q.toInt.toNat z ((k + 1))).2.1 := by simp only [mAg, mAgG, if_pos c_1, if_pos c_2, if_neg c_3, if_pos c_4, if_neg c_5, if_pos c_8, if_neg c_9, if_neg c_10, if_pos c_11, if_pos c_12]
                      have e1_6 : ((mAg g q.toInt.toNat z (k)).2.2.1) = (mAg g q.toInt.toNat z ((k + 1))).2.2.1 := by simp only [mAg, mAgG, if_pos c_1, if_pos c_2, if_neg c_3, if_pos c_4, if_neg c_5, if_pos c_8, if_neg c_9, if_neg c_10, if_pos c_11, if_pos c_12]
                      have e1_7 : ((mAg g q.toInt.toNat z (k)).2.2.2) = (mAg g q.toInt.toNat z ((k + 1))).2.2.2 := by simp only [mAg, mAgG, if_pos c_1, if_pos c_2, if_neg c_3, if_pos c_4, if_neg c_5, if_pos c_8, if_neg c_9, if_neg c_10, if_pos c_11, if_pos c_12]
                      have e2_0 : nxs (nxs ((mAg g q.toInt.toNat z (k)).1)) = (mAg g q.toInt.toNat z (k + 1)).1 := by rfl
                      have hP : va_P (dC, dI) vwCl (mW cI a o (su f 14 ((mAg g q.toInt.toNat z (k + 1)).1)) (g) (h)) H := by rw [← e2_0]; exact hP
                      have hD : va_D A (mW cI a o (su f 14 ((mAg g q.toInt.toNat z (k + 1)).1)) (g) (h)) := by rw [← e2_0]; exact hD
                      exact ih_80 (k + 1) H locs ls (by show _ < _; omega) (by show _; omega) hP hD hS (by show lv_has ls 12 [(0, .ref (a)), (1, .int (q)), (2, .int (y)), (3, .int (z)), (4, .int (x)), (5, .int ((mAg g q.toInt.toNat z ((k + 1))).2.1)), (6, .int ((mAg g q.toInt.toNat z ((k + 1))).2.2.1)), (7, .int ((mAg g q.toInt.toNat z ((k + 1))).2.2.2)), (8, .int (nI ((k + 1) + 1)))]; rw [← e1_5, ← e1_6, ← e1_7]; exact lv_sub hl [7, 8, 9, 10, 11, 3, 2, 1, 0] rfl)
                    · skip
                      have c_12 := b2i_0 c_12
                      refine lv_iload hx hb dX8_ageing_174 (lv_at hl 11 rfl) ?_
                      refine lv_goto (tgt := 181) hx hb dX8_ageing_176 (by decide) ?_
                      refine lv_istore (lv' := [(7, .int (nI (k + 1))), (6, .int ((mAg g q.toInt.toNat z (k)).2.2.1)), (5, .int ((mAg g q.toInt.toNat z (k)).2.1)), (11, .int (nI (0))), (10, .int (dr (nxs (nxs ((mAg g q.toInt.toNat z (k)).1))) (nI 8))), (9, .int (dr (nxs ((mAg g q.toInt.toNat z (k)).1)) (nI 2))), (0, .ref (a)), (1, .int (q)), (2, .int (y)), (3, .int (z)), (4, .int (x)), (8, .int (nI (k + 1)))]) hx hb dX8_ageing_181 hl (by decide) rfl (fun ls hl => ?_)
                      refine lv_iinc (v := nI (k + 1 + 1)) (lv' := [(8, .int (nI (k + 1 + 1))), (7, .int (nI (k + 1))), (6, .int ((mAg g q.toInt.toNat z (k)).2.2.1)), (5, .int ((mAg g q.toInt.toNat z (k)).2.1)), (11, .int (nI (0))), (10, .int (dr (nxs (nxs ((mAg g q.toInt.toNat z (k)).1))) (nI 8))), (9, .int (dr (nxs ((mAg g q.toInt.toNat z (k)).1)) (nI 2))), (0, .ref (a)), (1, .int (q)), (2, .int (y)), (3, .int (z)), (4, .int (x))]) hx hb dX8_ageing_183 hl (k := 11) rfl (nI_1 _) (by decide) rfl (fun ls hl => ?_)
                      refine lv_goto (tgt := 80) hx hb dX8_ageing_186 (by decide) ?_
                      have e1_5 : ((mAg g q.toInt.toNat z (k)).2.1) = (mAg g q.toInt.toNat z ((k + 1))).2.1 := by simp only [mAg, mAgG, if_pos c_1, if_pos c_2, if_neg c_3, if_pos c_4, if_neg c_5, if_pos c_8, if_neg c_9, if_neg c_10, if_pos c_11, if_neg c_12]
                      have e1_6 : ((mAg g q.toInt.toNat z (k)).2.2.1) = (mAg g q.toInt.toNat z ((k + 1))).2.2.1 := by simp only [mAg, mAgG, if_pos c_1, if_pos c_2, if_neg c_3, if_pos c_4, if_neg c_5, if_pos c_8, if_neg c_9, if_neg c_10, if_pos c_11, if_neg c_12]
                      have e1_7 : (nI (k + 1)) = (mAg g q.toInt.toNat z ((k + 1))).2.2.2 := by simp only [mAg, mAgG, if_pos c_1, if_pos c_2, if_neg c_3, if_pos c_4, if_neg c_5, if_pos c_8, if_neg c_9, if_neg c_10, if_pos c_11, if_neg c_12]
                      have e2_0 : nxs (nxs ((mAg g q.toInt.toNat z (k)).1)) = (mAg g q.toInt.toNat z (k + 1)).1 := by rfl
                      have hP : va_P (dC, dI) vwCl (mW cI a o (su f 14 ((mAg g q.toInt.toNat z (k + 1)).1)) (g) (h)) H := by rw [← e2_0]; exact hP
                      have hD : va_D A (mW cI a o (su f 14 ((mAg g q.toInt.toNat z (k + 1)).1)) (g) (h)) := by rw [← e2_0]; exact hD
                      exact ih_80 (k + 1) H locs ls (by show _ < _; omega) (by show _; omega) hP hD hS (by show lv_has ls 12 [(0, .ref (a)), (1, .int (q)), (2, .int (y)), (3, .int (z)), (4, .int (x)), (5, .int ((mAg g q.toInt.toNat z ((k + 1))).2.1)), (6, .int ((mAg g q.toInt.toNat z ((k + 1))).2.2.1)), (7, .int ((mAg g q.toInt.toNat z ((k + 1))).2.2.2)), (8, .int (nI ((k + 1) + 1)))]; rw [← e1_5, ← e1_6, ← e1_7]; exact lv_sub hl [7, 8, 9, 10, 11, 3, 2, 1, 0] rfl)
                · skip
                  refine lv_iload hx hb dX8_ageing_142 (lv_at hl 9 rfl) ?_
                  refine lv_iload hx hb dX8_ageing_144 (lv_at hl 1 rfl) ?_
                  refine lv_iconst (v := (-1)) hx hb dX8_ageing_146 (by decide +kernel) ?_
                  refine lv_ixor hx hb dX8_ageing_147 ?_
                  refine lv_iand hx hb dX8_ageing_148 ?_
                  refine lv_goto (tgt := 154) hx hb dX8_ageing_149 (by decide) ?_
                  refine lv_istore (lv' := [(6, .int (((mAg g q.toInt.toNat z (k)).2.2.1) &&& ((nI (0)) ^^^ ((-1))))), (5, .int ((mAg g q.toInt.toNat z (k)).2.1)), (11, .int (nI (0))), (10, .int (dr (nxs (nxs ((mAg g q.toInt.toNat z (k)).1))) (nI 8))), (9, .int (dr (nxs ((mAg g q.toInt.toNat z (k)).1)) (nI 2))), (0, .ref (a)), (1, .int (q)), (2, .int (y)), (3, .int (z)), (4, .int (x)), (7, .int ((mAg g q.toInt.toNat z (k)).2.2.2)), (8, .int (nI (k + 1)))]) hx hb dX8_ageing_154 hl (by decide) rfl (fun ls hl => ?_)
                  refine lv_iload hx hb dX8_ageing_156 (lv_at hl 10 rfl) ?_
                  refine lv_iconst (v := (-1)) hx hb dX8_ageing_158 (by decide +kernel) ?_
                  refine lv_icmp_ne (tgt := 179) hx hb dX8_ageing_159 (by decide) (fun c_13 => ?_) (fun c_13 => ?_)
                  · skip
                    refine lv_iload hx hb dX8_ageing_179 (lv_at hl 10 rfl) ?_
                    refine lv_istore (lv' := [(7, .int ((mAg g q.toInt.toNat z (k)).2.2.2)), (6, .int (((mAg g q.toInt.toNat z (k)).2.2.1) &&& ((nI (0)) ^^^ ((-1))))), (5, .int ((mAg g q.toInt.toNat z (k)).2.1)), (11, .int (nI (0))), (10, .int (dr (nxs (nxs ((mAg g q.toInt.toNat z (k)).1))) (nI 8))), (9, .int (dr (nxs ((mAg g q.toInt.toNat z (k)).1)) (nI 2))), (0, .ref (a)), (1, .int (q)), (2, .int (y)), (3, .int (z)), (4, .int (x)), (8, .int (nI (k + 1)))]) hx hb dX8_ageing_181 hl (by decide) rfl (fun ls hl => ?_)
                    refine lv_iinc (v := nI (k + 1 + 1)) (lv' := [(8, .int (nI (k + 1 + 1))), (7, .int ((mAg g q.toInt.toNat z (k)).2.2.2)), (6, .int (((mAg g q.toInt.toNat z (k)).2.2.1) &&& ((nI (0)) ^^^ ((-1))))), (5, .int ((mAg g q.toInt.toNat z (k)).2.1)), (11, .int (nI (0))), (10, .int (dr (nxs (nxs ((mAg g q.toInt.toNat z (k)).1))) (nI 8))), (9, .int (dr (nxs ((mAg g q.toInt.toNat z (k)).1)) (nI 2))), (0, .ref (a)), (1, .int (q)), (2, .int (y)), (3, .int (z)), (4, .int (x))]) hx hb dX8_ageing_183 hl (k := 11) rfl (nI_1 _) (by decide) rfl (fun ls hl => ?_)
                    refine lv_goto (tgt := 80) hx hb dX8_ageing_186 (by decide) ?_
                    have e1_5 : ((mAg g q.toInt.toNat z (k)).2.1) = (mAg g q.toInt.toNat z ((k + 1))).2.1 := by simp only [mAg, mAgG, if_pos c_1, if_pos c_2, if_neg c_3, if_pos c_4, if_neg c_5, if_pos c_8, if_neg c_9, if_pos c_10, if_neg c_13]
                    have e1_6 : (((mAg g q.toInt.toNat z (k)).2.2.1) &&& ((nI (0)) ^^^ ((-1)))) = (mAg g q.toInt.toNat z ((k + 1))).2.2.1 := by simp only [mAg, mAgG, if_pos c_1, if_pos c_2, if_neg c_3, if_pos c_4, if_neg c_5, if_pos c_8, if_neg c_9, if_pos c_10, if_neg c_13]
                    have e1_7 : ((mAg g q.toInt.toNat z (k)).2.2.2) = (mAg g q.toInt.toNat z ((k + 1))).2.2.2 := by simp only [mAg, mAgG, if_pos c_1, if_pos c_2, if_neg c_3, if_pos c_4, if_neg c_5, if_pos c_8, if_neg c_9, if_pos c_10, if_neg c_13]
                    have e2_0 : nxs (nxs ((mAg g q.toInt.toNat z (k)).1)) = (mAg g q.toInt.toNat z (k + 1)).1 := by rfl
                    have hP : va_P (dC, dI) vwCl (mW cI a o (su f 14 ((mAg g q.toInt.toNat z (k + 1)).1)) (g) (h)) H := by rw [← e2_0]; exact hP
                    have hD : va_D A (mW cI a o (su f 14 ((mAg g q.toInt.toNat z (k + 1)).1)) (g) (h)) := by rw [← e2_0]; exact hD
                    exact ih_80 (k + 1) H locs ls (by show _ < _; omega) (by show _; omega) hP hD hS (by show lv_has ls 12 [(0, .ref (a)), (1, .int (q)), (2, .int (y)), (3, .int (z)), (4, .int (x)), (5, .int ((mAg g q.toInt.toNat z ((k + 1))).2.1)), (6, .int ((mAg g q.toInt.toNat z ((k + 1))).2.2.1)), (7, .int ((mAg g q.toInt.toNat z ((k + 1))).2.2.2)), (8, .int (nI ((k + 1) + 1)))]; rw [← e1_5, ← e1_6, ← e1_7]; exact lv_sub hl [7, 8, 9, 10, 11, 3, 2, 1, 0] rfl)
                  · skip
                    refine lv_aload_n hx hb dX8_ageing_162 rfl (lv_at hl 5 rfl) ?_
                    refine lv_iload_n hx hb dX8_ageing_163 rfl (lv_at hl 6 rfl) ?_
                    refine tv (ix_int (by omega)) ?_
                    refine lv_iload hx hb dX8_ageing_164 (lv_at hl 1 rfl) ?_
                    refine lv_iload hx hb dX8_ageing_166 (lv_at hl 0 rfl) ?_
                    refine vp_callSi (va_Run.run (va_runV (As := [.int (nI (q.toInt.toNat)), .int ((mAg g q.toInt.toNat z (k)).2.1), .int (((mAg g q.toInt.toNat z (k)).2.2.1) &&& ((nI (0)) ^^^ ((-1))))]) (rest := []) ⟨hx, hb, hml, hown, hts⟩ (c8_readsAlike l dC dI cI a o (su f 14 (nxs (nxs ((mAg g q.toInt.toNat z (k)).1)))) (g) (h)  ((mAg g q.toInt.toNat z (k)).2.1) (((mAg g q.toInt.toNat z (k)).2.2.1) &&& ((nI (0)) ^^^ ((-1)))) (q.toInt.toNat) (by omega)) (cwV 3 hts gX8_ageing_X8_readsAlike rfl rfl rfl (by decide +kernel) ⟨Nat.le_of_ble_eq_true rfl, Nat.le_of_ble_eq_true rfl⟩) ⟨fun a U g mk q => ⟨q.1, q.2.1, va_K.moved (u := U) (U := U.calling g mk a) (Vm.Alike.refl U.vm) q.2.2⟩, va_recv hK hP (ci := 8) (q0 := 0) rfl rfl, fun U hU hW => ⟨rfl, by rw [hU]; exact hP, va_K.moved hW.alike hK⟩⟩ rfl rfl hl.1 rfl (lv_room (Nat.le_of_ble_eq_true rfl)) dX8_ageing_168 ⟨Nat.le_of_ble_eq_true rfl, Nat.le_of_ble_eq_true rfl⟩)) (fun r hrc => ?_)
                    have hrc : r = b2i (mLike (g) (q.toInt.toNat) ((mAg g q.toInt.toNat z (k)).2.1) (((mAg g q.toInt.toNat z (k)).2.2.1) &&& ((nI (0)) ^^^ ((-1)))) = true) := hrc
                    subst hrc
                    refine lv_if_ne (tgt := 179) hx hb dX8_ageing_171 (by decide) (fun c_14 => ?_) (fun c_14 => ?_)
                    · skip
                      have c_14 := b2i_1 c_14
                      refine lv_iload hx hb dX8_ageing_179 (lv_at hl 10 rfl) ?_
                      refine lv_istore (lv' := [(7, .int ((mAg g q.toInt.toNat z (k)).2.2.2)), (6, .int (((mAg g q.toInt.toNat z (k)).2.2.1) &&& ((nI (0)) ^^^ ((-1))))), (5, .int ((mAg g q.toInt.toNat z (k)).2.1)), (11, .int (nI (0))), (10, .int (dr (nxs (nxs ((mAg g q.toInt.toNat z (k)).1))) (nI 8))), (9, .int (dr (nxs ((mAg g q.toInt.toNat z (k)).1)) (nI 2))), (0, .ref (a)), (1, .int (q)), (2, .int (y)), (3, .int (z)), (4, .int (x)), (8, .int (nI (k + 1)))]) hx hb dX8_ageing_181 hl (by decide) rfl (fun ls hl => ?_)
                      refine lv_iinc (v := nI (k + 1 + 1)) (lv' := [(8, .int (nI (k + 1 + 1))), (7, .int ((mAg g q.toInt.toNat z (k)).2.2.2)), (6, .int (((mAg g q.toInt.toNat z (k)).2.2.1) &&& ((nI (0)) ^^^ ((-1))))), (5, .int ((mAg g q.toInt.toNat z (k)).2.1)), (11, .int (nI (0))), (10, .int (dr (nxs (nxs ((mAg g q.toInt.toNat z (k)).1))) (nI 8))), (9, .int (dr (nxs ((mAg g q.toInt.toNat z (k)).1)) (nI 2))), (0, .ref (a)), (1, .int (q)), (2, .int (y)), (3, .int (z)), (4, .int (x))]) hx hb dX8_ageing_183 hl (k := 11) rfl (nI_1 _) (by decide) rfl (fun ls hl => ?_)
                      refine lv_goto (tgt := 80) hx hb dX8_ageing_186 (by decide) ?_
                      have e1_5 : ((mAg g q.toInt.toNat z (k)).2.1) = (mAg g q.toInt.toNat z ((k + 1))).2.1 := by simp only [mAg, mAgG, if_pos c_1, if_pos c_2, if_neg c_3, if_pos c_4, if_neg c_5, if_pos c_8, if_neg c_9, if_pos c_10, if_pos c_13, if_pos c_14]
                      have e1_6 : (((mAg g q.toInt.toNat z (k)).2.2.1) &&& ((nI (0)) ^^^ ((-1)))) = (mAg g q.toInt.toNat z ((k + 1))).2.2.1 := by simp only [mAg, mAgG, if_pos c_1, if_pos c_2, if_neg c_3, if_pos c_4, if_neg c_5, if_pos c_8, if_neg c_9, if_pos c_10, if_pos c_13, if_pos c_14]
                      have e1_7 : ((mAg g q.toInt.toNat z (k)).2.2.2) = (mAg g q.toInt.toNat z ((k + 1))).2.2.2 := by simp only [mAg, mAgG, if_pos c_1, if_pos c_2, if_neg c_3, if_pos c_4, if_neg c_5, if_pos c_8, if_neg c_9, if_pos c_10, if_pos c_13, if_pos c_14]
                      have e2_0 : nxs (nxs ((mAg g q.toInt.toNat z (k)).1)) = (mAg g q.toInt.toNat z (k + 1)).1 := by rfl
                      have hP : va_P (dC, dI) vwCl (mW cI a o (su f 14 ((mAg g q.toInt.toNat z (k + 1)).1)) (g) (h)) H := by rw [← e2_0]; exact hP
                      have hD : va_D A (mW cI a o (su f 14 ((mAg g q.toInt.toNat z (k + 1)).1)) (g) (h)) := by rw [← e2_0]; exact hD
                      exact ih_80 (k + 1) H locs ls (by show _ < _; omega) (by show _; omega) hP hD hS (by show lv_has ls 12 [(0, .ref (a)), (1, .int (q)), (2, .int (y)), (3, .int (z)), (4, .int (x)), (5, .int ((mAg g q.toInt.toNat z ((k + 1))).2.1)), (6, .int ((mAg g q.toInt.toNat z ((k + 1))).2.2.1)), (7, .int ((mAg g q.toInt.toNat z ((k + 1))).2.2.2)), (8, .int (nI ((k + 1) + 1)))]; rw [← e1_5, ← e1_6, ← e1_7]; exact lv_sub hl [7, 8, 9, 10, 11, 3, 2, 1, 0] rfl)
                    · skip
                      have c_14 := b2i_0 c_14
                      refine lv_iload hx hb dX8_ageing_174 (lv_at hl 11 rfl) ?_
                      refine lv_goto (tgt := 181) hx hb dX8_ageing_176 (by decide) ?_
                      refine lv_istore (lv' := [(7, .int (nI (k + 1))), (6, .int (((mAg g q.toInt.toNat z (k)).2.2.1) &&& ((nI (0)) ^^^ ((-1))))), (5, .int ((mAg g q.toInt.toNat z (k)).2.1)), (11, .int (nI (0))), (10, .int (dr (nxs (nxs ((mAg g q.toInt.toNat z (k)).1))) (nI 8))), (9, .int (dr (nxs ((mAg g q.toInt.toNat z (k)).1)) (nI 2))), (0, .ref (a)), (1, .int (q)), (2, .int (y)), (3, .int (z)), (4, .int (x)), (8, .int (nI (k + 1)))]) hx hb dX8_ageing_181 hl (by decide) rfl (fun ls hl => ?_)
                      refine lv_iinc (v := nI (k + 1 + 1)) (lv' := [(8, .int (nI (k + 1 + 1))), (7, .int (nI (k + 1))), (6, .int (((mAg g q.toInt.toNat z (k)).2.2.1) &&& ((nI (0)) ^^^ ((-1))))), (5, .int ((mAg g q.toInt.toNat z (k)).2.1)), (11, .int (nI (0))), (10, .int (dr (nxs (nxs ((mAg g q.toInt.toNat z (k)).1))) (nI 8))), (9, .int (dr (nxs ((mAg g q.toInt.toNat z (k)).1)) (nI 2))), (0, .ref (a)), (1, .int (q)), (2, .int (y)), (3, .int (z)), (4, .int (x))]) hx hb dX8_ageing_183 hl (k := 11) rfl (nI_1 _) (by decide) rfl (fun ls hl => ?_)
                      refine lv_goto (tgt := 80) hx hb dX8_ageing_186 (by decide) ?_
                      have e1_5 : ((mAg g q.toInt.toNat z (k)).2.1) = (mAg g q.toInt.toNat z ((k + 1))).2.1 := by simp only [mAg, mAgG, if_pos c_1, if_pos c_2, if_neg c_3, if_pos c_4, if_neg c_5, if_pos c_8, if_neg c_9, if_pos c_10, if_pos c_13, if_neg c_14]
                      have e1_6 : (((mAg g q.toInt.toNat z (k)).2.2.1) &&& ((nI (0)) ^^^ ((-1)))) = (mAg g q.toInt.toNat z ((k + 1))).2.2.1 := by simp only [mAg, mAgG, if_pos c_1, if_pos c_2, if_neg c_3, if_pos c_4, if_neg c_5, if_pos c_8, if_neg c_9, if_pos c_10, if_pos c_13, if_neg c_14]
                      have e1_7 : (nI (k + 1)) = (mAg g q.toInt.toNat z ((k + 1))).2.2.2 := by simp only [mAg, mAgG, if_pos c_1, if_pos c_2, if_neg c_3, if_pos c_4, if_neg c_5, if_pos c_8, if_neg c_9, if_pos c_10, if_pos c_13, if_neg c_14]
                      have e2_0 : nxs (nxs ((mAg g q.toInt.toNat z (k)).1)) = (mAg g q.toInt.toNat z (k + 1)).1 := by rfl
                      have hP : va_P (dC, dI) vwCl (mW cI a o (su f 14 ((mAg g q.toInt.toNat z (k + 1)).1)) (g) (h)) H := by rw [← e2_0]; exact hP
                      have hD : va_D A (mW cI a o (su f 14 ((mAg g q.toInt.toNat z (k + 1)).1)) (g) (h)) := by rw [← e2_0]; exact hD
                      exact ih_80 (k + 1) H locs ls (by show _ < _; omega) (by show _; omega) hP hD hS (by show lv_has ls 12 [(0, .ref (a)), (1, .int (q)), (2, .int (y)), (3, .int (z)), (4, .int (x)), (5, .int ((mAg g q.toInt.toNat z ((k + 1))).2.1)), (6, .int ((mAg g q.toInt.toNat z ((k + 1))).2.2.1)), (7, .int ((mAg g q.toInt.toNat z ((k + 1))).2.2.2)), (8, .int (nI ((k + 1) + 1)))]; rw [← e1_5, ← e1_6, ← e1_7]; exact lv_sub hl [7, 8, 9, 10, 11, 3, 2, 1, 0] rfl)
              · skip
                have c_9 : (dr (nxs ((mAg g q.toInt.toNat z (k)).1)) (nI 2)) = nI 0 := c_9
                refine lv_iload hx hb dX8_ageing_122 (lv_at hl 8 rfl) ?_
                refine lv_iload hx hb dX8_ageing_124 (lv_at hl 0 rfl) ?_
                refine lv_iconst (v := (-1)) hx hb dX8_ageing_126 (by decide +kernel) ?_
                refine lv_ixor hx hb dX8_ageing_127 ?_
                refine lv_iand hx hb dX8_ageing_128 ?_
                refine lv_goto (tgt := 134) hx hb dX8_ageing_129 (by decide) ?_
                refine lv_istore (lv' := [(5, .int (((mAg g q.toInt.toNat z (k)).2.1) &&& ((nI (0)) ^^^ ((-1))))), (11, .int (nI (0))), (10, .int (dr (nxs (nxs ((mAg g q.toInt.toNat z (k)).1))) (nI 8))), (9, .int (dr (nxs ((mAg g q.toInt.toNat z (k)).1)) (nI 2))), (0, .ref (a)), (1, .int (q)), (2, .int (y)), (3, .int (z)), (4, .int (x)), (6, .int ((mAg g q.toInt.toNat z (k)).2.2.1)), (7, .int ((mAg g q.toInt.toNat z (k)).2.2.2)), (8, .int (nI (k + 1)))]) hx hb dX8_ageing_134 hl (by decide) rfl (fun ls hl => ?_)
                refine lv_iload hx hb dX8_ageing_136 (lv_at hl 3 rfl) ?_
                refine lv_iconst (v := nI (1)) hx hb dX8_ageing_138 (by decide +kernel) ?_
                refine lv_icmp_ne (tgt := 152) hx hb dX8_ageing_139 (by decide) (fun c_15 => ?_) (fun c_15 => ?_)
                · skip
                  refine lv_iload hx hb dX8_ageing_152 (lv_at hl 9 rfl) ?_
                  refine lv_istore (lv' := [(6, .int ((mAg g q.toInt.toNat z (k)).2.2.1)), (5, .int (((mAg g q.toInt.toNat z (k)).2.1) &&& ((nI (0)) ^^^ ((-1))))), (11, .int (nI (0))), (10, .int (dr (nxs (nxs ((mAg g q.toInt.toNat z (k)).1))) (nI 8))), (9, .int (dr (nxs ((mAg g q.toInt.toNat z (k)).1)) (nI 2))), (0, .ref (a)), (1, .int (q)), (2, .int (y)), (3, .int (z)), (4, .int (x)), (7, .int ((mAg g q.toInt.toNat z (k)).2.2.2)), (8, .int (nI (k + 1)))]) hx hb dX8_ageing_154 hl (by decide) rfl (fun ls hl => ?_)
                  refine lv_iload hx hb dX8_ageing_156 (lv_at hl 10 rfl) ?_
                  refine lv_iconst (v := (-1)) hx hb dX8_ageing_158 (by decide +kernel) ?_
                  refine lv_icmp_ne (tgt := 179) hx hb dX8_ageing_159 (by decide) (fun c_16 => ?_) (fun c_16 => ?_)
                  · skip
                    refine lv_iload hx hb dX8_ageing_179 (lv_at hl 10 rfl) ?_
                    refine lv_istore (lv' := [(7, .int ((mAg g q.toInt.toNat z (k)).2.2.2)), (6, .int ((mAg g q.toInt.toNat z (k)).2.2.1)), (5, .int (((mAg g q.toInt.toNat z (k)).2.1) &&& ((nI (0)) ^^^ ((-1))))), (11, .int (nI (0))), (10, .int (dr (nxs (nxs ((mAg g q.toInt.toNat z (k)).1))) (nI 8))), (9, .int (dr (nxs ((mAg g q.toInt.toNat z (k)).1)) (nI 2))), (0, .ref (a)), (1, .int (q)), (2, .int (y)), (3, .int (z)), (4, .int (x)), (8, .int (nI (k + 1)))]) hx hb dX8_ageing_181 hl (by decide) rfl (fun ls hl => ?_)
                    refine lv_iinc (v := nI (k + 1 + 1)) (lv' := [(8, .int (nI (k + 1 + 1))), (7, .int ((mAg g q.toInt.toNat z (k)).2.2.2)), (6, .int ((mAg g q.toInt.toNat z (k)).2.2.1)), (5, .int (((mAg g q.toInt.toNat z (k)).2.1) &&& ((nI (0)) ^^^ ((-1))))), (11, .int (nI (0))), (10, .int (dr (nxs (nxs ((mAg g q.toInt.toNat z (k)).1))) (nI 8))), (9, .int (dr (nxs ((mAg g q.toInt.toNat z (k)).1)) (nI 2))), (0, .ref (a)), (1, .int (q)), (2, .int (y)), (3, .int (z)), (4, .int (x))]) hx hb dX8_ageing_183 hl (k := 11) rfl (nI_1 _) (by decide) rfl (fun ls hl => ?_)
                    refine lv_goto (tgt := 80) hx hb dX8_ageing_186 (by decide) ?_
                    have e1_5 : (((mAg g q.toInt.toNat z (k)).2.1) &&& ((nI (0)) ^^^ ((-1)))) = (mAg g q.toInt.toNat z ((k + 1))).2.1 := by simp only [mAg, mAgG, if_pos c_1, if_pos c_2, if_neg c_3, if_pos c_4, if_neg c_5, if_pos c_8, if_pos c_9, if_neg c_15, if_neg c_16]
                    have e1_6 : ((mAg g q.toInt.toNat z (k)).2.2.1) = (mAg g q.toInt.toNat z ((k + 1))).2.2.1 := by simp only [mAg, mAgG, if_pos c_1, if_pos c_2, if_neg c_3, if_pos c_4, if_neg c_5, if_pos c_8, if_pos c_9, if_neg c_15, if_neg c_16]
                    have e1_7 : ((mAg g q.toInt.toNat z (k)).2.2.2) = (mAg g q.toInt.toNat z ((k + 1))).2.2.2 := by simp only [mAg, mAgG, if_pos c_1, if_pos c_2, if_neg c_3, if_pos c_4, if_neg c_5, if_pos c_8, if_pos c_9, if_neg c_15, if_neg c_16]
                    have e2_0 : nxs (nxs ((mAg g q.toInt.toNat z (k)).1)) = (mAg g q.toInt.toNat z (k + 1)).1 := by rfl
                    have hP : va_P (dC, dI) vwCl (mW cI a o (su f 14 ((mAg g q.toInt.toNat z (k + 1)).1)) (g) (h)) H := by rw [← e2_0]; exact hP
                    have hD : va_D A (mW cI a o (su f 14 ((mAg g q.toInt.toNat z (k + 1)).1)) (g) (h)) := by rw [← e2_0]; exact hD
                    exact ih_80 (k + 1) H locs ls (by show _ < _; omega) (by show _; omega) hP hD hS (by show lv_has ls 12 [(0, .ref (a)), (1, .int (q)), (2, .int (y)), (3, .int (z)), (4, .int (x)), (5, .int ((mAg g q.toInt.toNat z ((k + 1))).2.1)), (6, .int ((mAg g q.toInt.toNat z ((k + 1))).2.2.1)), (7, .int ((mAg g q.toInt.toNat z ((k + 1))).2.2.2)), (8, .int (nI ((k + 1) + 1)))]; rw [← e1_5, ← e1_6, ← e1_7]; exact lv_sub hl [7, 8, 9, 10, 11, 3, 2, 1, 0] rfl)
                  · skip
                    refine lv_aload_n hx hb dX8_ageing_162 rfl (lv_at hl 5 rfl) ?_
                    refine lv_iload_n hx hb dX8_ageing_163 rfl (lv_at hl 6 rfl) ?_
                    refine tv (ix_int (by omega)) ?_
                    refine lv_iload hx hb dX8_ageing_164 (lv_at hl 1 rfl) ?_
                    refine lv_iload hx hb dX8_ageing_166 (lv_at hl 0 rfl) ?_
                    refine vp_callSi (va_Run.run (va_runV (As := [.int (nI (q.toInt.toNat)), .int (((mAg g q.toInt.toNat z (k)).2.1) &&& ((nI (0)) ^^^ ((-1)))), .int ((mAg g q.toInt.toNat z (k)).2.2.1)]) (rest := []) ⟨hx, hb, hml, hown, hts⟩ (c8_readsAlike l dC dI cI a o (su f 14 (nxs (nxs ((mAg g q.toInt.toNat z (k)).1)))) (g) (h)  (((mAg g q.toInt.toNat z (k)).2.1) &&& ((nI (0)) ^^^ ((-1)))) ((mAg g q.toInt.toNat z (k)).2.2.1) (q.toInt.toNat) (by omega)) (cwV 3 hts gX8_ageing_X8_readsAlike rfl rfl rfl (by decide +kernel) ⟨Nat.le_of_ble_eq_true rfl, Nat.le_of_ble_eq_true rfl⟩) ⟨fun a U g mk q => ⟨q.1, q.2.1, va_K.moved (u := U) (U := U.calling g mk a) (Vm.Alike.refl U.vm) q.2.2⟩, va_recv hK hP (ci := 8) (q0 := 0) rfl rfl, fun U hU hW => ⟨rfl, by rw [hU]; exact hP, va_K.moved hW.alike hK⟩⟩ rfl rfl hl.1 rfl (lv_room (Nat.le_of_ble_eq_true rfl)) dX8_ageing_168 ⟨Nat.le_of_ble_eq_true rfl, Nat.le_of_ble_eq_true rfl⟩)) (fun r hrc => ?_)
                    have hrc : r = b2i (mLike (g) (q.toInt.toNat) (((mAg g q.toInt.toNat z (k)).2.1) &&& ((nI (0)) ^^^ ((-1)))) ((mAg g q.toInt.toNat z (k)).2.2.1) = true) := hrc
                    subst hrc
                    refine lv_if_ne (tgt := 179) hx hb dX8_ageing_171 (by decide) (fun c_17 => ?_) (fun c_17 => ?_)
                    · skip
                      have c_17 := b2i_1 c_17
                      refine lv_iload hx hb dX8_ageing_179 (lv_at hl 10 rfl) ?_
                      refine lv_istore (lv' := [(7, .int ((mAg g q.toInt.toNat z (k)).2.2.2)), (6, .int ((mAg g q.toInt.toNat z (k)).2.2.1)), (5, .int (((mAg g q.toInt.toNat z (k)).2.1) &&& ((nI (0)) ^^^ ((-1))))), (11, .int (nI (0))), (10, .int (dr (nxs (nxs ((mAg g q.toInt.toNat z (k)).1))) (nI 8))), (9, .int (dr (nxs ((mAg g q.toInt.toNat z (k)).1)) (nI 2))), (0, .ref (a)), (1, .int (q)), (2, .int (y)), (3, .int (z)), (4, .int (x)), (8, .int (nI (k + 1)))]) hx hb dX8_ageing_181 hl (by decide) rfl (fun ls hl => ?_)
                      refine lv_iinc (v := nI (k + 1 + 1)) (lv' := [(8, .int (nI (k + 1 + 1))), (7, .int ((mAg g q.toInt.toNat z (k)).2.2.2)), (6, .int ((mAg g q.toInt.toNat z (k)).2.2.1)), (5, .int (((mAg g q.toInt.toNat z (k)).2.1) &&& ((nI (0)) ^^^ ((-1))))), (11, .int (nI (0))), (10, .int (dr (nxs (nxs ((mAg g q.toInt.toNat z (k)).1))) (nI 8))), (9, .int (dr (nxs ((mAg g q.toInt.toNat z (k)).1)) (nI 2))), (0, .ref (a)), (1, .int (q)), (2, .int (y)), (3, .int (z)), (4, .int (x))]) hx hb dX8_ageing_183 hl (k := 11) rfl (nI_1 _) (by decide) rfl (fun ls hl => ?_)
                      refine lv_goto (tgt := 80) hx hb dX8_ageing_186 (by decide) ?_
                      have e1_5 : (((mAg g q.toInt.toNat z (k)).2.1) &&& ((nI (0)) ^^^ ((-1)))) = (mAg g q.toInt.toNat z ((k + 1))).2.1 := by simp only [mAg, mAgG, if_pos c_1, if_pos c_2, if_neg c_3, if_pos c_4, if_neg c_5, if_pos c_8, if_pos c_9, if_neg c_15, if_pos c_16, if_pos c_17]
                      have e1_6 : ((mAg g q.toInt.toNat z (k)).2.2.1) = (mAg g q.toInt.toNat z ((k + 1))).2.2.1 := by simp only [mAg, mAgG, if_pos c_1, if_pos c_2, if_neg c_3, if_pos c_4, if_neg c_5, if_pos c_8, if_pos c_9, if_neg c_15, if_pos c_16, if_pos c_17]
                      have e1_7 : ((mAg g q.toInt.toNat z (k)).2.2.2) = (mAg g q.toInt.toNat z ((k + 1))).2.2.2 := by simp only [mAg, mAgG, if_pos c_1, if_pos c_2, if_neg c_3, if_pos c_4, if_neg c_5, if_pos c_8, if_pos c_9, if_neg c_15, if_pos c_16, if_pos c_17]
                      have e2_0 : nxs (nxs ((mAg g q.toInt.toNat z (k)).1)) = (mAg g q.toInt.toNat z (k + 1)).1 := by rfl
                      have hP : va_P (dC, dI) vwCl (mW cI a o (su f 14 ((mAg g q.toInt.toNat z (k + 1)).1)) (g) (h)) H := by rw [← e2_0]; exact hP
                      have hD : va_D A (mW cI a o (su f 14 ((mAg g q.toInt.toNat z (k + 1)).1)) (g) (h)) := by rw [← e2_0]; exact hD
                      exact ih_80 (k + 1) H locs ls (by show _ < _; omega) (by show _; omega) hP hD hS (by show lv_has ls 12 [(0, .ref (a)), (1, .int (q)), (2, .int (y)), (3, .int (z)), (4, .int (x)), (5, .int ((mAg g q.toInt.toNat z ((k + 1))).2.1)), (6, .int ((mAg g q.toInt.toNat z ((k + 1))).2.2.1)), (7, .int ((mAg g q.toInt.toNat z ((k + 1))).2.2.2)), (8, .int (nI ((k + 1) + 1)))]; rw [← e1_5, ← e1_6, ← e1_7]; exact lv_sub hl [7, 8, 9, 10, 11, 3, 2, 1, 0] rfl)
                    · skip
                      have c_17 := b2i_0 c_17
                      refine lv_iload hx hb dX8_ageing_174 (lv_at hl 11 rfl) ?_
                      refine lv_goto (tgt := 181) hx hb dX8_ageing_176 (by decide) ?_
                      refine lv_istore (lv' := [(7, .int (nI (k + 1))), (6, .int ((mAg g q.toInt.toNat z (k)).2.2.1)), (5, .int (((mAg g q.toInt.toNat z (k)).2.1) &&& ((nI (0)) ^^^ ((-1))))), (11, .int (nI (0))), (10, .int (dr (nxs (nxs ((mAg g q.toInt.toNat z (k)).1))) (nI 8))), (9, .int (dr (nxs ((mAg g q.toInt.toNat z (k)).1)) (nI 2))), (0, .ref (a)), (1, .int (q)), (2, .int (y)), (3, .int (z)), (4, .int (x)), (8, .int (nI (k + 1)))]) hx hb dX8_ageing_181 hl (by decide) rfl (fun ls hl => ?_)
                      refine lv_iinc (v := nI (k + 1 + 1)) (lv' := [(8, .int (nI (k + 1 + 1))), (7, .int (nI (k + 1))), (6, .int ((mAg g q.toInt.toNat z (k)).2.2.1)), (5, .int (((mAg g q.toInt.toNat z (k)).2.1) &&& ((nI (0)) ^^^ ((-1))))), (11, .int (nI (0))), (10, .int (dr (nxs (nxs ((mAg g q.toInt.toNat z (k)).1))) (nI 8))), (9, .int (dr (nxs ((mAg g q.toInt.toNat z (k)).1)) (nI 2))), (0, .ref (a)), (1, .int (q)), (2, .int (y)), (3, .int (z)), (4, .int (x))]) hx hb dX8_ageing_183 hl (k := 11) rfl (nI_1 _) (by decide) rfl (fun ls hl => ?_)
                      refine lv_goto (tgt := 80) hx hb dX8_ageing_186 (by decide) ?_
                      have e1_5 : (((mAg g q.toInt.toNat z (k)).2.1) &&& ((nI (0)) ^^^ ((-1)))) = (mAg g q.toInt.toNat z ((k + 1))).2.1 := by simp only [mAg, mAgG, if_pos c_1, if_pos c_2, if_neg c_3, if_pos c_4, if_neg c_5, if_pos c_8, if_pos c_9, if_neg c_15, if_pos c_16, if_neg c_17]
                      have e1_6 : ((mAg g q.toInt.toNat z (k)).2.2.1) = (mAg g q.toInt.toNat z ((k + 1))).2.2.1 := by simp only [mAg, mAgG, if_pos c_1, if_pos c_2, if_neg c_3, if_pos c_4, if_neg c_5, if_pos c_8, if_pos c_9, if_neg c_15, if_pos c_16, if_neg c_17]
                      have e1_7 : (nI (k + 1)) = (mAg g q.toInt.toNat z ((k + 1))).2.2.2 := by simp only [mAg, mAgG, if_pos c_1, if_pos c_2, if_neg c_3, if_pos c_4, if_neg c_5, if_pos c_8, if_pos c_9, if_neg c_15, if_pos c_16, if_neg c_17]
                      have e2_0 : nxs (nxs ((mAg g q.toInt.toNat z (k)).1)) = (mAg g q.toInt.toNat z (k + 1)).1 := by rfl
                      have hP : va_P (dC, dI) vwCl (mW cI a o (su f 14 ((mAg g q.toInt.toNat z (k + 1)).1)) (g) (h)) H := by rw [← e2_0]; exact hP
                      have hD : va_D A (mW cI a o (su f 14 ((mAg g q.toInt.toNat z (k + 1)).1)) (g) (h)) := by rw [← e2_0]; exact hD
                      exact ih_80 (k + 1) H locs ls (by show _ < _; omega) (by show _; omega) hP hD hS (by show lv_has ls 12 [(0, .ref (a)), (1, .int (q)), (2, .int (y)), (3, .int (z)), (4, .int (x)), (5, .int ((mAg g q.toInt.toNat z ((k + 1))).2.1)), (6, .int ((mAg g q.toInt.toNat z ((k + 1))).2.2.1)), (7, .int ((mAg g q.toInt.toNat z ((k + 1))).2.2.2)), (8, .int (nI ((k + 1) + 1)))]; rw [← e1_5, ← e1_6, ← e1_7]; exact lv_sub hl [7, 8, 9, 10, 11, 3, 2, 1, 0] rfl)
                · skip
                  refine lv_iload hx hb dX8_ageing_142 (lv_at hl 9 rfl) ?_
                  refine lv_iload hx hb dX8_ageing_144 (lv_at hl 1 rfl) ?_
                  refine lv_iconst (v := (-1)) hx hb dX8_ageing_146 (by decide +kernel) ?_
                  refine lv_ixor hx hb dX8_ageing_147 ?_
                  refine lv_iand hx hb dX8_ageing_148 ?_
                  refine lv_goto (tgt := 154) hx hb dX8_ageing_149 (by decide) ?_
                  refine lv_istore (lv' := [(6, .int (((mAg g q.toInt.toNat z (k)).2.2.1) &&& ((nI (0)) ^^^ ((-1))))), (5, .int (((mAg g q.toInt.toNat z (k)).2.1) &&& ((nI (0)) ^^^ ((-1))))), (11, .int (nI (0))), (10, .int (dr (nxs (nxs ((mAg g q.toInt.toNat z (k)).1))) (nI 8))), (9, .int (dr (nxs ((mAg g q.toInt.toNat z (k)).1)) (nI 2))), (0, .ref (a)), (1, .int (q)), (2, .int (y)), (3, .int (z)), (4, .int (x)), (7, .int ((mAg g q.toInt.toNat z (k)).2.2.2)), (8, .int (nI (k + 1)))]) hx hb dX8_ageing_154 hl (by decide) rfl (fun ls hl => ?_)
                  refine lv_iload hx hb dX8_ageing_156 (lv_at hl 10 rfl) ?_
                  refine lv_iconst (v := (-1)) hx hb dX8_ageing_158 (by decide +kernel) ?_
                  refine lv_icmp_ne (tgt := 179) hx hb dX8_ageing_159 (by decide) (fun c_18 => ?_) (fun c_18 => ?_)
                  · skip
                    refine lv_iload hx hb dX8_ageing_179 (lv_at hl 10 rfl) ?_
                    refine lv_istore (lv' := [(7, .int ((mAg g q.toInt.toNat z (k)).2.2.2)), (6, .int (((mAg g q.toInt.toNat z (k)).2.2.1) &&& ((nI (0)) ^^^ ((-1))))), (5, .int (((mAg g q.toInt.toNat z (k)).2.1) &&& ((nI (0)) ^^^ ((-1))))), (11, .int (nI (0))), (10, .int (dr (nxs (nxs ((mAg g q.toInt.toNat z (k)).1))) (nI 8))), (9, .int (dr (nxs ((mAg g q.toInt.toNat z (k)).1)) (nI 2))), (0, .ref (a)), (1, .int (q)), (2, .int (y)), (3, .int (z)), (4, .int (x)), (8, .int (nI (k + 1)))]) hx hb dX8_ageing_181 hl (by decide) rfl (fun ls hl => ?_)
                    refine lv_iinc (v := nI (k + 1 + 1)) (lv' := [(8, .int (nI (k + 1 + 1))), (7, .int ((mAg g q.toInt.toNat z (k)).2.2.2)), (6, .int (((mAg g q.toInt.toNat z (k)).2.2.1) &&& ((nI (0)) ^^^ ((-1))))), (5, .int (((mAg g q.toInt.toNat z (k)).2.1) &&& ((nI (0)) ^^^ ((-1))))), (11, .int (nI (0))), (10, .int (dr (nxs (nxs ((mAg g q.toInt.toNat z (k)).1))) (nI 8))), (9, .int (dr (nxs ((mAg g q.toInt.toNat z (k)).1)) (nI 2))), (0, .ref (a)), (1, .int (q)), (2, .int (y)), (3, .int (z)), (4, .int (x))]) hx hb dX8_ageing_183 hl (k := 11) rfl (nI_1 _) (by decide) rfl (fun ls hl => ?_)
                    refine lv_goto (tgt := 80) hx hb dX8_ageing_186 (by decide) ?_
                    have e1_5 : (((mAg g q.toInt.toNat z (k)).2.1) &&& ((nI (0)) ^^^ ((-1)))) = (mAg g q.toInt.toNat z ((k + 1))).2.1 := by simp only [mAg, mAgG, if_pos c_1, if_pos c_2, if_neg c_3, if_pos c_4, if_neg c_5, if_pos c_8, if_pos c_9, if_pos c_15, if_neg c_18]
                    have e1_6 : (((mAg g q.toInt.toNat z (k)).2.2.1) &&& ((nI (0)) ^^^ ((-1)))) = (mAg g q.toInt.toNat z ((k + 1))).2.2.1 := by simp only [mAg, mAgG, if_pos c_1, if_pos c_2, if_neg c_3, if_pos c_4, if_neg c_5, if_pos c_8, if_pos c_9, if_pos c_15, if_neg c_18]
                    have e1_7 : ((mAg g q.toInt.toNat z (k)).2.2.2) = (mAg g q.toInt.toNat z ((k + 1))).2.2.2 := by simp only [mAg, mAgG, if_pos c_1, if_pos c_2, if_neg c_3, if_pos c_4, if_neg c_5, if_pos c_8, if_pos c_9, if_pos c_15, if_neg c_18]
                    have e2_0 : nxs (nxs ((mAg g q.toInt.toNat z (k)).1)) = (mAg g q.toInt.toNat z (k + 1)).1 := by rfl
                    have hP : va_P (dC, dI) vwCl (mW cI a o (su f 14 ((mAg g q.toInt.toNat z (k + 1)).1)) (g) (h)) H := by rw [← e2_0]; exact hP
                    have hD : va_D A (mW cI a o (su f 14 ((mAg g q.toInt.toNat z (k + 1)).1)) (g) (h)) := by rw [← e2_0]; exact hD
                    exact ih_80 (k + 1) H locs ls (by show _ < _; omega) (by show _; omega) hP hD hS (by show lv_has ls 12 [(0, .ref (a)), (1, .int (q)), (2, .int (y)), (3, .int (z)), (4, .int (x)), (5, .int ((mAg g q.toInt.toNat z ((k + 1))).2.1)), (6, .int ((mAg g q.toInt.toNat z ((k + 1))).2.2.1)), (7, .int ((mAg g q.toInt.toNat z ((k + 1))).2.2.2)), (8, .int (nI ((k + 1) + 1)))]; rw [← e1_5, ← e1_6, ← e1_7]; exact lv_sub hl [7, 8, 9, 10, 11, 3, 2, 1, 0] rfl)
                  · skip
                    refine lv_aload_n hx hb dX8_ageing_162 rfl (lv_at hl 5 rfl) ?_
                    refine lv_iload_n hx hb dX8_ageing_163 rfl (lv_at hl 6 rfl) ?_
                    refine tv (ix_int (by omega)) ?_
                    refine lv_iload hx hb dX8_ageing_164 (lv_at hl 1 rfl) ?_
                    refine lv_iload hx hb dX8_ageing_166 (lv_at hl 0 rfl) ?_
                    refine vp_callSi (va_Run.run (va_runV (As := [.int (nI (q.toInt.toNat)), .int (((mAg g q.toInt.toNat z (k)).2.1) &&& ((nI (0)) ^^^ ((-1)))), .int (((mAg g q.toInt.toNat z (k)).2.2.1) &&& ((nI (0)) ^^^ ((-1))))]) (rest := []) ⟨hx, hb, hml, hown, hts⟩ (c8_readsAlike l dC dI cI a o (su f 14 (nxs (nxs ((mAg g q.toInt.toNat z (k)).1)))) (g) (h)  (((mAg g q.toInt.toNat z (k)).2.1) &&& ((nI (0)) ^^^ ((-1)))) (((mAg g q.toInt.toNat z (k)).2.2.1) &&& ((nI (0)) ^^^ ((-1)))) (q.toInt.toNat) (by omega)) (cwV 3 hts gX8_ageing_X8_readsAlike rfl rfl rfl (by decide +kernel) ⟨Nat.le_of_ble_eq_true rfl, Nat.le_of_ble_eq_true rfl⟩) ⟨fun a U g mk q => ⟨q.1, q.2.1, va_K.moved (u := U) (U := U.calling g mk a) (Vm.Alike.refl U.vm) q.2.2⟩, va_recv hK hP (ci := 8) (q0 := 0) rfl rfl, fun U hU hW => ⟨rfl, by rw [hU]; exact hP, va_K.moved hW.alike hK⟩⟩ rfl rfl hl.1 rfl (lv_room (Nat.le_of_ble_eq_true rfl)) dX8_ageing_168 ⟨Nat.le_of_ble_eq_true rfl, Nat.le_of_ble_eq_true rfl⟩)) (fun r hrc => ?_)
                    have hrc : r = b2i (mLike (g) (q.toInt.toNat) (((mAg g q.toInt.toNat z (k)).2.1) &&& ((nI (0)) ^^^ ((-1)))) (((mAg g q.toInt.toNat z (k)).2.2.1) &&& ((nI (0)) ^^^ ((-1)))) = true) := hrc
                    subst hrc
                    refine lv_if_ne (tgt := 179) hx hb dX8_ageing_171 (by decide) (fun c_19 => ?_) (fun c_19 => ?_)
                    · skip
                      have c_19 := b2i_1 c_19
                      refine lv_iload hx hb dX8_ageing_179 (lv_at hl 10 rfl) ?_
                      refine lv_istore (lv' := [(7, .int ((mAg g q.toInt.toNat z (k)).2.2.2)), (6, .int (((mAg g q.toInt.toNat z (k)).2.2.1) &&& ((nI (0)) ^^^ ((-1))))), (5, .int (((mAg g q.toInt.toNat z (k)).2.1) &&& ((nI (0)) ^^^ ((-1))))), (11, .int (nI (0))), (10, .int (dr (nxs (nxs ((mAg g q.toInt.toNat z (k)).1))) (nI 8))), (9, .int (dr (nxs ((mAg g q.toInt.toNat z (k)).1)) (nI 2))), (0, .ref (a)), (1, .int (q)), (2, .int (y)), (3, .int (z)), (4, .int (x)), (8, .int (nI (k + 1)))]) hx hb dX8_ageing_181 hl (by decide) rfl (fun ls hl => ?_)
                      refine lv_iinc (v := nI (k + 1 + 1)) (lv' := [(8, .int (nI (k + 1 + 1))), (7, .int ((mAg g q.toInt.toNat z (k)).2.2.2)), (6, .int (((mAg g q.toInt.toNat z (k)).2.2.1) &&& ((nI (0)) ^^^ ((-1))))), (5, .int (((mAg g q.toInt.toNat z (k)).2.1) &&& ((nI (0)) ^^^ ((-1))))), (11, .int (nI (0))), (10, .int (dr (nxs (nxs ((mAg g q.toInt.toNat z (k)).1))) (nI 8))), (9, .int (dr (nxs ((mAg g q.toInt.toNat z (k)).1)) (nI 2))), (0, .ref (a)), (1, .int (q)), (2, .int (y)), (3, .int (z)), (4, .int (x))]) hx hb dX8_ageing_183 hl (k := 11) rfl (nI_1 _) (by decide) rfl (fun ls hl => ?_)
                      refine lv_goto (tgt := 80) hx hb dX8_ageing_186 (by decide) ?_
                      have e1_5 : (((mAg g q.toInt.toNat z (k)).2.1) &&& ((nI (0)) ^^^ ((-1)))) = (mAg g q.toInt.toNat z ((k + 1))).2.1 := by simp only [mAg, mAgG, if_pos c_1, if_pos c_2, if_neg c_3, if_pos c_4, if_neg c_5, if_pos c_8, if_pos c_9, if_pos c_15, if_pos c_18, if_pos c_19]
                      have e1_6 : (((mAg g q.toInt.toNat z (k)).2.2.1) &&& ((nI (0)) ^^^ ((-1)))) = (mAg g q.toInt.toNat z ((k + 1))).2.2.1 := by simp only [mAg, mAgG, if_pos c_1, if_pos c_2, if_neg c_3, if_pos c_4, if_neg c_5, if_pos c_8, if_pos c_9, if_pos c_15, if_pos c_18, if_pos c_19]
                      have e1_7 : ((mAg g q.toInt.toNat z (k)).2.2.2) = (mAg g q.toInt.toNat z ((k + 1))).2.2.2 := by simp only [mAg, mAgG, if_pos c_1, if_pos c_2, if_neg c_3, if_pos c_4, if_neg c_5, if_pos c_8, if_pos c_9, if_pos c_15, if_pos c_18, if_pos c_19]
                      have e2_0 : nxs (nxs ((mAg g q.toInt.toNat z (k)).1)) = (mAg g q.toInt.toNat z (k + 1)).1 := by rfl
                      have hP : va_P (dC, dI) vwCl (mW cI a o (su f 14 ((mAg g q.toInt.toNat z (k + 1)).1)) (g) (h)) H := by rw [← e2_0]; exact hP
                      have hD : va_D A (mW cI a o (su f 14 ((mAg g q.toInt.toNat z (k + 1)).1)) (g) (h)) := by rw [← e2_0]; exact hD
                      exact ih_80 (k + 1) H locs ls (by show _ < _; omega) (by show _; omega) hP hD hS (by show lv_has ls 12 [(0, .ref (a)), (1, .int (q)), (2, .int (y)), (3, .int (z)), (4, .int (x)), (5, .int ((mAg g q.toInt.toNat z ((k + 1))).2.1)), (6, .int ((mAg g q.toInt.toNat z ((k + 1))).2.2.1)), (7, .int ((mAg g q.toInt.toNat z ((k + 1))).2.2.2)), (8, .int (nI ((k + 1) + 1)))]; rw [← e1_5, ← e1_6, ← e1_7]; exact lv_sub hl [7, 8, 9, 10, 11, 3, 2, 1, 0] rfl)
                    · skip
                      have c_19 := b2i_0 c_19
                      refine lv_iload hx hb dX8_ageing_174 (lv_at hl 11 rfl) ?_
                      refine lv_goto (tgt := 181) hx hb dX8_ageing_176 (by decide) ?_
                      refine lv_istore (lv' := [(7, .int (nI (k + 1))), (6, .int (((mAg g q.toInt.toNat z (k)).2.2.1) &&& ((nI (0)) ^^^ ((-1))))), (5, .int (((mAg g q.toInt.toNat z (k)).2.1) &&& ((nI (0)) ^^^ ((-1))))), (11, .int (nI (0))), (10, .int (dr (nxs (nxs ((mAg g q.toInt.toNat z (k)).1))) (nI 8))), (9, .int (dr (nxs ((mAg g q.toInt.toNat z (k)).1)) (nI 2))), (0, .ref (a)), (1, .int (q)), (2, .int (y)), (3, .int (z)), (4, .int (x)), (8, .int (nI (k + 1)))]) hx hb dX8_ageing_181 hl (by decide) rfl (fun ls hl => ?_)
                      refine lv_iinc (v := nI (k + 1 + 1)) (lv' := [(8, .int (nI (k + 1 + 1))), (7, .int (nI (k + 1))), (6, .int (((mAg g q.toInt.toNat z (k)).2.2.1) &&& ((nI (0)) ^^^ ((-1))))), (5, .int (((mAg g q.toInt.toNat z (k)).2.1) &&& ((nI (0)) ^^^ ((-1))))), (11, .int (nI (0))), (10, .int (dr (nxs (nxs ((mAg g q.toInt.toNat z (k)).1))) (nI 8))), (9, .int (dr (nxs ((mAg g q.toInt.toNat z (k)).1)) (nI 2))), (0, .ref (a)), (1, .int (q)), (2, .int (y)), (3, .int (z)), (4, .int (x))]) hx hb dX8_ageing_183 hl (k := 11) rfl (nI_1 _) (by decide) rfl (fun ls hl => ?_)
                      refine lv_goto (tgt := 80) hx hb dX8_ageing_186 (by decide) ?_
                      have e1_5 : (((mAg g q.toInt.toNat z (k)).2.1) &&& ((nI (0)) ^^^ ((-1)))) = (mAg g q.toInt.toNat z ((k + 1))).2.1 := by simp only [mAg, mAgG, if_pos c_1, if_pos c_2, if_neg c_3, if_pos c_4, if_neg c_5, if_pos c_8, if_pos c_9, if_pos c_15, if_pos c_18, if_neg c_19]
                      have e1_6 : (((mAg g q.toInt.toNat z (k)).2.2.1) &&& ((nI (0)) ^^^ ((-1)))) = (mAg g q.toInt.toNat z ((k + 1))).2.2.1 := by simp only [mAg, mAgG, if_pos c_1, if_pos c_2, if_neg c_3, if_pos c_4, if_neg c_5, if_pos c_8, if_pos c_9, if_pos c_15, if_pos c_18, if_neg c_19]
                      have e1_7 : (nI (k + 1)) = (mAg g q.toInt.toNat z ((k + 1))).2.2.2 := by simp only [mAg, mAgG, if_pos c_1, if_pos c_2, if_neg c_3, if_pos c_4, if_neg c_5, if_pos c_8, if_pos c_9, if_pos c_15, if_pos c_18, if_neg c_19]
                      have e2_0 : nxs (nxs ((mAg g q.toInt.toNat z (k)).1)) = (mAg g q.toInt.toNat z (k + 1)).1 := by rfl
                      have hP : va_P (dC, dI) vwCl (mW cI a o (su f 14 ((mAg g q.toInt.toNat z (k + 1)).1)) (g) (h)) H := by rw [← e2_0]; exact hP
                      have hD : va_D A (mW cI a o (su f 14 ((mAg g q.toInt.toNat z (k + 1)).1)) (g) (h)) := by rw [← e2_0]; exact hD
                      exact ih_80 (k + 1) H locs ls (by show _ < _; omega) (by show _; omega) hP hD hS (by show lv_has ls 12 [(0, .ref (a)), (1, .int (q)), (2, .int (y)), (3, .int (z)), (4, .int (x)), (5, .int ((mAg g q.toInt.toNat z ((k + 1))).2.1)), (6, .int ((mAg g q.toInt.toNat z ((k + 1))).2.2.1)), (7, .int ((mAg g q.toInt.toNat z ((k + 1))).2.2.2)), (8, .int (nI ((k + 1) + 1)))]; rw [← e1_5, ← e1_6, ← e1_7]; exact lv_sub hl [7, 8, 9, 10, 11, 3, 2, 1, 0] rfl)
            · skip
              rw [lei, tn (n := 3) (by omega)] at c_8
              refine lv_iconst (v := nI (1)) hx hb dX8_ageing_107 (by decide +kernel) ?_
              refine lv_iload hx hb dX8_ageing_108 (lv_at hl 0 rfl) ?_
              refine lv_ishl hx hb dX8_ageing_110 ?_
              refine lv_goto (tgt := 115) hx hb dX8_ageing_111 (by decide) ?_
              refine lv_istore (lv' := [(11, .int ((nI (1)) <<< ((dr (nxs (nxs ((mAg g q.toInt.toNat z (k)).1))) (nI 8)) &&& 31))), (10, .int (dr (nxs (nxs ((mAg g q.toInt.toNat z (k)).1))) (nI 8))), (9, .int (dr (nxs ((mAg g q.toInt.toNat z (k)).1)) (nI 2))), (0, .ref (a)), (1, .int (q)), (2, .int (y)), (3, .int (z)), (4, .int (x)), (5, .int ((mAg g q.toInt.toNat z (k)).2.1)), (6, .int ((mAg g q.toInt.toNat z (k)).2.2.1)), (7, .int ((mAg g q.toInt.toNat z (k)).2.2.2)), (8, .int (nI (k + 1)))]) hx hb dX8_ageing_115 hl (by decide) rfl (fun ls hl => ?_)
              refine lv_iload hx hb dX8_ageing_117 (lv_at hl 2 rfl) ?_
              refine lv_if_ne (tgt := 132) hx hb dX8_ageing_119 (by decide) (fun c_20 => ?_) (fun c_20 => ?_)
              · skip
                have c_20 : ¬ (dr (nxs ((mAg g q.toInt.toNat z (k)).1)) (nI 2)) = nI 0 := c_20
                refine lv_iload hx hb dX8_ageing_132 (lv_at hl 8 rfl) ?_
                refine lv_istore (lv' := [(5, .int ((mAg g q.toInt.toNat z (k)).2.1)), (11, .int ((nI (1)) <<< ((dr (nxs (nxs ((mAg g q.toInt.toNat z (k)).1))) (nI 8)) &&& 31))), (10, .int (dr (nxs (nxs ((mAg g q.toInt.toNat z (k)).1))) (nI 8))), (9, .int (dr (nxs ((mAg g q.toInt.toNat z (k)).1)) (nI 2))), (0, .ref (a)), (1, .int (q)), (2, .int (y)), (3, .int (z)), (4, .int (x)), (6, .int ((mAg g q.toInt.toNat z (k)).2.2.1)), (7, .int ((mAg g q.toInt.toNat z (k)).2.2.2)), (8, .int (nI (k + 1)))]) hx hb dX8_ageing_134 hl (by decide) rfl (fun ls hl => ?_)
                refine lv_iload hx hb dX8_ageing_136 (lv_at hl 3 rfl) ?_
                refine lv_iconst (v := nI (1)) hx hb dX8_ageing_138 (by decide +kernel) ?_
                refine lv_icmp_ne (tgt := 152) hx hb dX8_ageing_139 (by decide) (fun c_21 => ?_) (fun c_21 => ?_)
                · skip
                  refine lv_iload hx hb dX8_ageing_152 (lv_at hl 9 rfl) ?_
                  refine lv_istore (lv' := [(6, .int ((mAg g q.toInt.toNat z (k)).2.2.1)), (5, .int ((mAg g q.toInt.toNat z (k)).2.1)), (11, .int ((nI (1)) <<< ((dr (nxs (nxs ((mAg g q.toInt.toNat z (k)).1))) (nI 8)) &&& 31))), (10, .int (dr (nxs (nxs ((mAg g q.toInt.toNat z (k)).1))) (nI 8))), (9, .int (dr (nxs ((mAg g q.toInt.toNat z (k)).1)) (nI 2))), (0, .ref (a)), (1, .int (q)), (2, .int (y)), (3, .int (z)), (4, .int (x)), (7, .int ((mAg g q.toInt.toNat z (k)).2.2.2)), (8, .int (nI (k + 1)))]) hx hb dX8_ageing_154 hl (by decide) rfl (fun ls hl => ?_)
                  refine lv_iload hx hb dX8_ageing_156 (lv_at hl 10 rfl) ?_
                  refine lv_iconst (v := (-1)) hx hb dX8_ageing_158 (by decide +kernel) ?_
                  refine lv_icmp_ne (tgt := 179) hx hb dX8_ageing_159 (by decide) (fun c_22 => ?_) (fun c_22 => ?_)
                  · skip
                    refine lv_iload hx hb dX8_ageing_179 (lv_at hl 10 rfl) ?_
                    refine lv_istore (lv' := [(7, .int ((mAg g q.toInt.toNat z (k)).2.2.2)), (6, .int ((mAg g q.toInt.toNat z (k)).2.2.1)), (5, .int ((mAg g q.toInt.toNat z (k)).2.1)), (11, .int ((nI (1)) <<< ((dr (nxs (nxs ((mAg g q.toInt.toNat z (k)).1))) (nI 8)) &&& 31))), (10, .int (dr (nxs (nxs ((mAg g q.toInt.toNat z (k)).1))) (nI 8))), (9, .int (dr (nxs ((mAg g q.toInt.toNat z (k)).1)) (nI 2))), (0, .ref (a)), (1, .int (q)), (2, .int (y)), (3, .int (z)), (4, .int (x)), (8, .int (nI (k + 1)))]) hx hb dX8_ageing_181 hl (by decide) rfl (fun ls hl => ?_)
                    refine lv_iinc (v := nI (k + 1 + 1)) (lv' := [(8, .int (nI (k + 1 + 1))), (7, .int ((mAg g q.toInt.toNat z (k)).2.2.2)), (6, .int ((mAg g q.toInt.toNat z (k)).2.2.1)), (5, .int ((mAg g q.toInt.toNat z (k)).2.1)), (11, .int ((nI (1)) <<< ((dr (nxs (nxs ((mAg g q.toInt.toNat z (k)).1))) (nI 8)) &&& 31))), (10, .int (dr (nxs (nxs ((mAg g q.toInt.toNat z (k)).1))) (nI 8))), (9, .int (dr (nxs ((mAg g q.toInt.toNat z (k)).1)) (nI 2))), (0, .ref (a)), (1, .int (q)), (2, .int (y)), (3, .int (z)), (4, .int (x))]) hx hb dX8_ageing_183 hl (k := 11) rfl (nI_1 _) (by decide) rfl (fun ls hl => ?_)
                    refine lv_goto (tgt := 80) hx hb dX8_ageing_186 (by decide) ?_
                    have e1_5 : ((mAg g q.toInt.toNat z (k)).2.1) = (mAg g q.toInt.toNat z ((k + 1))).2.1 := by simp only [mAg, mAgG, if_pos c_1, if_pos c_2, if_neg c_3, if_pos c_4, if_neg c_5, if_neg c_8, if_neg c_20, if_neg c_21, if_neg c_22]
                    have e1_6 : ((mAg g q.toInt.toNat z (k)).2.2.1) = (mAg g q.toInt.toNat z ((k + 1))).2.2.1 := by simp only [mAg, mAgG, if_pos c_1, if_pos c_2, if_neg c_3, if_pos c_4, if_neg c_5, if_neg c_8, if_neg c_20, if_neg c_21, if_neg c_22]
                    have e1_7 : ((mAg g q.toInt.toNat z (k)).2.2.2) = (mAg g q.toInt.toNat z ((k + 1))).2.2.2 := by simp only [mAg, mAgG, if_pos c_1, if_pos c_2, if_neg c_3, if_pos c_4, if_neg c_5, if_neg c_8, if_neg c_20, if_neg c_21, if_neg c_22]
                    have e2_0 : nxs (nxs ((mAg g q.toInt.toNat z (k)).1)) = (mAg g q.toInt.toNat z (k + 1)).1 := by rfl
                    have hP : va_P (dC, dI) vwCl (mW cI a o (su f 14 ((mAg g q.toInt.toNat z (k + 1)).1)) (g) (h)) H := by rw [← e2_0]; exact hP
                    have hD : va_D A (mW cI a o (su f 14 ((mAg g q.toInt.toNat z (k + 1)).1)) (g) (h)) := by rw [← e2_0]; exact hD
                    exact ih_80 (k + 1) H locs ls (by show _ < _; omega) (by show _; omega) hP hD hS (by show lv_has ls 12 [(0, .ref (a)), (1, .int (q)), (2, .int (y)), (3, .int (z)), (4, .int (x)), (5, .int ((mAg g q.toInt.toNat z ((k + 1))).2.1)), (6, .int ((mAg g q.toInt.toNat z ((k + 1))).2.2.1)), (7, .int ((mAg g q.toInt.toNat z ((k + 1))).2.2.2)), (8, .int (nI ((k + 1) + 1)))]; rw [← e1_5, ← e1_6, ← e1_7]; exact lv_sub hl [7, 8, 9, 10, 11, 3, 2, 1, 0] rfl)
                  · skip
                    refine lv_aload_n hx hb dX8_ageing_162 rfl (lv_at hl 5 rfl) ?_
                    refine lv_iload_n hx hb dX8_ageing_163 rfl (lv_at hl 6 rfl) ?_
                    refine tv (ix_int (by omega)) ?_
                    refine lv_iload hx hb dX8_ageing_164 (lv_at hl 1 rfl) ?_
                    refine lv_iload hx hb dX8_ageing_166 (lv_at hl 0 rfl) ?_
                    refine vp_callSi (va_Run.run (va_runV (As := [.int (nI (q.toInt.toNat)), .int ((mAg g q.toInt.toNat z (k)).2.1), .int ((mAg g q.toInt.toNat z (k)).2.2.1)]) (rest := []) ⟨hx, hb, hml, hown, hts⟩ (c8_readsAlike l dC dI cI a o (su f 14 (nxs (nxs ((mAg g q.toInt.toNat z (k)).1)))) (g) (h)  ((mAg g q.toInt.toNat z (k)).2.1) ((mAg g q.toInt.toNat z (k)).2.2.1) (q.toInt.toNat) (by omega)) (cwV 3 hts gX8_ageing_X8_readsAlike rfl rfl rfl (by decide +kernel) ⟨Nat.le_of_ble_eq_true rfl, Nat.le_of_ble_eq_true rfl⟩) ⟨fun a U g mk q => ⟨q.1, q.2.1, va_K.moved (u := U) (U := U.calling g mk a) (Vm.Alike.refl U.vm) q.2.2⟩, va_recv hK hP (ci := 8) (q0 := 0) rfl rfl, fun U hU hW => ⟨rfl, by rw [hU]; exact hP, va_K.moved hW.alike hK⟩⟩ rfl rfl hl.1 rfl (lv_room (Nat.le_of_ble_eq_true rfl)) dX8_ageing_168 ⟨Nat.le_of_ble_eq_true rfl, Nat.le_of_ble_eq_true rfl⟩)) (fun r hrc => ?_)
                    have hrc : r = b2i (mLike (g) (q.toInt.toNat) ((mAg g q.toInt.toNat z (k)).2.1) ((mAg g q.toInt.toNat z (k)).2.2.1) = true) := hrc
                    subst hrc
                    refine lv_if_ne (tgt := 179) hx hb dX8_ageing_171 (by decide) (fun c_23 => ?_) (fun c_23 => ?_)
                    · skip
                      have c_23 := b2i_1 c_23
                      refine lv_iload hx hb dX8_ageing_179 (lv_at hl 10 rfl) ?_
                      refine lv_istore (lv' := [(7, .int ((mAg g q.toInt.toNat z (k)).2.2.2)), (6, .int ((mAg g q.toInt.toNat z (k)).2.2.1)), (5, .int ((mAg g q.toInt.toNat z (k)).2.1)), (11, .int ((nI (1)) <<< ((dr (nxs (nxs ((mAg g q.toInt.toNat z (k)).1))) (nI 8)) &&& 31))), (10, .int (dr (nxs (nxs ((mAg g q.toInt.toNat z (k)).1))) (nI 8))), (9, .int (dr (nxs ((mAg g q.toInt.toNat z (k)).1)) (nI 2))), (0, .ref (a)), (1, .int (q)), (2, .int (y)), (3, .int (z)), (4, .int (x)), (8, .int (nI (k + 1)))]) hx hb dX8_ageing_181 hl (by decide) rfl (fun ls hl => ?_)
                      refine lv_iinc (v := nI (k + 1 + 1)) (lv' := [(8, .int (nI (k + 1 + 1))), (7, .int ((mAg g q.toInt.toNat z (k)).2.2.2)), (6, .int ((mAg g q.toInt.toNat z (k)).2.2.1)), (5, .int ((mAg g q.toInt.toNat z (k)).2.1)), (11, .int ((nI (1)) <<< ((dr (nxs (nxs ((mAg g q.toInt.toNat z (k)).1))) (nI 8)) &&& 31))), (10, .int (dr (nxs (nxs ((mAg g q.toInt.toNat z (k)).1))) (nI 8))), (9, .int (dr (nxs ((mAg g q.toInt.toNat z (k)).1)) (nI 2))), (0, .ref (a)), (1, .int (q)), (2, .int (y)), (3, .int (z)), (4, .int (x))]) hx hb dX8_ageing_183 hl (k := 11) rfl (nI_1 _) (by decide) rfl (fun ls hl => ?_)
                      refine lv_goto (tgt := 80) hx hb dX8_ageing_186 (by decide) ?_
                      have e1_5 : ((mAg g q.toInt.toNat z (k)).2.1) = (mAg g q.toInt.toNat z ((k + 1))).2.1 := by simp only [mAg, mAgG, if_pos c_1, if_pos c_2, if_neg c_3, if_pos c_4, if_neg c_5, if_neg c_8, if_neg c_20, if_neg c_21, if_pos c_22, if_pos c_23]
                      have e1_6 : ((mAg g q.toInt.toNat z (k)).2.2.1) = (mAg g q.toInt.toNat z ((k + 1))).2.2.1 := by simp only [mAg, mAgG, if_pos c_1, if_pos c_2, if_neg c_3, if_pos c_4, if_neg c_5, if_neg c_8, if_neg c_20, if_neg c_21, if_pos c_22, if_pos c_23]
                      have e1_7 : ((mAg g q.toInt.toNat z (k)).2.2.2) = (mAg g q.toInt.toNat z ((k + 1))).2.2.2 := by simp only [mAg, mAgG, if_pos c_1, if_pos c_2, if_neg c_3, if_pos c_4, if_neg c_5, if_neg c_8, if_neg c_20, if_neg c_21, if_pos c_22, if_pos c_23]
                      have e2_0 : nxs (nxs ((mAg g q.toInt.toNat z (k)).1)) = (mAg g q.toInt.toNat z (k + 1)).1 := by rfl
                      have hP : va_P (dC, dI) vwCl (mW cI a o (su f 14 ((mAg g q.toInt.toNat z (k + 1)).1)) (g) (h)) H := by rw [← e2_0]; exact hP
                      have hD : va_D A (mW cI a o (su f 14 ((mAg g q.toInt.toNat z (k + 1)).1)) (g) (h)) := by rw [← e2_0]; exact hD
                      exact ih_80 (k + 1) H locs ls (by show _ < _; omega) (by show _; omega) hP hD hS (by show lv_has ls 12 [(0, .ref (a)), (1, .int (q)), (2, .int (y)), (3, .int (z)), (4, .int (x)), (5, .int ((mAg g q.toInt.toNat z ((k + 1))).2.1)), (6, .int ((mAg g q.toInt.toNat z ((k + 1))).2.2.1)), (7, .int ((mAg g q.toInt.toNat z ((k + 1))).2.2.2)), (8, .int (nI ((k + 1) + 1)))]; rw [← e1_5, ← e1_6, ← e1_7]; exact lv_sub hl [7, 8, 9, 10, 11, 3, 2, 1, 0] rfl)
                    · skip
                      have c_23 := b2i_0 c_23
                      refine lv_iload hx hb dX8_ageing_174 (lv_at hl 11 rfl) ?_
                      refine lv_goto (tgt := 181) hx hb dX8_ageing_176 (by decide) ?_
                      refine lv_istore (lv' := [(7, .int (nI (k + 1))), (6, .int ((mAg g q.toInt.toNat z (k)).2.2.1)), (5, .int ((mAg g q.toInt.toNat z (k)).2.1)), (11, .int ((nI (1)) <<< ((dr (nxs (nxs ((mAg g q.toInt.toNat z (k)).1))) (nI 8)) &&& 31))), (10, .int (dr (nxs (nxs ((mAg g q.toInt.toNat z (k)).1))) (nI 8))), (9, .int (dr (nxs ((mAg g q.toInt.toNat z (k)).1)) (nI 2))), (0, .ref (a)), (1, .int (q)), (2, .int (y)), (3, .int (z)), (4, .int (x)), (8, .int (nI (k + 1)))]) hx hb dX8_ageing_181 hl (by decide) rfl (fun ls hl => ?_)
                      refine lv_iinc (v := nI (k + 1 + 1)) (lv' := [(8, .int (nI (k + 1 + 1))), (7, .int (nI (k + 1))), (6, .int ((mAg g q.toInt.toNat z (k)).2.2.1)), (5, .int ((mAg g q.toInt.toNat z (k)).2.1)), (11, .int ((nI (1)) <<< ((dr (nxs (nxs ((mAg g q.toInt.toNat z (k)).1))) (nI 8)) &&& 31))), (10, .int (dr (nxs (nxs ((mAg g q.toInt.toNat z (k)).1))) (nI 8))), (9, .int (dr (nxs ((mAg g q.toInt.toNat z (k)).1)) (nI 2))), (0, .ref (a)), (1, .int (q)), (2, .int (y)), (3, .int (z)), (4, .int (x))]) hx hb dX8_ageing_183 hl (k := 11) rfl (nI_1 _) (by decide) rfl (fun ls hl => ?_)
                      refine lv_goto (tgt := 80) hx hb dX8_ageing_186 (by decide) ?_
                      have e1_5 : ((mAg g q.toInt.toNat z (k)).2.1) = (mAg g q.toInt.toNat z ((k + 1))).2.1 := by simp only [mAg, mAgG, if_pos c_1, if_pos c_2, if_neg c_3, if_pos c_4, if_neg c_5, if_neg c_8, if_neg c_20, if_neg c_21, if_pos c_22, if_neg c_23]
                      have e1_6 : ((mAg g q.toInt.toNat z (k)).2.2.1) = (mAg g q.toInt.toNat z ((k + 1))).2.2.1 := by simp only [mAg, mAgG, if_pos c_1, if_pos c_2, if_neg c_3, if_pos c_4, if_neg c_5, if_neg c_8, if_neg c_20, if_neg c_21, if_pos c_22, if_neg c_23]
                      have e1_7 : (nI (k + 1)) = (mAg g q.toInt.toNat z ((k + 1))).2.2.2 := by simp only [mAg, mAgG, if_pos c_1, if_pos c_2, if_neg c_3, if_pos c_4, if_neg c_5, if_neg c_8, if_neg c_20, if_neg c_21, if_pos c_22, if_neg c_23]
                      have e2_0 : nxs (nxs ((mAg g q.toInt.toNat z (k)).1)) = (mAg g q.toInt.toNat z (k + 1)).1 := by rfl
                      have hP : va_P (dC, dI) vwCl (mW cI a o (su f 14 ((mAg g q.toInt.toNat z (k + 1)).1)) (g) (h)) H := by rw [← e2_0]; exact hP
                      have hD : va_D A (mW cI a o (su f 14 ((mAg g q.toInt.toNat z (k + 1)).1)) (g) (h)) := by rw [← e2_0]; exact hD
                      exact ih_80 (k + 1) H locs ls (by show _ < _; omega) (by show _; omega) hP hD hS (by show lv_has ls 12 [(0, .ref (a)), (1, .int (q)), (2, .int (y)), (3, .int (z)), (4, .int (x)), (5, .int ((mAg g q.toInt.toNat z ((k + 1))).2.1)), (6, .int ((mAg g q.toInt.toNat z ((k + 1))).2.2.1)), (7, .int ((mAg g q.toInt.toNat z ((k + 1))).2.2.2)), (8, .int (nI ((k + 1) + 1)))]; rw [← e1_5, ← e1_6, ← e1_7]; exact lv_sub hl [7, 8, 9, 10, 11, 3, 2, 1, 0] rfl)
                · skip
                  refine lv_iload hx hb dX8_ageing_142 (lv_at hl 9 rfl) ?_
                  refine lv_iload hx hb dX8_ageing_144 (lv_at hl 1 rfl) ?_
                  refine lv_iconst (v := (-1)) hx hb dX8_ageing_146 (by decide +kernel) ?_
                  refine lv_ixor hx hb dX8_ageing_147 ?_
                  refine lv_iand hx hb dX8_ageing_148 ?_
                  refine lv_goto (tgt := 154) hx hb dX8_ageing_149 (by decide) ?_
                  refine lv_istore (lv' := [(6, .int (((mAg g q.toInt.toNat z (k)).2.2.1) &&& (((nI (1)) <<< ((dr (nxs (nxs ((mAg g q.toInt.toNat z (k)).1))) (nI 8)) &&& 31)) ^^^ ((-1))))), (5, .int ((mAg g q.toInt.toNat z (k)).2.1)), (11, .int ((nI (1)) <<< ((dr (nxs (nxs ((mAg g q.toInt.toNat z (k)).1))) (nI 8)) &&& 31))), (10, .int (dr (nxs (nxs ((mAg g q.toInt.toNat z (k)).1))) (nI 8))), (9, .int (dr (nxs ((mAg g q.toInt.toNat z (k)).1)) (nI 2))), (0, .ref (a)), (1, .int (q)), (2, .int (y)), (3, .int (z)), (4, .int (x)), (7, .int ((mAg g q.toInt.toNat z (k)).2.2.2)), (8, .int (nI (k + 1)))]) hx hb dX8_ageing_154 hl (by decide) rfl (fun ls hl => ?_)
                  refine lv_iload hx hb dX8_ageing_156 (lv_at hl 10 rfl) ?_
                  refine lv_iconst (v := (-1)) hx hb dX8_ageing_158 (by decide +kernel) ?_
                  refine lv_icmp_ne (tgt := 179) hx hb dX8_ageing_159 (by decide) (fun c_24 => ?_) (fun c_24 => ?_)
                  · skip
                    refine lv_iload hx hb dX8_ageing_179 (lv_at hl 10 rfl) ?_
                    refine lv_istore (lv' := [(7, .int ((mAg g q.toInt.toNat z (k)).2.2.2)), (6, .int (((mAg g q.toInt.toNat z (k)).2.2.1) &&& (((nI (1)) <<< ((dr (nxs (nxs ((mAg g q.toInt.toNat z (k)).1))) (nI 8)) &&& 31)) ^^^ ((-1))))), (5, .int ((mAg g q.toInt.toNat z (k)).2.1)), (11, .int ((nI (1)) <<< ((dr (nxs (nxs ((mAg g q.toInt.toNat z (k)).1))) (nI 8)) &&& 31))), (10, .int (dr (nxs (nxs ((mAg g q.toInt.toNat z (k)).1))) (nI 8))), (9, .int (dr (nxs ((mAg g q.toInt.toNat z (k)).1)) (nI 2))), (0, .ref (a)), (1, .int (q)), (2, .int (y)), (3, .int (z)), (4, .int (x)), (8, .int (nI (k + 1)))]) hx hb dX8_ageing_181 hl (by decide) rfl (fun ls hl => ?_)
                    refine lv_iinc (v := nI (k + 1 + 1)) (lv' := [(8, .int (nI (k + 1 + 1))), (7, .int ((mAg g q.toInt.toNat z (k)).2.2.2)), (6, .int (((mAg g q.toInt.toNat z (k)).2.2.1) &&& (((nI (1)) <<< ((dr (nxs (nxs ((mAg g q.toInt.toNat z (k)).1))) (nI 8)) &&& 31)) ^^^ ((-1))))), (5, .int ((mAg g q.toInt.toNat z (k)).2.1)), (11, .int ((nI (1)) <<< ((dr (nxs (nxs ((mAg g q.toInt.toNat z (k)).1))) (nI 8)) &&& 31))), (10, .int (dr (nxs (nxs ((mAg g q.toInt.toNat z (k)).1))) (nI 8))), (9, .int (dr (nxs ((mAg g q.toInt.toNat z (k)).1)) (nI 2))), (0, .ref (a)), (1, .int (q)), (2, .int (y)), (3, .int (z)), (4, .int (x))]) hx hb dX8_ageing_183 hl (k := 11) rfl (nI_1 _) (by decide) rfl (fun ls hl => ?_)
                    refine lv_goto (tgt := 80) hx hb dX8_ageing_186 (by decide) ?_
                    have e1_5 : ((mAg g q.toInt.toNat z (k)).2.1) = (mAg g q.toInt.toNat z ((k + 1))).2.1 := by simp only [mAg, mAgG, if_pos c_1, if_pos c_2, if_neg c_3, if_pos c_4, if_neg c_5, if_neg c_8, if_neg c_20, if_pos c_21, if_neg c_24]
                    have e1_6 : (((mAg g q.toInt.toNat z (k)).2.2.1) &&& (((nI (1)) <<< ((dr (nxs (nxs ((mAg g q.toInt.toNat z (k)).1))) (nI 8)) &&& 31)) ^^^ ((-1)))) = (mAg g q.toInt.toNat z ((k + 1))).2.2.1 := by simp only [mAg, mAgG, if_pos c_1, if_pos c_2, if_neg c_3, if_pos c_4, if_neg c_5, if_neg c_8, if_neg c_20, if_pos c_21, if_neg c_24]
                    have e1_7 : ((mAg g q.toInt.toNat z (k)).2.2.2) = (mAg g q.toInt.toNat z ((k + 1))).2.2.2 := by simp only [mAg, mAgG, if_pos c_1, if_pos c_2, if_neg c_3, if_pos c_4, if_neg c_5, if_neg c_8, if_neg c_20, if_pos c_21, if_neg c_24]
                    have e2_0 : nxs (nxs ((mAg g q.toInt.toNat z (k)).1)) = (mAg g q.toInt.toNat z (k + 1)).1 := by rfl
                    have hP : va_P (dC, dI) vwCl (mW cI a o (su f 14 ((mAg g q.toInt.toNat z (k + 1)).1)) (g) (h)) H := by rw [← e2_0]; exact hP
                    have hD : va_D A (mW cI a o (su f 14 ((mAg g q.toInt.toNat z (k + 1)).1)) (g) (h)) := by rw [← e2_0]; exact hD
                    exact ih_80 (k + 1) H locs ls (by show _ < _; omega) (by show _; omega) hP hD hS (by show lv_has ls 12 [(0, .ref (a)), (1, .int (q)), (2, .int (y)), (3, .int (z)), (4, .int (x)), (5, .int ((mAg g q.toInt.toNat z ((k + 1))).2.1)), (6, .int ((mAg g q.toInt.toNat z ((k + 1))).2.2.1)), (7, .int ((mAg g q.toInt.toNat z ((k + 1))).2.2.2)), (8, .int (nI ((k + 1) + 1)))]; rw [← e1_5, ← e1_6, ← e1_7]; exact lv_sub hl [7, 8, 9, 10, 11, 3, 2, 1, 0] rfl)
                  · skip
                    refine lv_aload_n hx hb dX8_ageing_162 rfl (lv_at hl 5 rfl) ?_
                    refine lv_iload_n hx hb dX8_ageing_163 rfl (lv_at hl 6 rfl) ?_
                    refine tv (ix_int (by omega)) ?_
                    refine lv_iload hx hb dX8_ageing_164 (lv_at hl 1 rfl) ?_
                    refine lv_iload hx hb dX8_ageing_166 (lv_at hl 0 rfl) ?_
                    refine vp_callSi (va_Run.run (va_runV (As := [.int (nI (q.toInt.toNat)), .int ((mAg g q.toInt.toNat z (k)).2.1), .int (((mAg g q.toInt.toNat z (k)).2.2.1) &&& (((nI (1)) <<< ((dr (nxs (nxs ((mAg g q.toInt.toNat z (k)).1))) (nI 8)) &&& 31)) ^^^ ((-1))))]) (rest := []) ⟨hx, hb, hml, hown, hts⟩ (c8_readsAlike l dC dI cI a o (su f 14 (nxs (nxs ((mAg g q.toInt.toNat z (k)).1)))) (g) (h)  ((mAg g q.toInt.toNat z (k)).2.1) (((mAg g q.toInt.toNat z (k)).2.2.1) &&& (((nI (1)) <<< ((dr (nxs (nxs ((mAg g q.toInt.toNat z (k)).1))) (nI 8)) &&& 31)) ^^^ ((-1)))) (q.toInt.toNat) (by omega)) (cwV 3 hts gX8_ageing_X8_readsAlike rfl rfl rfl (by decide +kernel) ⟨Nat.le_of_ble_eq_true rfl, Nat.le_of_ble_eq_true rfl⟩) ⟨fun a U g mk q => ⟨q.1, q.2.1, va_K.moved (u := U) (U := U.calling g mk a) (Vm.Alike.refl U.vm) q.2.2⟩, va_recv hK hP (ci := 8) (q0 := 0) rfl rfl, fun U hU hW => ⟨rfl, by rw [hU]; exact hP, va_K.moved hW.alike hK⟩⟩ rfl rfl hl.1 rfl (lv_room (Nat.le_of_ble_eq_true rfl)) dX8_ageing_168 ⟨Nat.le_of_ble_eq_true rfl, Nat.le_of_ble_eq_true rfl⟩)) (fun r hrc => ?_)
                    have hrc : r = b2i (mLike (g) (q.toInt.toNat) ((mAg g q.toInt.toNat z (k)).2.1) (((mAg g q.toInt.toNat z (k)).2.2.1) &&& (((nI (1)) <<< ((dr (nxs (nxs ((mAg g q.toInt.toNat z (k)).1))) (nI 8)) &&& 31)) ^^^ ((-1)))) = true) := hrc
                    subst hrc
                    refine lv_if_ne (tgt := 179) hx hb dX8_ageing_171 (by decide) (fun c_25 => ?_) (fun c_25 => ?_)
                    · skip
                      have c_25 := b2i_1 c_25
                      refine lv_iload hx hb dX8_ageing_179 (lv_at hl 10 rfl) ?_
                      refine lv_istore (lv' := [(7, .int ((mAg g q.toInt.toNat z (k)).2.2.2)), (6, .int (((mAg g q.toInt.toNat z (k)).2.2.1) &&& (((nI (1)) <<< ((dr (nxs (nxs ((mAg g q.toInt.toNat z (k)).1))) (nI 8)) &&& 31)) ^^^ ((-1))))), (5, .int ((mAg g q.toInt.toNat z (k)).2.1)), (11, .int ((nI (1)) <<< ((dr (nxs (nxs ((mAg g q.toInt.toNat z (k)).1))) (nI 8)) &&& 31))), (10, .int (dr (nxs (nxs ((mAg g q.toInt.toNat z (k)).1))) (nI 8))), (9, .int (dr (nxs ((mAg g q.toInt.toNat z (k)).1)) (nI 2))), (0, .ref (a)), (1, .int (q)), (2, .int (y)), (3, .int (z)), (4, .int (x)), (8, .int (nI (k + 1)))]) hx hb dX8_ageing_181 hl (by decide) rfl (fun ls hl => ?_)
                      refine lv_iinc (v := nI (k + 1 + 1)) (lv' := [(8, .int (nI (k + 1 + 1))), (7, .int ((mAg g q.toInt.toNat z (k)).2.2.2)), (6, .int (((mAg g q.toInt.toNat z (k)).2.2.1) &&& (((nI (1)) <<< ((dr (nxs (nxs ((mAg g q.toInt.toNat z (k)).1))) (nI 8)) &&& 31)) ^^^ ((-1))))), (5, .int ((mAg g q.toInt.toNat z (k)).2.1)), (11, .int ((nI (1)) <<< ((dr (nxs (nxs ((mAg g q.toInt.toNat z (k)).1))) (nI 8)) &&& 31))), (10, .int (dr (nxs (nxs ((mAg g q.toInt.toNat z (k)).1))) (nI 8))), (9, .int (dr (nxs ((mAg g q.toInt.toNat z (k)).1)) (nI 2))), (0, .ref (a)), (1, .int (q)), (2, .int (y)), (3, .int (z)), (4, .int (x))]) hx hb dX8_ageing_183 hl (k := 11) rfl (nI_1 _) (by decide) rfl (fun ls hl => ?_)
                      refine lv_goto (tgt := 80) hx hb dX8_ageing_186 (by decide) ?_
                      have e1_5 : ((mAg g q.toInt.toNat z (k)).2.1) = (mAg g q.toInt.toNat z ((k + 1))).2.1 := by simp only [mAg, mAgG, if_pos c_1, if_pos c_2, if_neg c_3, if_pos c_4, if_neg c_5, if_neg c_8, if_neg c_20, if_pos c_21, if_pos c_24, if_pos c_25]
                      have e1_6 : (((mAg g q.toInt.toNat z (k)).2.2.1) &&& (((nI (1)) <<< ((dr (nxs (nxs ((mAg g q.toInt.toNat z (k)).1))) (nI 8)) &&& 31)) ^^^ ((-1)))) = (mAg g q.toInt.toNat z ((k + 1))).2.2.1 := by simp only [mAg, mAgG, if_pos c_1, if_pos c_2, if_neg c_3, if_pos c_4, if_neg c_5, if_neg c_8, if_neg c_20, if_pos c_21, if_pos c_24, if_pos c_25]
                      have e1_7 : ((mAg g q.toInt.toNat z (k)).2.2.2) = (mAg g q.toInt.toNat z ((k + 1))).2.2.2 := by simp only [mAg, mAgG, if_pos c_1, if_pos c_2, if_neg c_3, if_pos c_4, if_neg c_5, if_neg c_8, if_neg c_20, if_pos c_21, if_pos c_24, if_pos c_25]
                      have e2_0 : nxs (nxs ((mAg g q.toInt.toNat z (k)).1)) = (mAg g q.toInt.toNat z (k + 1)).1 := by rfl
                      have hP : va_P (dC, dI) vwCl (mW cI a o (su f 14 ((mAg g q.toInt.toNat z (k + 1)).1)) (g) (h)) H := by rw [← e2_0]; exact hP
                      have hD : va_D A (mW cI a o (su f 14 ((mAg g q.toInt.toNat z (k + 1)).1)) (g) (h)) := by rw [← e2_0]; exact hD
                      exact ih_80 (k + 1) H locs ls (by show _ < _; omega) (by show _; omega) hP hD hS (by show lv_has ls 12 [(0, .ref (a)), (1, .int (q)), (2, .int (y)), (3, .int (z)), (4, .int (x)), (5, .int ((mAg g q.toInt.toNat z ((k + 1))).2.1)), (6, .int ((mAg g q.toInt.toNat z ((k + 1))).2.2.1)), (7, .int ((mAg g q.toInt.toNat z ((k + 1))).2.2.2)), (8, .int (nI ((k + 1) + 1)))]; rw [← e1_5, ← e1_6, ← e1_7]; exact lv_sub hl [7, 8, 9, 10, 11, 3, 2, 1, 0] rfl)
                    · skip
                      have c_25 := b2i_0 c_25
                      refine lv_iload hx hb dX8_ageing_174 (lv_at hl 11 rfl) ?_
                      refine lv_goto (tgt := 181) hx hb dX8_ageing_176 (by decide) ?_
                      refine lv_istore (lv' := [(7, .int (nI (k + 1))), (6, .int (((mAg g q.toInt.toNat z (k)).2.2.1) &&& (((nI (1)) <<< ((dr (nxs (nxs ((mAg g q.toInt.toNat z (k)).1))) (nI 8)) &&& 31)) ^^^ ((-1))))), (5, .int ((mAg g q.toInt.toNat z (k)).2.1)), (11, .int ((nI (1)) <<< ((dr (nxs (nxs ((mAg g q.toInt.toNat z (k)).1))) (nI 8)) &&& 31))), (10, .int (dr (nxs (nxs ((mAg g q.toInt.toNat z (k)).1))) (nI 8))), (9, .int (dr (nxs ((mAg g q.toInt.toNat z (k)).1)) (nI 2))), (0, .ref (a)), (1, .int (q)), (2, .int (y)), (3, .int (z)), (4, .int (x)), (8, .int (nI (k + 1)))]) hx hb dX8_ageing_181 hl (by decide) rfl (fun ls hl => ?_)
                      refine lv_iinc (v := nI (k + 1 + 1)) (lv' := [(8, .int (nI (k + 1 + 1))), (7, .int (nI (k + 1))), (6, .int (((mAg g q.toInt.toNat z (k)).2.2.1) &&& (((nI (1)) <<< ((dr (nxs (nxs ((mAg g q.toInt.toNat z (k)).1))) (nI 8)) &&& 31)) ^^^ ((-1))))), (5, .int ((mAg g q.toInt.toNat z (k)).2.1)), (11, .int ((nI (1)) <<< ((dr (nxs (nxs ((mAg g q.toInt.toNat z (k)).1))) (nI 8)) &&& 31))), (10, .int (dr (nxs (nxs ((mAg g q.toInt.toNat z (k)).1))) (nI 8))), (9, .int (dr (nxs ((mAg g q.toInt.toNat z (k)).1)) (nI 2))), (0, .ref (a)), (1, .int (q)), (2, .int (y)), (3, .int (z)), (4, .int (x))]) hx hb dX8_ageing_183 hl (k := 11) rfl (nI_1 _) (by decide) rfl (fun ls hl => ?_)
                      refine lv_goto (tgt := 80) hx hb dX8_ageing_186 (by decide) ?_
                      have e1_5 : ((mAg g q.toInt.toNat z (k)).2.1) = (mAg g q.toInt.toNat z ((k + 1))).2.1 := by simp only [mAg, mAgG, if_pos c_1, if_pos c_2, if_neg c_3, if_pos c_4, if_neg c_5, if_neg c_8, if_neg c_20, if_pos c_21, if_pos c_24, if_neg c_25]
                      have e1_6 : (((mAg g q.toInt.toNat z (k)).2.2.1) &&& (((nI (1)) <<< ((dr (nxs (nxs ((mAg g q.toInt.toNat z (k)).1))) (nI 8)) &&& 31)) ^^^ ((-1)))) = (mAg g q.toInt.toNat z ((k + 1))).2.2.1 := by simp only [mAg, mAgG, if_pos c_1, if_pos c_2, if_neg c_3, if_pos c_4, if_neg c_5, if_neg c_8, if_neg c_20, if_pos c_21, if_pos c_24, if_neg c_25]
                      have e1_7 : (nI (k + 1)) = (mAg g q.toInt.toNat z ((k + 1))).2.2.2 := by simp only [mAg, mAgG, if_pos c_1, if_pos c_2, if_neg c_3, if_pos c_4, if_neg c_5, if_neg c_8, if_neg c_20, if_pos c_21, if_pos c_24, if_neg c_25]
                      have e2_0 : nxs (nxs ((mAg g q.toInt.toNat z (k)).1)) = (mAg g q.toInt.toNat z (k + 1)).1 := by rfl
                      have hP : va_P (dC, dI) vwCl (mW cI a o (su f 14 ((mAg g q.toInt.toNat z (k + 1)).1)) (g) (h)) H := by rw [← e2_0]; exact hP
                      have hD : va_D A (mW cI a o (su f 14 ((mAg g q.toInt.toNat z (k + 1)).1)) (g) (h)) := by rw [← e2_0]; exact hD
                      exact ih_80 (k + 1) H locs ls (by show _ < _; omega) (by show _; omega) hP hD hS (by show lv_has ls 12 [(0, .ref (a)), (1, .int (q)), (2, .int (y)), (3, .int (z)), (4, .int (x)), (5, .int ((mAg g q.toInt.toNat z ((k + 1))).2.1)), (6, .int ((mAg g q.toInt.toNat z ((k + 1))).2.2.1)), (7, .int ((mAg g q.toInt.toNat z ((k + 1))).2.2.2)), (8, .int (nI ((k + 1) + 1)))]; rw [← e1_5, ← e1_6, ← e1_7]; exact lv_sub hl [7, 8, 9, 10, 11, 3, 2, 1, 0] rfl)
              · skip
                have c_20 : (dr (nxs ((mAg g q.toInt.toNat z (k)).1)) (nI 2)) = nI 0 := c_20
                refine lv_iload hx hb dX8_ageing_122 (lv_at hl 8 rfl) ?_
                refine lv_iload hx hb dX8_ageing_124 (lv_at hl 0 rfl) ?_
                refine lv_iconst (v := (-1)) hx hb dX8_ageing_126 (by decide +kernel) ?_
                refine lv_ixor hx hb dX8_ageing_127 ?_
                refine lv_iand hx hb dX8_ageing_128 ?_
                refine lv_goto (tgt := 134) hx hb dX8_ageing_129 (by decide) ?_
                refine lv_istore (lv' := [(5, .int (((mAg g q.toInt.toNat z (k)).2.1) &&& (((nI (1)) <<< ((dr (nxs (nxs ((mAg g q.toInt.toNat z (k)).1))) (nI 8)) &&& 31)) ^^^ ((-1))))), (11, .int ((nI (1)) <<< ((dr (nxs (nxs ((mAg g q.toInt.toNat z (k)).1))) (nI 8)) &&& 31))), (10, .int (dr (nxs (nxs ((mAg g q.toInt.toNat z (k)).1))) (nI 8))), (9, .int (dr (nxs ((mAg g q.toInt.toNat z (k)).1)) (nI 2))), (0, .ref (a)), (1, .int (q)), (2, .int (y)), (3, .int (z)), (4, .int (x)), (6, .int ((mAg g q.toInt.toNat z (k)).2.2.1)), (7, .int ((mAg g q.toInt.toNat z (k)).2.2.2)), (8, .int (nI (k + 1)))]) hx hb dX8_ageing_134 hl (by decide) rfl (fun ls hl => ?_)
                refine lv_iload hx hb dX8_ageing_136 (lv_at hl 3 rfl) ?_
                refine lv_iconst (v := nI (1)) hx hb dX8_ageing_138 (by decide +kernel) ?_
                refine lv_icmp_ne (tgt := 152) hx hb dX8_ageing_139 (by decide) (fun c_26 => ?_) (fun c_26 => ?_)
                · skip
                  refine lv_iload hx hb dX8_ageing_152 (lv_at hl 9 rfl) ?_
                  refine lv_istore (lv' := [(6, .int ((mAg g q.toInt.toNat z (k)).2.2.1)), (5, .int (((mAg g q.toInt.toNat z (k)).2.1) &&& (((nI (1)) <<< ((dr (nxs (nxs ((mAg g q.toInt.toNat z (k)).1))) (nI 8)) &&& 31)) ^^^ ((-1))))), (11, .int ((nI (1)) <<< ((dr (nxs (nxs ((mAg g q.toInt.toNat z (k)).1))) (nI 8)) &&& 31))), (10, .int (dr (nxs (nxs ((mAg g q.toInt.toNat z (k)).1))) (nI 8))), (9, .int (dr (nxs ((mAg g q.toInt.toNat z (k)).1)) (nI 2))), (0, .ref (a)), (1, .int (q)), (2, .int (y)), (3, .int (z)), (4, .int (x)), (7, .int ((mAg g q.toInt.toNat z (k)).2.2.2)), (8, .int (nI (k + 1)))]) hx hb dX8_ageing_154 hl (by decide) rfl (fun ls hl => ?_)
                  refine lv_iload hx hb dX8_ageing_156 (lv_at hl 10 rfl) ?_
                  refine lv_iconst (v := (-1)) hx hb dX8_ageing_158 (by decide +kernel) ?_
                  refine lv_icmp_ne (tgt := 179) hx hb dX8_ageing_159 (by decide) (fun c_27 => ?_) (fun c_27 => ?_)
                  · skip
                    refine lv_iload hx hb dX8_ageing_179 (lv_at hl 10 rfl) ?_
                    refine lv_istore (lv' := [(7, .int ((mAg g q.toInt.toNat z (k)).2.2.2)), (6, .int ((mAg g q.toInt.toNat z (k)).2.2.1)), (5, .int (((mAg g q.toInt.toNat z (k)).2.1) &&& (((nI (1)) <<< ((dr (nxs (nxs ((mAg g q.toInt.toNat z (k)).1))) (nI 8)) &&& 31)) ^^^ ((-1))))), (11, .int ((nI (1)) <<< ((dr (nxs (nxs ((mAg g q.toInt.toNat z (k)).1))) (nI 8)) &&& 31))), (10, .int (dr (nxs (nxs ((mAg g q.toInt.toNat z (k)).1))) (nI 8))), (9, .int (dr (nxs ((mAg g q.toInt.toNat z (k)).1)) (nI 2))), (0, .ref (a)), (1, .int (q)), (2, .int (y)), (3, .int (z)), (4, .int (x)), (8, .int (nI (k + 1)))]) hx hb dX8_ageing_181 hl (by decide) rfl (fun ls hl => ?_)
                    refine lv_iinc (v := nI (k + 1 + 1)) (lv' := [(8, .int (nI (k + 1 + 1))), (7, .int ((mAg g q.toInt.toNat z (k)).2.2.2)), (6, .int ((mAg g q.toInt.toNat z (k)).2.2.1)), (5, .int (((mAg g q.toInt.toNat z (k)).2.1) &&& (((nI (1)) <<< ((dr (nxs (nxs ((mAg g q.toInt.toNat z (k)).1))) (nI 8)) &&& 31)) ^^^ ((-1))))), (11, .int ((nI (1)) <<< ((dr (nxs (nxs ((mAg g q.toInt.toNat z (k)).1))) (nI 8)) &&& 31))), (10, .int (dr (nxs (nxs ((mAg g q.toInt.toNat z (k)).1))) (nI 8))), (9, .int (dr (nxs ((mAg g q.toInt.toNat z (k)).1)) (nI 2))), (0, .ref (a)), (1, .int (q)), (2, .int (y)), (3, .int (z)), (4, .int (x))]) hx hb dX8_ageing_183 hl (k := 11) rfl (nI_1 _) (by decide) rfl (fun ls hl => ?_)
                    refine lv_goto (tgt := 80) hx hb dX8_ageing_186 (by decide) ?_
                    have e1_5 : (((mAg g q.toInt.toNat z (k)).2.1) &&& (((nI (1)) <<< ((dr (nxs (nxs ((mAg g q.toInt.toNat z (k)).1))) (nI 8)) &&& 31)) ^^^ ((-1)))) = (mAg g q.toInt.toNat z ((k + 1))).2.1 := by simp only [mAg, mAgG, if_pos c_1, if_pos c_2, if_neg c_3, if_pos c_4, if_neg c_5, if_neg c_8, if_pos c_20, if_neg c_26, if_neg c_27]
                    have e1_6 : ((mAg g q.toInt.toNat z (k)).2.2.1) = (mAg g q.toInt.toNat z ((k + 1))).2.2.1 := by simp only [mAg, mAgG, if_pos c_1, if_pos c_2, if_neg c_3, if_pos c_4, if_neg c_5, if_neg c_8, if_pos c_20, if_neg c_26, if_neg c_27]
                    have e1_7 : ((mAg g q.toInt.toNat z (k)).2.2.2) = (mAg g q.toInt.toNat z ((k + 1))).2.2.2 := by simp only [mAg, mAgG, if_pos c_1, if_pos c_2, if_neg c_3, if_pos c_4, if_neg c_5, if_neg c_8, if_pos c_20, if_neg c_26, if_neg c_27]
                    have e2_0 : nxs (nxs ((mAg g q.toInt.toNat z (k)).1)) = (mAg g q.toInt.toNat z (k + 1)).1 := by rfl
                    have hP : va_P (dC, dI) vwCl (mW cI a o (su f 14 ((mAg g q.toInt.toNat z (k + 1)).1)) (g) (h)) H := by rw [← e2_0]; exact hP
                    have hD : va_D A (mW cI a o (su f 14 ((mAg g q.toInt.toNat z (k + 1)).1)) (g) (h)) := by rw [← e2_0]; exact hD
                    exact ih_80 (k + 1) H locs ls (by show _ < _; omega) (by show _; omega) hP hD hS (by show lv_has ls 12 [(0, .ref (a)), (1, .int (q)), (2, .int (y)), (3, .int (z)), (4, .int (x)), (5, .int ((mAg g q.toInt.toNat z ((k + 1))).2.1)), (6, .int ((mAg g q.toInt.toNat z ((k + 1))).2.2.1)), (7, .int ((mAg g q.toInt.toNat z ((k + 1))).2.2.2)), (8, .int (nI ((k + 1) + 1)))]; rw [← e1_5, ← e1_6, ← e1_7]; exact lv_sub hl [7, 8, 9, 10, 11, 3, 2, 1, 0] rfl)
                  · skip
                    refine lv_aload_n hx hb dX8_ageing_162 rfl (lv_at hl 5 rfl) ?_
                    refine lv_iload_n hx hb dX8_ageing_163 rfl (lv_at hl 6 rfl) ?_
                    refine tv (ix_int (by omega)) ?_
                    refine lv_iload hx hb dX8_ageing_164 (lv_at hl 1 rfl) ?_
                    refine lv_iload hx hb dX8_ageing_166 (lv_at hl 0 rfl) ?_
                    refine vp_callSi (va_Run.run (va_runV (As := [.int (nI (q.toInt.toNat)), .int (((mAg g q.toInt.toNat z (k)).2.1) &&& (((nI (1)) <<< ((dr (nxs (nxs ((mAg g q.toInt.toNat z (k)).1))) (nI 8)) &&& 31)) ^^^ ((-1)))), .int ((mAg g q.toInt.toNat z (k)).2.2.1)]) (rest := []) ⟨hx, hb, hml, hown, hts⟩ (c8_readsAlike l dC dI cI a o (su f 14 (nxs (nxs ((mAg g q.toInt.toNat z (k)).1)))) (g) (h)  (((mAg g q.toInt.toNat z (k)).2.1) &&& (((nI (1)) <<< ((dr (nxs (nxs ((mAg g q.toInt.toNat z (k)).1))) (nI 8)) &&& 31)) ^^^ ((-1)))) ((mAg g q.toInt.toNat z (k)).2.2.1) (q.toInt.toNat) (by omega)) (cwV 3 hts gX8_ageing_X8_readsAlike rfl rfl rfl (by decide +kernel) ⟨Nat.le_of_ble_eq_true rfl, Nat.le_of_ble_eq_true rfl⟩) ⟨fun a U g mk q => ⟨q.1, q.2.1, va_K.moved (u := U) (U := U.calling g mk a) (Vm.Alike.refl U.vm) q.2.2⟩, va_recv hK hP (ci := 8) (q0 := 0) rfl rfl, fun U hU hW => ⟨rfl, by rw [hU]; exact hP, va_K.moved hW.alike hK⟩⟩ rfl rfl hl.1 rfl (lv_room (Nat.le_of_ble_eq_true rfl)) dX8_ageing_168 ⟨Nat.le_of_ble_eq_true rfl, Nat.le_of_ble_eq_true rfl⟩)) (fun r hrc => ?_)
                    have hrc : r = b2i (mLike (g) (q.toInt.toNat) (((mAg g q.toInt.toNat z (k)).2.1) &&& (((nI (1)) <<< ((dr (nxs (nxs ((mAg g q.toInt.toNat z (k)).1))) (nI 8)) &&& 31)) ^^^ ((-1)))) ((mAg g q.toInt.toNat z (k)).2.2.1) = true) := hrc
                    subst hrc
                    refine lv_if_ne (tgt := 179) hx hb dX8_ageing_171 (by decide) (fun c_28 => ?_) (fun c_28 => ?_)
                    · skip
                      have c_28 := b2i_1 c_28
                      refine lv_iload hx hb dX8_ageing_179 (lv_at hl 10 rfl) ?_
                      refine lv_istore (lv' := [(7, .int ((mAg g q.toInt.toNat z (k)).2.2.2)), (6, .int ((mAg g q.toInt.toNat z (k)).2.2.1)), (5, .int (((mAg g q.toInt.toNat z (k)).2.1) &&& (((nI (1)) <<< ((dr (nxs (nxs ((mAg g q.toInt.toNat z (k)).1))) (nI 8)) &&& 31)) ^^^ ((-1))))), (11, .int ((nI (1)) <<< ((dr (nxs (nxs ((mAg g q.toInt.toNat z (k)).1))) (nI 8)) &&& 31))), (10, .int (dr (nxs (nxs ((mAg g q.toInt.toNat z (k)).1))) (nI 8))), (9, .int (dr (nxs ((mAg g q.toInt.toNat z (k)).1)) (nI 2))), (0, .ref (a)), (1, .int (q)), (2, .int (y)), (3, .int (z)), (4, .int (x)), (8, .int (nI (k + 1)))]) hx hb dX8_ageing_181 hl (by decide) rfl (fun ls hl => ?_)
                      refine lv_iinc (v := nI (k + 1 + 1)) (lv' := [(8, .int (nI (k + 1 + 1))), (7, .int ((mAg g q.toInt.toNat z (k)).2.2.2)), (6, .int ((mAg g q.toInt.toNat z (k)).2.2.1)), (5, .int (((mAg g q.toInt.toNat z (k)).2.1) &&& (((nI (1)) <<< ((dr (nxs (nxs ((mAg g q.toInt.toNat z (k)).1))) (nI 8)) &&& 31)) ^^^ ((-1))))), (11, .int ((nI (1)) <<< ((dr (nxs (nxs ((mAg g q.toInt.toNat z (k)).1))) (nI 8)) &&& 31))), (10, .int (dr (nxs (nxs ((mAg g q.toInt.toNat z (k)).1))) (nI 8))), (9, .int (dr (nxs ((mAg g q.toInt.toNat z (k)).1)) (nI 2))), (0, .ref (a)), (1, .int (q)), (2, .int (y)), (3, .int (z)), (4, .int (x))]) hx hb dX8_ageing_183 hl (k := 11) rfl (nI_1 _) (by decide) rfl (fun ls hl => ?_)
                      refine lv_goto (tgt := 80) hx hb dX8_ageing_186 (by decide) ?_
                      have e1_5 : (((mAg g q.toInt.toNat z (k)).2.1) &&& (((nI (1)) <<< ((dr (nxs (nxs ((mAg g q.toInt.toNat z (k)).1))) (nI 8)) &&& 31)) ^^^ ((-1)))) = (mAg g q.toInt.toNat z ((k + 1))).2.1 := by simp only [mAg, mAgG, if_pos c_1, if_pos c_2, if_neg c_3, if_pos c_4, if_neg c_5, if_neg c_8, if_pos c_20, if_neg c_26, if_pos c_27, if_pos c_28]
                      have e1_6 : ((mAg g q.toInt.toNat z (k)).2.2.1) = (mAg g q.toInt.toNat z ((k + 1))).2.2.1 := by simp only [mAg, mAgG, if_pos c_1, if_pos c_2, if_neg c_3, if_pos c_4, if_neg c_5, if_neg c_8, if_pos c_20, if_neg c_26, if_pos c_27, if_pos c_28]
                      have e1_7 : ((mAg g q.toInt.toNat z (k)).2.2.2) = (mAg g q.toInt.toNat z ((k + 1))).2.2.2 := by simp only [mAg, mAgG, if_pos c_1, if_pos c_2, if_neg c_3, if_pos c_4, if_neg c_5, if_neg c_8, if_pos c_20, if_neg c_26, if_pos c_27, if_pos c_28]
                      have e2_0 : nxs (nxs ((mAg g q.toInt.toNat z (k)).1)) = (mAg g q.toInt.toNat z (k + 1)).1 := by rfl
                      have hP : va_P (dC, dI) vwCl (mW cI a o (su f 14 ((mAg g q.toInt.toNat z (k + 1)).1)) (g) (h)) H := by rw [← e2_0]; exact hP
                      have hD : va_D A (mW cI a o (su f 14 ((mAg g q.toInt.toNat z (k + 1)).1)) (g) (h)) := by rw [← e2_0]; exact hD
                      exact ih_80 (k + 1) H locs ls (by show _ < _; omega) (by show _; omega) hP hD hS (by show lv_has ls 12 [(0, .ref (a)), (1, .int (q)), (2, .int (y)), (3, .int (z)), (4, .int (x)), (5, .int ((mAg g q.toInt.toNat z ((k + 1))).2.1)), (6, .int ((mAg g q.toInt.toNat z ((k + 1))).2.2.1)), (7, .int ((mAg g q.toInt.toNat z ((k + 1))).2.2.2)), (8, .int (nI ((k + 1) + 1)))]; rw [← e1_5, ← e1_6, ← e1_7]; exact lv_sub hl [7, 8, 9, 10, 11, 3, 2, 1, 0] rfl)
                    · skip
                      have c_28 := b2i_0 c_28
                      refine lv_iload hx hb dX8_ageing_174 (lv_at hl 11 rfl) ?_
                      refine lv_goto (tgt := 181) hx hb dX8_ageing_176 (by decide) ?_
                      refine lv_istore (lv' := [(7, .int (nI (k + 1))), (6, .int ((mAg g q.toInt.toNat z (k)).2.2.1)), (5, .int (((mAg g q.toInt.toNat z (k)).2.1) &&& (((nI (1)) <<< ((dr (nxs (nxs ((mAg g q.toInt.toNat z (k)).1))) (nI 8)) &&& 31)) ^^^ ((-1))))), (11, .int ((nI (1)) <<< ((dr (nxs (nxs ((mAg g q.toInt.toNat z (k)).1))) (nI 8)) &&& 31))), (10, .int (dr (nxs (nxs ((mAg g q.toInt.toNat z (k)).1))) (nI 8))), (9, .int (dr (nxs ((mAg g q.toInt.toNat z (k)).1)) (nI 2))), (0, .ref (a)), (1, .int (q)), (2, .int (y)), (3, .int (z)), (4, .int (x)), (8, .int (nI (k + 1)))]) hx hb dX8_ageing_181 hl (by decide) rfl (fun ls hl => ?_)
                      refine lv_iinc (v := nI (k + 1 + 1)) (lv' := [(8, .int (nI (k + 1 + 1))), (7, .int (nI (k + 1))), (6, .int ((mAg g q.toInt.toNat z (k)).2.2.1)), (5, .int (((mAg g q.toInt.toNat z (k)).2.1) &&& (((nI (1)) <<< ((dr (nxs (nxs ((mAg g q.toInt.toNat z (k)).1))) (nI 8)) &&& 31)) ^^^ ((-1))))), (11, .int ((nI (1)) <<< ((dr (nxs (nxs ((mAg g q.toInt.toNat z (k)).1))) (nI 8)) &&& 31))), (10, .int (dr (nxs (nxs ((mAg g q.toInt.toNat z (k)).1))) (nI 8))), (9, .int (dr (nxs ((mAg g q.toInt.toNat z (k)).1)) (nI 2))), (0, .ref (a)), (1, .int (q)), (2, .int (y)), (3, .int (z)), (4, .int (x))]) hx hb dX8_ageing_183 hl (k := 11) rfl (nI_1 _) (by decide) rfl (fun ls hl => ?_)
                      refine lv_goto (tgt := 80) hx hb dX8_ageing_186 (by decide) ?_
                      have e1_5 : (((mAg g q.toInt.toNat z (k)).2.1) &&& (((nI (1)) <<< ((dr (nxs (nxs ((mAg g q.toInt.toNat z (k)).1))) (nI 8)) &&& 31)) ^^^ ((-1)))) = (mAg g q.toInt.toNat z ((k + 1))).2.1 := by simp only [mAg, mAgG, if_pos c_1, if_pos c_2, if_neg c_3, if_pos c_4, if_neg c_5, if_neg c_8, if_pos c_20, if_neg c_26, if_pos c_27, if_neg c_28]
                      have e1_6 : ((mAg g q.toInt.toNat z (k)).2.2.1) = (mAg g q.toInt.toNat z ((k + 1))).2.2.1 := by simp only [mAg, mAgG, if_pos c_1, if_pos c_2, if_neg c_3, if_pos c_4, if_neg c_5, if_neg c_8, if_pos c_20, if_neg c_26, if_pos c_27, if_neg c_28]
                      have e1_7 : (nI (k + 1)) = (mAg g q.toInt.toNat z ((k + 1))).2.2.2 := by simp only [mAg, mAgG, if_pos c_1, if_pos c_2, if_neg c_3, if_pos c_4, if_neg c_5, if_neg c_8, if_pos c_20, if_neg c_26, if_pos c_27, if_neg c_28]
                      have e2_0 : nxs (nxs ((mAg g q.toInt.toNat z (k)).1)) = (mAg g q.toInt.toNat z (k + 1)).1 := by rfl
                      have hP : va_P (dC, dI) vwCl (mW cI a o (su f 14 ((mAg g q.toInt.toNat z (k + 1)).1)) (g) (h)) H := by rw [← e2_0]; exact hP
                      have hD : va_D A (mW cI a o (su f 14 ((mAg g q.toInt.toNat z (k + 1)).1)) (g) (h)) := by rw [← e2_0]; exact hD
                      exact ih_80 (k + 1) H locs ls (by show _ < _; omega) (by show _; omega) hP hD hS (by show lv_has ls 12 [(0, .ref (a)), (1, .int (q)), (2, .int (y)), (3, .int (z)), (4, .int (x)), (5, .int ((mAg g q.toInt.toNat z ((k + 1))).2.1)), (6, .int ((mAg g q.toInt.toNat z ((k + 1))).2.2.1)), (7, .int ((mAg g q.toInt.toNat z ((k + 1))).2.2.2)), (8, .int (nI ((k + 1) + 1)))]; rw [← e1_5, ← e1_6, ← e1_7]; exact lv_sub hl [7, 8, 9, 10, 11, 3, 2, 1, 0] rfl)
                · skip
                  refine lv_iload hx hb dX8_ageing_142 (lv_at hl 9 rfl) ?_
                  refine lv_iload hx hb dX8_ageing_144 (lv_at hl 1 rfl) ?_
                  refine lv_iconst (v := (-1)) hx hb dX8_ageing_146 (by decide +kernel) ?_
                  refine lv_ixor hx hb dX8_ageing_147 ?_
                  refine lv_iand hx hb dX8_ageing_148 ?_
                  refine lv_goto (tgt := 154) hx hb dX8_ageing_149 (by decide) ?_
                  refine lv_istore (lv' := [(6, .int (((mAg g q.toInt.toNat z (k)).2.2.1) &&& (((nI (1)) <<< ((dr (nxs (nxs ((mAg g q.toInt.toNat z (k)).1))) (nI 8)) &&& 31)) ^^^ ((-1))))), (5, .int (((mAg g q.toInt.toNat z (k)).2.1) &&& (((nI (1)) <<< ((dr (nxs (nxs ((mAg g q.toInt.toNat z (k)).1))) (nI 8)) &&& 31)) ^^^ ((-1))))), (11, .int ((nI (1)) <<< ((dr (nxs (nxs ((mAg g q.toInt.toNat z (k)).1))) (nI 8)) &&& 31))), (10, .int (dr (nxs (nxs ((mAg g q.toInt.toNat z (k)).1))) (nI 8))), (9, .int (dr (nxs ((mAg g q.toInt.toNat z (k)).1)) (nI 2))), (0, .ref (a)), (1, .int (q)), (2, .int (y)), (3, .int (z)), (4, .int (x)), (7, .int ((mAg g q.toInt.toNat z (k)).2.2.2)), (8, .int (nI (k + 1)))]) hx hb dX8_ageing_154 hl (by decide) rfl (fun ls hl => ?_)
                  refine lv_iload hx hb dX8_ageing_156 (lv_at hl 10 rfl) ?_
                  refine lv_iconst (v := (-1)) hx hb dX8_ageing_158 (by decide +kernel) ?_
                  refine lv_icmp_ne (tgt := 179) hx hb dX8_ageing_159 (by decide) (fun c_29 => ?_) (fun c_29 => ?_)
                  · skip
                    refine lv_iload hx hb dX8_ageing_179 (lv_at hl 10 rfl) ?_
                    refine lv_istore (lv' := [(7, .int ((mAg g q.toInt.toNat z (k)).2.2.2)), (6, .int (((mAg g q.toInt.toNat z (k)).2.2.1) &&& (((nI (1)) <<< ((dr (nxs (nxs ((mAg g q.toInt.toNat z (k)).1))) (nI 8)) &&& 31)) ^^^ ((-1))))), (5, .int (((mAg g q.toInt.toNat z (k)).2.1) &&& (((nI (1)) <<< ((dr (nxs (nxs ((mAg g q.toInt.toNat z (k)).1))) (nI 8)) &&& 31)) ^^^ ((-1))))), (11, .int ((nI (1)) <<< ((dr (nxs (nxs ((mAg g q.toInt.toNat z (k)).1))) (nI 8)) &&& 31))), (10, .int (dr (nxs (nxs ((mAg g q.toInt.toNat z (k)).1))) (nI 8))), (9, .int (dr (nxs ((mAg g q.toInt.toNat z (k)).1)) (nI 2))), (0, .ref (a)), (1, .int (q)), (2, .int (y)), (3, .int (z)), (4, .int (x)), (8, .int (nI (k + 1)))]) hx hb dX8_ageing_181 hl (by decide) rfl (fun ls hl => ?_)
                    refine lv_iinc (v := nI (k + 1 + 1)) (lv' := [(8, .int (nI (k + 1 + 1))), (7, .int ((mAg g q.toInt.toNat z (k)).2.2.2)), (6, .int (((mAg g q.toInt.toNat z (k)).2.2.1) &&& (((nI (1)) <<< ((dr (nxs (nxs ((mAg g q.toInt.toNat z (k)).1))) (nI 8)) &&& 31)) ^^^ ((-1))))), (5, .int (((mAg g q.toInt.toNat z (k)).2.1) &&& (((nI (1)) <<< ((dr (nxs (nxs ((mAg g q.toInt.toNat z (k)).1))) (nI 8)) &&& 31)) ^^^ ((-1))))), (11, .int ((nI (1)) <<< ((dr (nxs (nxs ((mAg g q.toInt.toNat z (k)).1))) (nI 8)) &&& 31))), (10, .int (dr (nxs (nxs ((mAg g q.toInt.toNat z (k)).1))) (nI 8))), (9, .int (dr (nxs ((mAg g q.toInt.toNat z (k)).1)) (nI 2))), (0, .ref (a)), (1, .int (q)), (2, .int (y)), (3, .int (z)), (4, .int (x))]) hx hb dX8_ageing_183 hl (k := 11) rfl (nI_1 _) (by decide) rfl (fun ls hl => ?_)
                    refine lv_goto (tgt := 80) hx hb dX8_ageing_186 (by decide) ?_
                    have e1_5 : (((mAg g q.toInt.toNat z (k)).2.1) &&& (((nI (1)) <<< ((dr (nxs (nxs ((mAg g q.toInt.toNat z (k)).1))) (nI 8)) &&& 31)) ^^^ ((-1)))) = (mAg g q.toInt.toNat z ((k + 1))).2.1 := by simp only [mAg, mAgG, if_pos c_1, if_pos c_2, if_neg c_3, if_pos c_4, if_neg c_5, if_neg c_8, if_pos c_20, if_pos c_26, if_neg c_29]
                    have e1_6 : (((mAg g q.toInt.toNat z (k)).2.2.1) &&& (((nI (1)) <<< ((dr (nxs (nxs ((mAg g q.toInt.toNat z (k)).1))) (nI 8)) &&& 31)) ^^^ ((-1)))) = (mAg g q.toInt.toNat z ((k + 1))).2.2.1 := by simp only [mAg, mAgG, if_pos c_1, if_pos c_2, if_neg c_3, if_pos c_4, if_neg c_5, if_neg c_8, if_pos c_20, if_pos c_26, if_neg c_29]
                    have e1_7 : ((mAg g q.toInt.toNat z (k)).2.2.2) = (mAg g q.toInt.toNat z ((k + 1))).2.2.2 := by simp only [mAg, mAgG, if_pos c_1, if_pos c_2, if_neg c_3, if_pos c_4, if_neg c_5, if_neg c_8, if_pos c_20, if_pos c_26, if_neg c_29]
                    have e2_0 : nxs (nxs ((mAg g q.toInt.toNat z (k)).1)) = (mAg g q.toInt.toNat z (k + 1)).1 := by rfl
                    have hP : va_P (dC, dI) vwCl (mW cI a o (su f 14 ((mAg g q.toInt.toNat z (k + 1)).1)) (g) (h)) H := by rw [← e2_0]; exact hP
                    have hD : va_D A (mW cI a o (su f 14 ((mAg g q.toInt.toNat z (k + 1)).1)) (g) (h)) := by rw [← e2_0]; exact hD
                    exact ih_80 (k + 1) H locs ls (by show _ < _; omega) (by show _; omega) hP hD hS (by show lv_has ls 12 [(0, .ref (a)), (1, .int (q)), (2, .int (y)), (3, .int (z)), (4, .int (x)), (5, .int ((mAg g q.toInt.toNat z ((k + 1))).2.1)), (6, .int ((mAg g q.toInt.toNat z ((k + 1))).2.2.1)), (7, .int ((mAg g q.toInt.toNat z ((k + 1))).2.2.2)), (8, .int (nI ((k + 1) + 1)))]; rw [← e1_5, ← e1_6, ← e1_7]; exact lv_sub hl [7, 8, 9, 10, 11, 3, 2, 1, 0] rfl)
                  · skip
                    refine lv_aload_n hx hb dX8_ageing_162 rfl (lv_at hl 5 rfl) ?_
                    refine lv_iload_n hx hb dX8_ageing_163 rfl (lv_at hl 6 rfl) ?_
                    refine tv (ix_int (by omega)) ?_
                    refine lv_iload hx hb dX8_ageing_164 (lv_at hl 1 rfl) ?_
                    refine lv_iload hx hb dX8_ageing_166 (lv_at hl 0 rfl) ?_
                    refine vp_callSi (va_Run.run (va_runV (As := [.int (nI (q.toInt.toNat)), .int (((mAg g q.toInt.toNat z (k)).2.1) &&& (((nI (1)) <<< ((dr (nxs (nxs ((mAg g q.toInt.toNat z (k)).1))) (nI 8)) &&& 31)) ^^^ ((-1)))), .int (((mAg g q.toInt.toNat z (k)).2.2.1) &&& (((nI (1)) <<< ((dr (nxs (nxs ((mAg g q.toInt.toNat z (k)).1))) (nI 8)) &&& 31)) ^^^ ((-1))))]) (rest := []) ⟨hx, hb, hml, hown, hts⟩ (c8_readsAlike l dC dI cI a o (su f 14 (nxs (nxs ((mAg g q.toInt.toNat z (k)).1)))) (g) (h)  (((mAg g q.toInt.toNat z (k)).2.1) &&& (((nI (1)) <<< ((dr (nxs (nxs ((mAg g q.toInt.toNat z (k)).1))) (nI 8)) &&& 31)) ^^^ ((-1)))) (((mAg g q.toInt.toNat z (k)).2.2.1) &&& (((nI (1)) <<< ((dr (nxs (nxs ((mAg g q.toInt.toNat z (k)).1))) (nI 8)) &&& 31)) ^^^ ((-1)))) (q.toInt.toNat) (by omega)) (cwV 3 hts gX8_ageing_X8_readsAlike rfl rfl rfl (by decide +kernel) ⟨Nat.le_of_ble_eq_true rfl, Nat.le_of_ble_eq_true rfl⟩) ⟨fun a U g mk q => ⟨q.1, q.2.1, va_K.moved (u := U) (U := U.calling g mk a) (Vm.Alike.refl U.vm) q.2.2⟩, va_recv hK hP (ci := 8) (q0 := 0) rfl rfl, fun U hU hW => ⟨rfl, by rw [hU]; exact hP, va_K.moved hW.alike hK⟩⟩ rfl rfl hl.1 rfl (lv_room (Nat.le_of_ble_eq_true rfl)) dX8_ageing_168 ⟨Nat.le_of_ble_eq_true rfl, Nat.le_of_ble_eq_true rfl⟩)) (fun r hrc => ?_)
                    have hrc : r = b2i (mLike (g) (q.toInt.toNat) (((mAg g q.toInt.toNat z (k)).2.1) &&& (((nI (1)) <<< ((dr (nxs (nxs ((mAg g q.toInt.toNat z (k)).1))) (nI 8)) &&& 31)) ^^^ ((-1)))) (((mAg g q.toInt.toNat z (k)).2.2.1) &&& (((nI (1)) <<< ((dr (nxs (nxs ((mAg g q.toInt.toNat z (k)).1))) (nI 8)) &&& 31)) ^^^ ((-1)))) = true) := hrc
                    subst hrc
                    refine lv_if_ne (tgt := 179) hx hb dX8_ageing_171 (by decide) (fun c_30 => ?_) (fun c_30 => ?_)
                    · skip
                      have c_30 := b2i_1 c_30
                      refine lv_iload hx hb dX8_ageing_179 (lv_at hl 10 rfl) ?_
                      refine lv_istore (lv' := [(7, .int ((mAg g q.toInt.toNat z (k)).2.2.2)), (6, .int (((mAg g q.toInt.toNat z (k)).2.2.1) &&& (((nI (1)) <<< ((dr (nxs (nxs ((mAg g q.toInt.toNat z (k)).1))) (nI 8)) &&& 31)) ^^^ ((-1))))), (5, .int (((mAg g q.toInt.toNat z (k)).2.1) &&& (((nI (1)) <<< ((dr (nxs (nxs ((mAg g q.toInt.toNat z (k)).1))) (nI 8)) &&& 31)) ^^^ ((-1))))), (11, .int ((nI (1)) <<< ((dr (nxs (nxs ((mAg g q.toInt.toNat z (k)).1))) (nI 8)) &&& 31))), (10, .int (dr (nxs (nxs ((mAg g q.toInt.toNat z (k)).1))) (nI 8))), (9, .int (dr (nxs ((mAg g q.toInt.toNat z (k)).1)) (nI 2))), (0, .ref (a)), (1, .int (q)), (2, .int (y)), (3, .int (z)), (4, .int (x)), (8, .int (nI (k + 1)))]) hx hb dX8_ageing_181 hl (by decide) rfl (fun ls hl => ?_)
                      refine lv_iinc (v := nI (k + 1 + 1)) (lv' := [(8, .int (nI (k + 1 + 1))), (7, .int ((mAg g q.toInt.toNat z (k)).2.2.2)), (6, .int (((mAg g q.toInt.toNat z (k)).2.2.1) &&& (((nI (1)) <<< ((dr (nxs (nxs ((mAg g q.toInt.toNat z (k)).1))) (nI 8)) &&& 31)) ^^^ ((-1))))), (5, .int (((mAg g q.toInt.toNat z (k)).2.1) &&& (((nI (1)) <<< ((dr (nxs (nxs ((mAg g q.toInt.toNat z (k)).1))) (nI 8)) &&& 31)) ^^^ ((-1))))), (11, .int ((nI (1)) <<< ((dr (nxs (nxs ((mAg g q.toInt.toNat z (k)).1))) (nI 8)) &&& 31))), (10, .int (dr (nxs (nxs ((mAg g q.toInt.toNat z (k)).1))) (nI 8))), (9, .int (dr (nxs ((mAg g q.toInt.toNat z (k)).1)) (nI 2))), (0, .ref (a)), (1, .int (q)), (2, .int (y)), (3, .int (z)), (4, .int (x))]) hx hb dX8_ageing_183 hl (k := 11) rfl (nI_1 _) (by decide) rfl (fun ls hl => ?_)
                      refine lv_goto (tgt := 80) hx hb dX8_ageing_186 (by decide) ?_
                      have e1_5 : (((mAg g q.toInt.toNat z (k)).2.1) &&& (((nI (1)) <<< ((dr (nxs (nxs ((mAg g q.toInt.toNat z (k)).1))) (nI 8)) &&& 31)) ^^^ ((-1)))) = (mAg g q.toInt.toNat z ((k + 1))).2.1 := by simp only [mAg, mAgG, if_pos c_1, if_pos c_2, if_neg c_3, if_pos c_4, if_neg c_5, if_neg c_8, if_pos c_20, if_pos c_26, if_pos c_29, if_pos c_30]
                      have e1_6 : (((mAg g q.toInt.toNat z (k)).2.2.1) &&& (((nI (1)) <<< ((dr (nxs (nxs ((mAg g q.toInt.toNat z (k)).1))) (nI 8)) &&& 31)) ^^^ ((-1)))) = (mAg g q.toInt.toNat z ((k + 1))).2.2.1 := by simp only [mAg, mAgG, if_pos c_1, if_pos c_2, if_neg c_3, if_pos c_4, if_neg c_5, if_neg c_8, if_pos c_20, if_pos c_26, if_pos c_29, if_pos c_30]
                      have e1_7 : ((mAg g q.toInt.toNat z (k)).2.2.2) = (mAg g q.toInt.toNat z ((k + 1))).2.2.2 := by simp only [mAg, mAgG, if_pos c_1, if_pos c_2, if_neg c_3, if_pos c_4, if_neg c_5, if_neg c_8, if_pos c_20, if_pos c_26, if_pos c_29, if_pos c_30]
                      have e2_0 : nxs (nxs ((mAg g q.toInt.toNat z (k)).1)) = (mAg g q.toInt.toNat z (k + 1)).1 := by rfl
                      have hP : va_P (dC, dI) vwCl (mW cI a o (su f 14 ((mAg g q.toInt.toNat z (k + 1)).1)) (g) (h)) H := by rw [← e2_0]; exact hP
                      have hD : va_D A (mW cI a o (su f 14 ((mAg g q.toInt.toNat z (k + 1)).1)) (g) (h)) := by rw [← e2_0]; exact hD
                      exact ih_80 (k + 1) H locs ls (by show _ < _; omega) (by show _; omega) hP hD hS (by show lv_has ls 12 [(0, .ref (a)), (1, .int (q)), (2, .int (y)), (3, .int (z)), (4, .int (x)), (5, .int ((mAg g q.toInt.toNat z ((k + 1))).2.1)), (6, .int ((mAg g q.toInt.toNat z ((k + 1))).2.2.1)), (7, .int ((mAg g q.toInt.toNat z ((k + 1))).2.2.2)), (8, .int (nI ((k + 1) + 1)))]; rw [← e1_5, ← e1_6, ← e1_7]; exact lv_sub hl [7, 8, 9, 10, 11, 3, 2, 1, 0] rfl)
                    · skip
                      have c_30 := b2i_0 c_30
                      refine lv_iload hx hb dX8_ageing_174 (lv_at hl 11 rfl) ?_
                      refine lv_goto (tgt := 181) hx hb dX8_ageing_176 (by decide) ?_
                      refine lv_istore (lv' := [(7, .int (nI (k + 1))), (6, .int (((mAg g q.toInt.toNat z (k)).2.2.1) &&& (((nI (1)) <<< ((dr (nxs (nxs ((mAg g q.toInt.toNat z (k)).1))) (nI 8)) &&& 31)) ^^^ ((-1))))), (5, .int (((mAg g q.toInt.toNat z (k)).2.1) &&& (((nI (1)) <<< ((dr (nxs (nxs ((mAg g q.toInt.toNat z (k)).1))) (nI 8)) &&& 31)) ^^^ ((-1))))), (11, .int ((nI (1)) <<< ((dr (nxs (nxs ((mAg g q.toInt.toNat z (k)).1))) (nI 8)) &&& 31))), (10, .int (dr (nxs (nxs ((mAg g q.toInt.toNat z (k)).1))) (nI 8))), (9, .int (dr (nxs ((mAg g q.toInt.toNat z (k)).1)) (nI 2))), (0, .ref (a)), (1, .int (q)), (2, .int (y)), (3, .int (z)), (4, .int (x)), (8, .int (nI (k + 1)))]) hx hb dX8_ageing_181 hl (by decide) rfl (fun ls hl => ?_)
                      refine lv_iinc (v := nI (k + 1 + 1)) (lv' := [(8, .int (nI (k + 1 + 1))), (7, .int (nI (k + 1))), (6, .int (((mAg g q.toInt.toNat z (k)).2.2.1) &&& (((nI (1)) <<< ((dr (nxs (nxs ((mAg g q.toInt.toNat z (k)).1))) (nI 8)) &&& 31)) ^^^ ((-1))))), (5, .int (((mAg g q.toInt.toNat z (k)).2.1) &&& (((nI (1)) <<< ((dr (nxs (nxs ((mAg g q.toInt.toNat z (k)).1))) (nI 8)) &&& 31)) ^^^ ((-1))))), (11, .int ((nI (1)) <<< ((dr (nxs (nxs ((mAg g q.toInt.toNat z (k)).1))) (nI 8)) &&& 31))), (10, .int (dr (nxs (nxs ((mAg g q.toInt.toNat z (k)).1))) (nI 8))), (9, .int (dr (nxs ((mAg g q.toInt.toNat z (k)).1)) (nI 2))), (0, .ref (a)), (1, .int (q)), (2, .int (y)), (3, .int (z)), (4, .int (x))]) hx hb dX8_ageing_183 hl (k := 11) rfl (nI_1 _) (by decide) rfl (fun ls hl => ?_)
                      refine lv_goto (tgt := 80) hx hb dX8_ageing_186 (by decide) ?_
                      have e1_5 : (((mAg g q.toInt.toNat z (k)).2.1) &&& (((nI (1)) <<< ((dr (nxs (nxs ((mAg g q.toInt.toNat z (k)).1))) (nI 8)) &&& 31)) ^^^ ((-1)))) = (mAg g q.toInt.toNat z ((k + 1))).2.1 := by simp only [mAg, mAgG, if_pos c_1, if_pos c_2, if_neg c_3, if_pos c_4, if_neg c_5, if_neg c_8, if_pos c_20, if_pos c_26, if_pos c_29, if_neg c_30]
                      have e1_6 : (((mAg g q.toInt.toNat z (k)).2.2.1) &&& (((nI (1)) <<< ((dr (nxs (nxs ((mAg g q.toInt.toNat z (k)).1))) (nI 8)) &&& 31)) ^^^ ((-1)))) = (mAg g q.toInt.toNat z ((k + 1))).2.2.1 := by simp only [mAg, mAgG, if_pos c_1, if_pos c_2, if_neg c_3, if_pos c_4, if_neg c_5, if_neg c_8, if_pos c_20, if_pos c_26, if_pos c_29, if_neg c_30]
                      have e1_7 : (nI (k + 1)) = (mAg g q.toInt.toNat z ((k + 1))).2.2.2 := by simp only [mAg, mAgG, if_pos c_1, if_pos c_2, if_neg c_3, if_pos c_4, if_neg c_5, if_neg c_8, if_pos c_20, if_pos c_26, if_pos c_29, if_neg c_30]
                      have e2_0 : nxs (nxs ((mAg g q.toInt.toNat z (k)).1)) = (mAg g q.toInt.toNat z (k + 1)).1 := by rfl
                      have hP : va_P (dC, dI) vwCl (mW cI a o (su f 14 ((mAg g q.toInt.toNat z (k + 1)).1)) (g) (h)) H := by rw [← e2_0]; exact hP
                      have hD : va_D A (mW cI a o (su f 14 ((mAg g q.toInt.toNat z (k + 1)).1)) (g) (h)) := by rw [← e2_0]; exact hD
                      exact ih_80 (k + 1) H locs ls (by show _ < _; omega) (by show _; omega) hP hD hS (by show lv_has ls 12 [(0, .ref (a)), (1, .int (q)), (2, .int (y)), (3, .int (z)), (4, .int (x)), (5, .int ((mAg g q.toInt.toNat z ((k + 1))).2.1)), (6, .int ((mAg g q.toInt.toNat z ((k + 1))).2.2.1)), (7, .int ((mAg g q.toInt.toNat z ((k + 1))).2.2.2)), (8, .int (nI ((k + 1) + 1)))]; rw [← e1_5, ← e1_6, ← e1_7]; exact lv_sub hl [7, 8, 9, 10, 11, 3, 2, 1, 0] rfl)
        · skip
          have c_4 := b2i_0 c_4
          refine lv_bipush (v := (-102)) hx hb dX8_ageing_40 (by decide +kernel) ?_
          have hP9 : va_P (dC, dI) vwCl (mW cI a o (f) (g) (h)) H := hP
          exact W.iret (v := (-102)) hx hb hr (fun t ht hW => ⟨⟨(-102), (f, g, h), rfl, (by show (((-102), (f, g, h)) : _ × MSt) = mAgeing f g h k6 q y z x; first | (simp only [mAgeing, if_pos c_1, if_pos c_2, if_neg c_3, if_neg c_4]; done) | (simp only [mAgeing, if_pos c_1, if_pos c_2, if_neg c_3, if_neg c_4]; rfl) | rfl | (simp [mAgeing, if_pos c_1, if_pos c_2, if_neg c_3, if_neg c_4]; done)), by rw [ht]; exact hP9, va_K.moved hW.alike hK, hD⟩, hS.F ht⟩) hS.2.2 dX8_ageing_42
  · skip
    have c_1 := b2i_0 c_1
    refine lv_bipush (v := (-101)) hx hb dX8_ageing_8 (by decide +kernel) ?_
    have hP9 : va_P (dC, dI) vwCl (mW cI a o (f) (g) (h)) H := hP
    exact W.iret (v := (-101)) hx hb hr (fun t ht hW => ⟨⟨(-101), (f, g, h), rfl, (by show (((-101), (f, g, h)) : _ × MSt) = mAgeing f g h k6 q y z x; first | (simp only [mAgeing, if_neg c_1]; done) | (simp only [mAgeing, if_neg c_1]; rfl) | rfl | (simp [mAgeing, if_neg c_1]; done)), by rw [ht]; exact hP9, va_K.moved hW.alike hK, hD⟩, hS.F ht⟩) hS.2.2 dX8_ageing_10
