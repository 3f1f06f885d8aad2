def xCf (g : Nat → Nat → Int32) (d q : Nat) : Bool := xFit g d (q / 64) (nI (q / 8 % 8)) (nI (q % 8))
def xWhT (tv : Nat → Nat → Int32) : Nat → Nat → Nat → Int32
  | 0 => tv
  | k + 1 => xCa (xWhT tv k) (319 - k)
def xWhN (g : Nat → Nat → Int32) (d : Nat) : Nat → Int32
  | 0 => nI 0
  | k + 1 => if xCf g d (319 - k) = true then xWhN g d k + 1 else xWhN g d k
def xWhL (g : Nat → Nat → Int32) (d : Nat) : Nat → Int32
  | 0 => (-1)
  | k + 1 => if xCf g d (319 - k) = true then nI (319 - k) else xWhL g d k
def xWho (f : Nat → Int32) (g : Nat → Nat → Int32) (pa : Nat → Option Nat) (tv : Nat → Nat → Int32) (n : Nat) (pd pk : Nat → Nat) (pv : Nat → Nat → Int32) (d u : Nat) (x : Int32) : Int32 × XSt := if x.toInt < 0 then ((-102), f, g, pa, tv, n, pd, pk, pv) else if x.toInt ≤ ((1 : Nat) : Int) then (if u < 60 then (if x = nI 0 then xWhN g d 320 else xWhL g d 320, su f 11 (nI (u + 1)), g, pa, xWhT tv 320, n, pd, pk, pv) else ((-103), f, g, pa, tv, n, pd, pk, pv)) else ((-102), f, g, pa, tv, n, pd, pk, pv)
def xUpT (tv : Nat → Nat → Int32) : Nat → Nat → Nat → Int32
  | 0 => tv
  | k + 1 => xCa (xUpT tv k) k
/-- the place in the table of sayings for hue j, and what candidate q says of it -/
def xPl (q j : Nat) : Nat := 8 * j + (see (nI (q / 64)) (nI (q / 8 % 8)) (nI (q % 8)) (nI j)).toInt.toNat
def xSy1 (r : Nat → Int32) (q : Nat) : Nat → Nat → Int32
  | 0 => r
  | j + 1 => su (xSy1 r q j) (xPl q j) (xSy1 r q j (xPl q j) + nI 1)
def xSy (g : Nat → Nat → Int32) (d : Nat) (r : Nat → Int32) : Nat → Nat → Int32
  | 0 => r
  | k + 1 => if xCf g d k = true then xSy1 (xSy g d r k) k 8 else xSy g d r k
def xCy (g : Nat → Nat → Int32) (d : Nat) : Nat → Int32
  | 0 => nI 0
  | k + 1 => if xCf g d k = true then xCy g d k + 1 else xCy g d k
set_option maxHeartbeats 1200000 in
set_option maxRecDepth 100000 in
theorem c7_who (l : Launch) (dC : Nat → ClassId) (dI : Nat → Nat → Nat) (cI cP : ClassId) (a : Nat) (o : Nat → Nat) (f : Nat → Int32) (g : Nat → Nat → Int32) (pa : Nat → Option Nat) (tv : Nat → Nat → Int32) (n : Nat) (pd pk : Nat → Nat) (pv : Nat → Nat → Int32) (sz : Nat) {k17 : Nat} (e17 : f 17 = nI k17) (b17 : k17 ≤ 8) {k11 : Nat} (e11 : f 11 = nI k11) (b11 : k11 ≤ 60) (x : Int32) : Met l yX7_who wsX7_who ({ frames := 3, cells := 0, slots := 0, locals := 65 } : Room) (va_Pc [.ref (a), .int (x)] (fun U => U.heap.size = sz ∧ va_P (dC, dI) vwCl (xW cI cP a o f g pa tv n pd pk pv) U.heap ∧ va_K (dC, dI) vwCl [(cI, .int), (cP, .object RX4)] U ∧ xN U ∧ va_D (fun _ => True) (xW cI cP a o f g pa tv n pd pk pv))) (va_Qi (fun (r : Int32) (u : XSt) => (r, u) = xWho f g pa tv n pd pk pv k17 k11 x) (xB dC dI cI cP a o (va_A (xW cI cP a o f g pa tv n pd pk pv) sz)) (va_A (xW cI cP a o f g pa tv n pd pk pv) sz)) 0 0 (va_A (xW cI cP a o f g pa tv n pd pk pv) sz) := by
  refine Met.ofW (cc := cX7_who) (maxL := 5) (ret := (some .int)) (by decide) rfl ?_
  intro p_ e_ s m args below meth c_0 s₁ B hml hv
  obtain ⟨rfl, hsz, hP, hK, hN, hD0⟩ := hv
  have hx := B.exec
  have hb := B.bytes
  have hr := B.returns
  have hts := atoms_spec (ws := wsX7_who) B.pre
  have hown : s.vm.findClass RX7 = some m.cls := findClass_of_methodNamed B.named
  have hlocks := B.notSynchronized
  subst hsz
  have hD := hD0.self (sz := s.heap.size)
  generalize hAe : va_A (xW cI cP a o f g pa tv n pd pk pv) s.heap.size = A at hD ⊢
  have hA : ∀ q : Nat, s.heap.size ≤ q → A q := fun q h => by rw [← hAe]; exact Or.inr h
  obtain ⟨H, hHe⟩ : ∃ H : Heap, H = s.heap := ⟨_, rfl⟩
  have hS : va_S A s.heap H [] := by rw [hHe]; exact va_S.rf
  rw [← hHe] at hP ⊢
  have hP : va_P (dC, dI) vwCl (xW cI cP a o f g pa tv n pd pk pv) H := hP
  have hl := lv_entry ([.ref (a), .int (x)]) (n := 5) (Nat.le_of_ble_eq_true rfl)
  rw [lg_entry_eq]
  generalize (lg_sl ([.ref (a), .int (x)]) ++ List.replicate (5 - (lg_sl ([.ref (a), .int (x)])).length) Slot.unset).toArray = ls at hl ⊢
  have hl : lv_has ls 5 [(0, .ref (a)), (1, .int (x))] := hl
  have hin7 : ∀ w ∈ wsX70, w ∈ wsX7_who := fun _ h => List.mem_cons_of_mem _ (List.mem_append_left _ (List.mem_append_left _ (List.mem_append_left _ (List.mem_append_left _ (List.mem_append_left _ (List.mem_append_left _ (List.mem_append_right _ h)))))))
  have hW0 := hts (.fieldLink RX7 148 "EachEye" "questionsDone" "I") (by decide +kernel)
  have hW1 := hts (.fieldLink RX7 29 "EachEye" "cards" "LEachEye$Cards;") (by decide +kernel)
  refine lv_iload_n hx hb dX7_who_0 rfl (lv_at hl 1 rfl) ?_
  refine lv_if_lt (tgt := 9) hx hb dX7_who_1 (by decide) (fun c_1 => ?_) (fun c_1 => ?_)
  · skip
    rw [lti, show (0 : Int32).toInt = 0 from rfl] at c_1
    refine lv_bipush (v := (-102)) hx hb dX7_who_9 (by decide +kernel) ?_
    have hP9 : va_P (dC, dI) vwCl (xW cI cP a o f g pa tv n pd pk pv) H := hP
    exact W.iret (v := (-102)) hx hb hr (fun t ht hW => ⟨⟨(-102), (f, g, pa, tv, n, pd, pk, pv), rfl, (by show (((-102), (f, g, pa, tv, n, pd, pk, pv)) : _ × XSt) = xWho f g pa tv n pd pk pv k17 k11 x; first | (simp only [xWho, if_pos c_1]; done) | (simp only [xWho, if_pos c_1]; rfl) | rfl | (simp [xWho, if_pos c_1]; done)), by rw [ht]; exact hP9, va_K.moved hW.alike hK, hD⟩, hS.F ht⟩) hS.2.2 dX7_who_11
  · skip
    rw [lti, show (0 : Int32).toInt = 0 from rfl] at c_1
    refine lv_iload_n hx hb dX7_who_4 rfl (lv_at hl 1 rfl) ?_
    refine lv_iconst (v := nI (1)) hx hb dX7_who_5 (by decide +kernel) ?_
    refine lv_icmp_le (tgt := 12) hx hb dX7_who_6 (by decide) (fun c_2 => ?_) (fun c_2 => ?_)
    · skip
      rw [lei, tn (n := 1) (by omega)] at c_2
      refine lv_aload_n hx hb dX7_who_12 rfl (lv_at hl 0 rfl) ?_
      refine va_get (D := (dC, dI)) (ci := 7) (v := .int (nI (k11))) (C := RX7) (T := TX7) (N := 16) hx hb hts hin7 hown hK hP 0 rfl rfl 11 (by decide) hW0 (fun _ h9 => h9) (congrArg (fun z => some (Value.int z)) e11) dX7_who_13 ?_
      refine lv_bipush (v := nI (60)) hx hb dX7_who_16 (by decide +kernel) ?_
      refine lv_icmp_lt (tgt := 24) hx hb dX7_who_18 (by decide) (fun c_3 => ?_) (fun c_3 => ?_)
      · skip
        rw [nI_ltI (a := k11) (b := 60) (by omega) (by omega)] at c_3
        refine lv_aload_n hx hb dX7_who_24 rfl (lv_at hl 0 rfl) ?_
        refine lv_dup hx hb dX7_who_25 rfl ?_
        refine va_get (D := (dC, dI)) (ci := 7) (v := .int (nI (k11))) (C := RX7) (T := TX7) (N := 16) hx hb hts hin7 hown hK hP 0 rfl rfl 11 (by decide) hW0 (fun _ h9 => h9) (congrArg (fun z => some (Value.int z)) e11) dX7_who_26 ?_
        refine lv_iconst (v := nI (1)) hx hb dX7_who_29 (by decide +kernel) ?_
        refine lv_iadd hx hb dX7_who_30 ?_
        refine tq (nI_add (k11) (1)) ?_
        refine va_put (D := (dC, dI)) (ci := 7) (v := .int (nI (k11 + 1))) (ty := .int) (C := RX7) (T := TX7) (N := 16) hx hb hts hin7 tyX7 tyX7_ok nmX7 hown hK hP hD hS 0 rfl rfl 11 (by decide) hW0 (fun _ h9 => h9) rfl (by decide +kernel) rfl rfl (Nat.le_of_ble_eq_true rfl) dX7_who_31 (fun H locs hP hD hS => ?_)
        have hP : va_P (dC, dI) vwCl (xW cI cP a o (su f 11 (nI (k11 + 1))) g pa tv n pd pk pv) H := hP
        have hD : va_D A (xW cI cP a o (su f 11 (nI (k11 + 1))) g pa tv n pd pk pv) := hD
        refine lv_iconst (v := nI (0)) hx hb dX7_who_34 (by decide +kernel) ?_
        refine lv_istore_n (lv' := [(2, .int (nI (0))), (0, .ref (a)), (1, .int (x))]) hx hb dX7_who_35 rfl hl (by decide) rfl (fun ls hl => ?_)
        refine lv_iconst (v := (-1)) hx hb dX7_who_36 (by decide +kernel) ?_
        refine lv_istore_n (lv' := [(3, .int ((-1))), (2, .int (nI (0))), (0, .ref (a)), (1, .int (x))]) hx hb dX7_who_37 rfl hl (by decide) rfl (fun ls hl => ?_)
        refine lv_sipush (v := nI (319)) hx hb dX7_who_38 (by decide +kernel) ?_
        refine lv_istore (lv' := [(4, .int (nI (319))), (3, .int ((-1))), (2, .int (nI (0))), (0, .ref (a)), (1, .int (x))]) hx hb dX7_who_41 hl (by decide) rfl (fun ls hl => ?_)
        have e0_2 : (nI (0)) = xWhN g k17 0 := rfl
        have e0_3 : ((-1)) = xWhL g k17 0 := rfl
        have e0_4 : (nI (319)) = nI (319) - nI (0) := (by decide +kernel)
        have hP0 : va_P (dC, dI) vwCl (xW cI cP a o (su f 11 (nI (k11 + 1))) g pa (xWhT tv 0) n pd pk pv) H := by rw [xWhT]; exact hP
        have hD0 : va_D A (xW cI cP a o (su f 11 (nI (k11 + 1))) g pa (xWhT tv 0) n pd pk pv) := by rw [xWhT]; exact hD
        refine lp_rw (fun j : Nat => 320 - j) (fun j : Nat => j ≤ 320) (fun j : Nat => [(0, .ref (a)), (1, .int (x)), (2, .int (xWhN g k17 j)), (3, .int (xWhL g k17 j)), (4, .int (nI (319) - nI (j)))]) (fun j : Nat => xW cI cP a o (su f 11 (nI (k11 + 1))) g pa (xWhT tv j) n pd pk pv) (0) (by omega) hP0 hD0 hS (by show lv_has ls 5 [(0, .ref (a)), (1, .int (x)), (2, .int (xWhN g k17 0)), (3, .int (xWhL g k17 0)), (4, .int (nI (319) - nI (0)))]; rw [← e0_2, ← e0_3, ← e0_4]; exact lv_sub hl [3, 4, 2, 1, 0] rfl) (fun j hI ih_43 H locs ls hP hD hS hl => ?_)
        have hP : va_P (dC, dI) vwCl (xW cI cP a o (su f 11 (nI (k11 + 1))) g pa (xWhT tv j) n pd pk pv) H := hP
        have hD : va_D A (xW cI cP a o (su f 11 (nI (k11 + 1))) g pa (xWhT tv j) n pd pk pv) := hD
        have hI : j ≤ 320 := hI
        have hl : lv_has ls 5 [(0, .ref (a)), (1, .int (x)), (2, .int (xWhN g k17 j)), (3, .int (xWhL g k17 j)), (4, .int (nI (319) - nI (j)))] := hl
        refine lv_iload hx hb dX7_who_43 (lv_at hl 4 rfl) ?_
        refine lv_if_lt (tgt := 76) hx hb dX7_who_45 (by decide) (fun c_4 => ?_) (fun c_4 => ?_)
        · skip
          rw [lti, show (0 : Int32).toInt = 0 from rfl] at c_4
          have hE : 320 = j := dn_t (by omega) c_4
          subst hE
          refine lv_iload_n hx hb dX7_who_76 rfl (lv_at hl 1 rfl) ?_
          refine lv_if_ne (tgt := 84) hx hb dX7_who_77 (by decide) (fun c_5 => ?_) (fun c_5 => ?_)
          · skip
            have c_5 : ¬ (x) = nI 0 := c_5
            refine lv_iload_n hx hb dX7_who_84 rfl (lv_at hl 3 rfl) ?_
            have hP9 : va_P (dC, dI) vwCl (xW cI cP a o (su f 11 (nI (k11 + 1))) g pa (xWhT tv 320) n pd pk pv) H := hP
            exact W.iret (v := xWhL g k17 320) hx hb hr (fun t ht hW => ⟨⟨xWhL g k17 320, (su f 11 (nI (k11 + 1)), g, pa, xWhT tv 320, n, pd, pk, pv), rfl, (by show ((xWhL g k17 320, (su f 11 (nI (k11 + 1)), g, pa, xWhT tv 320, n, pd, pk, pv)) : _ × XSt) = xWho f g pa tv n pd pk pv k17 k11 x; first | (simp only [xWho, if_neg c_1, if_pos c_2, if_pos c_3, if_pos c_4, if_neg c_5]; done) | (simp only [xWho, if_neg c_1, if_pos c_2, if_pos c_3, if_pos c_4, if_neg c_5]; rfl) | rfl | (simp [xWho, if_neg c_1, if_pos c_2, if_pos c_3, if_pos c_4, if_neg c_5]; done)), by rw [ht]; exact hP9, va_K.moved hW.alike hK, hD⟩, hS.F ht⟩) hS.2.2 dX7_who_85
          · skip
            have c_5 : (x) = nI 0 := c_5
            refine lv_iload_n hx hb dX7_who_80 rfl (lv_at hl 2 rfl) ?_
            refine lv_goto (tgt := 85) hx hb dX7_who_81 (by decide) ?_
            have hP9 : va_P (dC, dI) vwCl (xW cI cP a o (su f 11 (nI (k11 + 1))) g pa (xWhT tv 320) n pd pk pv) H := hP
            exact W.iret (v := xWhN g k17 320) hx hb hr (fun t ht hW => ⟨⟨xWhN g k17 320, (su f 11 (nI (k11 + 1)), g, pa, xWhT tv 320, n, pd, pk, pv), rfl, (by show ((xWhN g k17 320, (su f 11 (nI (k11 + 1)), g, pa, xWhT tv 320, n, pd, pk, pv)) : _ × XSt) = xWho f g pa tv n pd pk pv k17 k11 x; first | (simp only [xWho, if_neg c_1, if_pos c_2, if_pos c_3, if_pos c_4, if_pos c_5]; done) | (simp only [xWho, if_neg c_1, if_pos c_2, if_pos c_3, if_pos c_4, if_pos c_5]; rfl) | rfl | (simp [xWho, if_neg c_1, if_pos c_2, if_pos c_3, if_pos c_4, if_pos c_5]; done)), by rw [ht]; exact hP9, va_K.moved hW.alike hK, hD⟩, hS.F ht⟩) hS.2.2 dX7_who_85
        · skip
          rw [lti, show (0 : Int32).toInt = 0 from rfl] at c_4
          have hI : j ≤ 319 := dn_f (by omega) c_4
          refine lv_aload_n hx hb dX7_who_48 rfl (lv_at hl 0 rfl) ?_
          refine va_get (D := (dC, dI)) (ci := 7) (v := .ref (o 3)) (C := RX7) (T := TX7) (N := 16) hx hb hts hin7 hown hK hP 0 rfl rfl 3 (by decide) hW1 (fun _ h9 => h9) rfl dX7_who_49 ?_
          refine lv_aload_n hx hb dX7_who_52 rfl (lv_at hl 0 rfl) ?_
          refine lv_iload hx hb dX7_who_53 (lv_at hl 4 rfl) ?_
          refine tq (pk_sub (a := 319) (b := j) (by omega)) ?_
          have hFc : ∀ q, va_A (xW cI cP a o (su f 11 (nI (k11 + 1))) g pa (xWhT tv j) n pd pk pv) H.size q → A q := fun q h => h.elim (fun ⟨j, e, hj⟩ => hD.2 j (q, e) hj) (fun h => hA q (Nat.le_trans hS.1 h))
          refine va_callr (va_runV (As := [.int (nI (319 - j))]) (rest := [.ref (o 3)]) ⟨hx, hb, hml, hown, hts⟩ (c7_candidate l dC dI cI cP a o (su f 11 (nI (k11 + 1))) g pa (xWhT tv j) n pd pk pv H.size   (319 - j) (by omega)) (cwV 1 hts gX7_who_X7_candidate rfl rfl rfl (by decide +kernel) ⟨Nat.le_of_ble_eq_true rfl, Nat.le_of_ble_eq_true rfl⟩) ⟨fun a U g mk q => by obtain ⟨q0, q1, qP, qK, qN, qD⟩ := q; exact ⟨q0, q1, qP, va_K.moved (u := U) (U := U.calling g mk a) (Vm.Alike.refl U.vm) qK, xN.same (u := U) (U := U.calling g mk a) rfl qN, qD⟩, va_recv hK hP (ci := 7) (q0 := 0) rfl rfl, fun U hU hW => ⟨rfl, by rw [hU], by rw [hU]; exact hP, va_K.moved hW.alike hK, xN.warm hW hN, hD.weaken (fun _ _ _ _ => trivial)⟩⟩ rfl rfl hl.1 rfl (lv_room (Nat.le_of_ble_eq_true rfl)) dX7_who_55 ⟨Nat.le_of_ble_eq_true rfl, Nat.le_of_ble_eq_true rfl⟩) hS (fun q _ h => hFc q h) hFc (fun u ra t H1 locs ht hvm hw hB hz1 hk1 hS => ?_)
          have hw : u = ((su f 11 (nI (k11 + 1)), g, pa, xCa (xWhT tv j) (319 - j), n, pd, pk, pv) : XSt) := hw
          subst hw
          obtain ⟨hra, hP1, hK1, hD1⟩ := hB
          rw [ht] at hP1
          have hra : ra = o (11 + (319 - j) / 64) := hra
          subst hra
          have hP : va_P (dC, dI) vwCl (xW cI cP a o (su f 11 (nI (k11 + 1))) g pa (xCa (xWhT tv j) (319 - j)) n pd pk pv) H1 := hP1
          have hD : va_D A (xW cI cP a o (su f 11 (nI (k11 + 1))) g pa (xCa (xWhT tv j) (319 - j)) n pd pk pv) := hD1.weaken (fun _ _ _ h => hFc _ h)
          clear hP1 hD1 hK1 hFc hk1 hz1
          generalize H1 = H at hP hS ⊢
          have hP : va_P (dC, dI) vwCl (xW cI cP a o (su f 11 (nI (k11 + 1))) g pa (xCa (xWhT tv j) (319 - j)) n pd pk pv) H := hP
          have hD : va_D A (xW cI cP a o (su f 11 (nI (k11 + 1))) g pa (xCa (xWhT tv j) (319 - j)) n pd pk pv) := hD
          refine vp_callSi (va_Run.run (va_runV (As := [.ref (o (11 + (319 - j) / 64))]) (rest := []) ⟨hx, hb, hml, hown, hts⟩ (c1_fit l dC dI cI cP a o (su f 11 (nI (k11 + 1))) g pa (xCa (xWhT tv j) (319 - j)) n pd pk pv e17 (by omega)  (12 + ((319 - j) / 64)) (o (11 + (319 - j) / 64)) (by omega) ((su (su ((xWhT tv j) ((319 - j) / 64)) 0 (nI ((319 - j) / 8 % 8))) 1 (nI ((319 - j) % 8)))) (xw_tq (by omega) (su_s _ _ _))) (cwV 1 hts gX7_who_X1_fit rfl rfl rfl (by decide +kernel) ⟨Nat.le_of_ble_eq_true rfl, Nat.le_of_ble_eq_true rfl⟩) ⟨fun a U g mk q => ⟨q.1, q.2.1, va_K.moved (u := U) (U := U.calling g mk a) (Vm.Alike.refl U.vm) q.2.2.1, xN.same (u := U) (U := U.calling g mk a) rfl q.2.2.2⟩, va_recv hK hP (ci := 1) (q0 := 5) rfl rfl, fun U hU hW => ⟨rfl, by rw [hU]; exact hP, va_K.moved hW.alike hK, xN.warm hW hN⟩⟩ rfl rfl hl.1 rfl (lv_room (Nat.le_of_ble_eq_true rfl)) dX7_who_58 ⟨Nat.le_of_ble_eq_true rfl, Nat.le_of_ble_eq_true rfl⟩)) (fun r hrc => ?_)
          have hrc : r = b2i (xFit (g) (k17) ((319 - j) / 64) ((su (su ((xWhT tv j) ((319 - j) / 64)) 0 (nI ((319 - j) / 8 % 8))) 1 (nI ((319 - j) % 8))) 0) ((su (su ((xWhT tv j) ((319 - j) / 64)) 0 (nI ((319 - j) / 8 % 8))) 1 (nI ((319 - j) % 8))) 1) = true) := hrc
          subst hrc
          refine lv_if_eq (tgt := 70) hx hb dX7_who_61 (by decide) (fun c_6 => ?_) (fun c_6 => ?_)
          · skip
            have c_6 := b2i_0 c_6
            refine lv_iinc (v := nI (319) - nI (j) + (-1)) (lv' := [(4, .int (nI (319) - nI (j) + (-1))), (0, .ref (a)), (1, .int (x)), (2, .int (xWhN g k17 j)), (3, .int (xWhL g k17 j))]) hx hb dX7_who_70 hl (k := 4) rfl rfl (by decide) rfl (fun ls hl => ?_)
            refine lv_goto (tgt := 43) hx hb dX7_who_73 (by decide) ?_
            have e1_2 : (xWhN g k17 j) = xWhN g k17 (j + 1) := by rw [xWhN]; first | (rw [if_pos (show xCf g k17 (319 - j) = true from c_6)]; done) | (rw [if_neg (show ¬ xCf g k17 (319 - j) = true from c_6)]; done)
            have e1_3 : (xWhL g k17 j) = xWhL g k17 (j + 1) := by rw [xWhL]; first | (rw [if_pos (show xCf g k17 (319 - j) = true from c_6)]; done) | (rw [if_neg (show ¬ xCf g k17 (319 - j) = true from c_6)]; done)
            have e1_4 : (nI (319) - nI (j) + (-1)) = nI (319) - nI ((j + 1)) := by exact dn319 j
            have e2_0 : xCa (xWhT tv j) (319 - j) = xWhT tv (j + 1) := by rfl
            have hP : va_P (dC, dI) vwCl (xW cI cP a o (su f 11 (nI (k11 + 1))) g pa (xWhT tv (j + 1)) n pd pk pv) H := by rw [← e2_0]; exact hP
            have hD : va_D A (xW cI cP a o (su f 11 (nI (k11 + 1))) g pa (xWhT tv (j + 1)) n pd pk pv) := by rw [← e2_0]; exact hD
            exact ih_43 (j + 1) H locs ls (by show _ < _; omega) (by show _; omega) hP hD hS (by show lv_has ls 5 [(0, .ref (a)), (1, .int (x)), (2, .int (xWhN g k17 (j + 1))), (3, .int (xWhL g k17 (j + 1))), (4, .int (nI (319) - nI ((j + 1))))]; rw [← e1_2, ← e1_3, ← e1_4]; exact lv_sub hl [1, 2, 3, 4, 0] rfl)
          · skip
            have c_6 := b2i_1 c_6
            refine lv_iinc (v := xWhN g k17 j + 1) (lv' := [(2, .int (xWhN g k17 j + 1)), (0, .ref (a)), (1, .int (x)), (3, .int (xWhL g k17 j)), (4, .int (nI (319) - nI (j)))]) hx hb dX7_who_64 hl (k := 2) rfl rfl (by decide) rfl (fun ls hl => ?_)
            refine lv_iload hx hb dX7_who_67 (lv_at hl 4 rfl) ?_
            refine tq (pk_sub (a := 319) (b := j) (by omega)) ?_
            refine lv_istore_n (lv' := [(3, .int (nI (319 - j))), (2, .int (xWhN g k17 j + 1)), (0, .ref (a)), (1, .int (x)), (4, .int (nI (319) - nI (j)))]) hx hb dX7_who_69 rfl hl (by decide) rfl (fun ls hl => ?_)
            refine lv_iinc (v := nI (319) - nI (j) + (-1)) (lv' := [(4, .int (nI (319) - nI (j) + (-1))), (3, .int (nI (319 - j))), (2, .int (xWhN g k17 j + 1)), (0, .ref (a)), (1, .int (x))]) hx hb dX7_who_70 hl (k := 4) rfl rfl (by decide) rfl (fun ls hl => ?_)
            refine lv_goto (tgt := 43) hx hb dX7_who_73 (by decide) ?_
            have e1_2 : (xWhN g k17 j + 1) = xWhN g k17 (j + 1) := by rw [xWhN]; first | (rw [if_pos (show xCf g k17 (319 - j) = true from c_6)]; done) | (rw [if_neg (show ¬ xCf g k17 (319 - j) = true from c_6)]; done)
            have e1_3 : (nI (319 - j)) = xWhL g k17 (j + 1) := by rw [xWhL]; first | (rw [if_pos (show xCf g k17 (319 - j) = true from c_6)]; done) | (rw [if_neg (show ¬ xCf g k17 (319 - j) = true from c_6)]; done)
            have e1_4 : (nI (319) - nI (j) + (-1)) = nI (319) - nI ((j + 1)) := by exact dn319 j
            have e2_0 : xCa (xWhT tv j) (319 - j) = xWhT tv (j + 1) := by rfl
            have hP : va_P (dC, dI) vwCl (xW cI cP a o (su f 11 (nI (k11 + 1))) g pa (xWhT tv (j + 1)) n pd pk pv) H := by rw [← e2_0]; exact hP
            have hD : va_D A (xW cI cP a o (su f 11 (nI (k11 + 1))) g pa (xWhT tv (j + 1)) n pd pk pv) := by rw [← e2_0]; exact hD
            exact ih_43 (j + 1) H locs ls (by show _ < _; omega) (by show _; omega) hP hD hS (by show lv_has ls 5 [(0, .ref (a)), (1, .int (x)), (2, .int (xWhN g k17 (j + 1))), (3, .int (xWhL g k17 (j + 1))), (4, .int (nI (319) - nI ((j + 1))))]; rw [← e1_2, ← e1_3, ← e1_4]; exact lv_sub hl [3, 4, 2, 1, 0] rfl)
      · skip
        rw [nI_ltI (a := k11) (b := 60) (by omega) (by omega)] at c_3
        refine lv_bipush (v := (-103)) hx hb dX7_who_21 (by decide +kernel) ?_
        have hP9 : va_P (dC, dI) vwCl (xW cI cP a o f g pa tv n pd pk pv) H := hP
        exact W.iret (v := (-103)) hx hb hr (fun t ht hW => ⟨⟨(-103), (f, g, pa, tv, n, pd, pk, pv), rfl, (by show (((-103), (f, g, pa, tv, n, pd, pk, pv)) : _ × XSt) = xWho f g pa tv n pd pk pv k17 k11 x; first | (simp only [xWho, if_neg c_1, if_pos c_2, if_neg c_3]; done) | (simp only [xWho, if_neg c_1, if_pos c_2, if_neg c_3]; rfl) | rfl | (simp [xWho, if_neg c_1, if_pos c_2, if_neg c_3]; done)), by rw [ht]; exact hP9, va_K.moved hW.alike hK, hD⟩, hS.F ht⟩) hS.2.2 dX7_who_23
    · skip
      rw [lei, tn (n := 1) (by omega)] at c_2
      refine lv_bipush (v := (-102)) hx hb dX7_who_9 (by decide +kernel) ?_
      have hP9 : va_P (dC, dI) vwCl (xW cI cP a o f g pa tv n pd pk pv) H := hP
      exact W.iret (v := (-102)) hx hb hr (fun t ht hW => ⟨⟨(-102), (f, g, pa, tv, n, pd, pk, pv), rfl, (by show (((-102), (f, g, pa, tv, n, pd, pk, pv)) : _ × XSt) = xWho f g pa tv n pd pk pv k17 k11 x; first | (simp only [xWho, if_neg c_1, if_neg c_2]; done) | (simp only [xWho, if_neg c_1, if_neg c_2]; rfl) | rfl | (simp [xWho, if_neg c_1, if_neg c_2]; done)), by rw [ht]; exact hP9, va_K.moved hW.alike hK, hD⟩, hS.F ht⟩) hS.2.2 dX7_who_11

theorem xPl_e (q j : Nat) (hj : j < 8) (hq : q < 320) : nI (8 * j) + see (nI (q / 64)) (nI (q / 8 % 8)) (nI (q % 8)) (nI j) = nI (xPl q j) := by
  have h : ∀ a, a < 5 → ∀ b, b < 8 → ∀ c, c < 8 → ∀ j, j < 8 → nI (8 * j) + see (nI a) (nI b) (nI c) (nI j) = nI (8 * j + (see (nI a) (nI b) (nI c) (nI j)).toInt.toNat) := by decide +kernel
  exact h _ (by omega) _ (Nat.mod_lt _ (by decide)) _ (Nat.mod_lt _ (by decide)) _ hj
theorem xPl_b (q j : Nat) (hj : j < 8) (hq : q < 320) : xPl q j < 64 := by
  have h : ∀ a, a < 5 → ∀ b, b < 8 → ∀ c, c < 8 → ∀ j, j < 8 → 8 * j + (see (nI a) (nI b) (nI c) (nI j)).toInt.toNat < 64 := by decide +kernel
  exact h _ (by omega) _ (Nat.mod_lt _ (by decide)) _ (Nat.mod_lt _ (by decide)) _ hj
theorem xSe_b (q j : Nat) (hj : j < 8) (hq : q < 320) : 0 ≤ (see (nI (q / 64)) (nI (q / 8 % 8)) (nI (q % 8)) (nI j)).toInt ∧ (see (nI (q / 64)) (nI (q / 8 % 8)) (nI (q % 8)) (nI j)).toInt ≤ 7 := by
  have h : ∀ a, a < 5 → ∀ b, b < 8 → ∀ c, c < 8 → ∀ j, j < 8 → 0 ≤ (see (nI a) (nI b) (nI c) (nI j)).toInt ∧ (see (nI a) (nI b) (nI c) (nI j)).toInt ≤ 7 := by decide +kernel
  exact h _ (by omega) _ (Nat.mod_lt _ (by decide)) _ (Nat.mod_lt _ (by decide)) _ hj
set_option maxHeartbeats 1200000 in
set_option maxRecDepth 100000 in
theorem c7_countSayings (l : Launch) (dC : Nat → ClassId) (dI : Nat → Nat → Nat) (cI cP : ClassId) (a : Nat) (o : Nat → Nat) (f : Nat → Int32) (g : Nat → Nat → Int32) (pa : Nat → Option Nat) (tv : Nat → Nat → Int32) (n : Nat) (pd pk : Nat → Nat) (pv : Nat → Nat → Int32) (sz : Nat) {k17 : Nat} (e17 : f 17 = nI k17) (b17 : k17 ≤ 8) : Met l yX7_countSayings wsX7_countSayings ({ frames := 3, cells := 0, slots := 0, locals := 65 } : Room) (va_Pc [.ref (a)] (fun U => U.heap.size = sz ∧ va_P (dC, dI) vwCl (xW cI cP a o f g pa tv n pd pk pv) U.heap ∧ va_K (dC, dI) vwCl [(cI, .int), (cP, .object RX4)] U ∧ xN U ∧ va_D (fun _ => True) (xW cI cP a o f g pa tv n pd pk pv))) (va_Qi (fun (r : Int32) (u : XSt) => (r, u) = (xCy g k17 320, f, su g 6 (xSy g k17 (fil (g 6) (fun _ => nI 0) 64) 320), pa, xUpT tv 320, n, pd, pk, pv)) (xB dC dI cI cP a o (va_A (xW cI cP a o f g pa tv n pd pk pv) sz)) (va_A (xW cI cP a o f g pa tv n pd pk pv) sz)) 0 0 (va_A (xW cI cP a o f g pa tv n pd pk pv) sz) := by
  refine Met.ofW (cc := cX7_countSayings) (maxL := 6) (ret := (some .int)) (by decide) rfl ?_
  intro p_ e_ s m args below meth c_0 s₁ B hml hv
  obtain ⟨rfl, hsz, hP, hK, hN, hD0⟩ := hv
  have hx := B.exec
  have hb := B.bytes
  have hr := B.returns
  have hts := atoms_spec (ws := wsX7_countSayings) B.pre
  have hown : s.vm.findClass RX7 = some m.cls := findClass_of_methodNamed B.named
  have hlocks := B.notSynchronized
  subst hsz
  have hD := hD0.self (sz := s.heap.size)
  generalize hAe : va_A (xW cI cP a o f g pa tv n pd pk pv) s.heap.size = A at hD ⊢
  have hA : ∀ q : Nat, s.heap.size ≤ q → A q := fun q h => by rw [← hAe]; exact Or.inr h
  obtain ⟨H, hHe⟩ : ∃ H : Heap, H = s.heap := ⟨_, rfl⟩
  have hS : va_S A s.heap H [] := by rw [hHe]; exact va_S.rf
  rw [← hHe] at hP ⊢
  have hP : va_P (dC, dI) vwCl (xW cI cP a o f g pa tv n pd pk pv) H := hP
  have hl := lv_entry ([.ref (a)]) (n := 6) (Nat.le_of_ble_eq_true rfl)
  rw [lg_entry_eq]
  generalize (lg_sl ([.ref (a)]) ++ List.replicate (6 - (lg_sl ([.ref (a)])).length) Slot.unset).toArray = ls at hl ⊢
  have hl : lv_has ls 6 [(0, .ref (a))] := hl
  have hin7 : ∀ w ∈ wsX70, w ∈ wsX7_countSayings := fun _ h => List.mem_cons_of_mem _ (List.mem_append_left _ (List.mem_append_left _ (List.mem_append_left _ (List.mem_append_left _ (List.mem_append_left _ (List.mem_append_left _ (List.mem_append_right _ h)))))))
  have hW0 := hts (.fieldLink RX7 29 "EachEye" "cards" "LEachEye$Cards;") (by decide +kernel)
  have hW1 := hts (.fieldLink RX7 36 "EachEye" "sayings" "[I") (by decide +kernel)
  refine lv_iconst (v := nI (0)) hx hb dX7_countSayings_0 (by decide +kernel) ?_
  refine lv_istore_n (lv' := [(1, .int (nI (0))), (0, .ref (a))]) hx hb dX7_countSayings_1 rfl hl (by decide) rfl (fun ls hl => ?_)
  have hP0 : va_P (dC, dI) vwCl (xW cI cP a o f (su g 6 (fil (g 6) (fun _ => nI 0) 0)) pa tv n pd pk pv) H := by rw [fil_0, su_id]; exact hP
  have hD0 : va_D A (xW cI cP a o f (su g 6 (fil (g 6) (fun _ => nI 0) 0)) pa tv n pd pk pv) := by rw [fil_0, su_id]; exact hD
  refine lp_rw (fun i : Nat => 64 - i) (fun i : Nat => i ≤ 64) (fun i : Nat => [(0, .ref (a)), (1, .int (nI (i)))]) (fun i : Nat => xW cI cP a o f (su g 6 (fil (g 6) (fun _ => nI 0) i)) pa tv n pd pk pv) (0) (by omega) hP0 hD0 hS (by show lv_has ls 6 [(0, .ref (a)), (1, .int (nI (0)))]; exact lv_sub hl [1, 0] rfl) (fun i hI ih_2 H locs ls hP hD hS hl => ?_)
  have hP : va_P (dC, dI) vwCl (xW cI cP a o f (su g 6 (fil (g 6) (fun _ => nI 0) i)) pa tv n pd pk pv) H := hP
  have hD : va_D A (xW cI cP a o f (su g 6 (fil (g 6) (fun _ => nI 0) i)) pa tv n pd pk pv) := hD
  have hI : i ≤ 64 := hI
  have hl : lv_has ls 6 [(0, .ref (a)), (1, .int (nI (i)))] := hl
  refine lv_iload_n hx hb dX7_countSayings_2 rfl (lv_at hl 1 rfl) ?_
  refine lv_bipush (v := nI (64)) hx hb dX7_countSayings_3 (by decide +kernel) ?_
  refine lv_icmp_ge (tgt := 21) hx hb dX7_countSayings_5 (by decide) (fun c_1 => ?_) (fun c_1 => ?_)
  · skip
    rw [nI_leI (a := 64) (b := i) (by omega) (by omega)] at c_1
    have hE : 64 = i := by omega
    subst hE
    refine lv_iconst (v := nI (0)) hx hb dX7_countSayings_21 (by decide +kernel) ?_
    refine lv_istore_n (lv' := [(1, .int (nI (0))), (0, .ref (a))]) hx hb dX7_countSayings_22 rfl hl (by decide) rfl (fun ls hl => ?_)
    refine lv_iconst (v := nI (0)) hx hb dX7_countSayings_23 (by decide +kernel) ?_
    refine lv_istore_n (lv' := [(2, .int (nI (0))), (1, .int (nI (0))), (0, .ref (a))]) hx hb dX7_countSayings_24 rfl hl (by decide) rfl (fun ls hl => ?_)
    have e0_1 : (nI (0)) = xCy g k17 0 := rfl
    have hP0 : va_P (dC, dI) vwCl (xW cI cP a o f (su g 6 (xSy g k17 (fil (g 6) (fun _ => nI 0) 64) 0)) pa (xUpT tv 0) n pd pk pv) H := by rw [xSy, xUpT]; exact hP
    have hD0 : va_D A (xW cI cP a o f (su g 6 (xSy g k17 (fil (g 6) (fun _ => nI 0) 64) 0)) pa (xUpT tv 0) n pd pk pv) := by rw [xSy, xUpT]; exact hD
    refine lp_rw (fun i : Nat => 320 - i) (fun i : Nat => i ≤ 320) (fun i : Nat => [(0, .ref (a)), (1, .int (xCy g k17 i)), (2, .int (nI (i)))]) (fun i : Nat => xW cI cP a o f (su g 6 (xSy g k17 (fil (g 6) (fun _ => nI 0) 64) i)) pa (xUpT tv i) n pd pk pv) (0) (by omega) hP0 hD0 hS (by show lv_has ls 6 [(0, .ref (a)), (1, .int (xCy g k17 0)), (2, .int (nI (0)))]; rw [← e0_1]; exact lv_sub hl [2, 1, 0] rfl) (fun i hI ih_25 H locs ls hP hD hS hl => ?_)
    have hP : va_P (dC, dI) vwCl (xW cI cP a o f (su g 6 (xSy g k17 (fil (g 6) (fun _ => nI 0) 64) i)) pa (xUpT tv i) n pd pk pv) H := hP
    have hD : va_D A (xW cI cP a o f (su g 6 (xSy g k17 (fil (g 6) (fun _ => nI 0) 64) i)) pa (xUpT tv i) n pd pk pv) := hD
    have hI : i ≤ 320 := hI
    have hl : lv_has ls 6 [(0, .ref (a)), (1, .int (xCy g k17 i)), (2, .int (nI (i)))] := hl
    have hO : i ≤ 320 := hI
    refine lv_iload_n hx hb dX7_countSayings_25 rfl (lv_at hl 2 rfl) ?_
    refine lv_sipush (v := nI (320)) hx hb dX7_countSayings_26 (by decide +kernel) ?_
    refine lv_icmp_ge (tgt := 107) hx hb dX7_countSayings_29 (by decide) (fun c_2 => ?_) (fun c_2 => ?_)
    · skip
      rw [nI_leI (a := 320) (b := i) (by omega) (by omega)] at c_2
      have hE : 320 = i := by omega
      subst hE
      refine lv_iload_n hx hb dX7_countSayings_107 rfl (lv_at hl 1 rfl) ?_
      have hP9 : va_P (dC, dI) vwCl (xW cI cP a o f (su g 6 (xSy g k17 (fil (g 6) (fun _ => nI 0) 64) 320)) pa (xUpT tv 320) n pd pk pv) H := hP
      exact W.iret (v := xCy g k17 320) hx hb hr (fun t ht hW => ⟨⟨xCy g k17 320, (f, su g 6 (xSy g k17 (fil (g 6) (fun _ => nI 0) 64) 320), pa, xUpT tv 320, n, pd, pk, pv), rfl, (by show ((xCy g k17 320, (f, su g 6 (xSy g k17 (fil (g 6) (fun _ => nI 0) 64) 320), pa, xUpT tv 320, n, pd, pk, pv)) : _ × XSt) = (xCy g k17 320, f, su g 6 (xSy g k17 (fil (g 6) (fun _ => nI 0) 64) 320), pa, xUpT tv 320, n, pd, pk, pv); rfl), by rw [ht]; exact hP9, va_K.moved hW.alike hK, hD⟩, hS.F ht⟩) hS.2.2 dX7_countSayings_108
    · skip
      rw [nI_leI (a := 320) (b := i) (by omega) (by omega)] at c_2
      refine lv_aload_n hx hb dX7_countSayings_32 rfl (lv_at hl 0 rfl) ?_
      refine lv_iload_n hx hb dX7_countSayings_33 rfl (lv_at hl 2 rfl) ?_
      have hFc : ∀ q, va_A (xW cI cP a o f (su g 6 (xSy g k17 (fil (g 6) (fun _ => nI 0) 64) i)) pa (xUpT tv i) n pd pk pv) H.size q → A q := fun q h => h.elim (fun ⟨j, e, hj⟩ => hD.2 j (q, e) hj) (fun h => hA q (Nat.le_trans hS.1 h))
      refine va_callr (va_runV (As := [.int (nI (i))]) (rest := []) ⟨hx, hb, hml, hown, hts⟩ (c7_candidate l dC dI cI cP a o f (su g 6 (xSy g k17 (fil (g 6) (fun _ => nI 0) 64) i)) pa (xUpT tv i) n pd pk pv H.size   (i) (by omega)) (cwV 1 hts gX7_countSayings_X7_candidate rfl rfl rfl (by decide +kernel) ⟨Nat.le_of_ble_eq_true rfl, Nat.le_of_ble_eq_true rfl⟩) ⟨fun a U g mk q => by obtain ⟨q0, q1, qP, qK, qN, qD⟩ := q; exact ⟨q0, q1, qP, va_K.moved (u := U) (U := U.calling g mk a) (Vm.Alike.refl U.vm) qK, xN.same (u := U) (U := U.calling g mk a) rfl qN, qD⟩, va_recv hK hP (ci := 7) (q0 := 0) rfl rfl, fun U hU hW => ⟨rfl, by rw [hU], by rw [hU]; exact hP, va_K.moved hW.alike hK, xN.warm hW hN, hD.weaken (fun _ _ _ _ => trivial)⟩⟩ rfl rfl hl.1 rfl (lv_room (Nat.le_of_ble_eq_true rfl)) dX7_countSayings_34 ⟨Nat.le_of_ble_eq_true rfl, Nat.le_of_ble_eq_true rfl⟩) hS (fun q _ h => hFc q h) hFc (fun u ra t H1 locs ht hvm hw hB hz1 hk1 hS => ?_)
      have hw : u = ((f, su g 6 (xSy g k17 (fil (g 6) (fun _ => nI 0) 64) i), pa, xCa (xUpT tv i) (i), n, pd, pk, pv) : XSt) := hw
      subst hw
      obtain ⟨hra, hP1, hK1, hD1⟩ := hB
      rw [ht] at hP1
      have hra : ra = o (11 + (i) / 64) := hra
      subst hra
      have hP : va_P (dC, dI) vwCl (xW cI cP a o f (su g 6 (xSy g k17 (fil (g 6) (fun _ => nI 0) 64) i)) pa (xCa (xUpT tv i) (i)) n pd pk pv) H1 := hP1
      have hD : va_D A (xW cI cP a o f (su g 6 (xSy g k17 (fil (g 6) (fun _ => nI 0) 64) i)) pa (xCa (xUpT tv i) (i)) n pd pk pv) := hD1.weaken (fun _ _ _ h => hFc _ h)
      clear hP1 hD1 hK1 hFc hk1 hz1
      generalize H1 = H at hP hS ⊢
      have hP : va_P (dC, dI) vwCl (xW cI cP a o f (su g 6 (xSy g k17 (fil (g 6) (fun _ => nI 0) 64) i)) pa (xCa (xUpT tv i) (i)) n pd pk pv) H := hP
      have hD : va_D A (xW cI cP a o f (su g 6 (xSy g k17 (fil (g 6) (fun _ => nI 0) 64) i)) pa (xCa (xUpT tv i) (i)) n pd pk pv) := hD
      refine lv_astore_n (lv' := [(3, .ref (o (11 + (i) / 64))), (0, .ref (a)), (1, .int (xCy g k17 i)), (2, .int (nI (i)))]) hx hb dX7_countSayings_37 rfl hl (by decide) rfl (fun ls hl => ?_)
      refine lv_aload_n hx hb dX7_countSayings_38 rfl (lv_at hl 1 rfl) ?_
      refine va_get (D := (dC, dI)) (ci := 7) (v := .ref (o 3)) (C := RX7) (T := TX7) (N := 16) hx hb hts hin7 hown hK hP 0 rfl rfl 3 (by decide) hW0 (fun _ h9 => h9) rfl dX7_countSayings_39 ?_
      refine lv_aload_n hx hb dX7_countSayings_42 rfl (lv_at hl 0 rfl) ?_
      refine vp_callSi (va_Run.run (va_runV (As := [.ref (o (11 + (i) / 64))]) (rest := []) ⟨hx, hb, hml, hown, hts⟩ (c1_fit l dC dI cI cP a o f (su g 6 (xSy g k17 (fil (g 6) (fun _ => nI 0) 64) i)) pa (xCa (xUpT tv i) (i)) n pd pk pv e17 (by omega)  (12 + ((i) / 64)) (o (11 + (i) / 64)) (by omega) ((su (su ((xUpT tv i) ((i) / 64)) 0 (nI ((i) / 8 % 8))) 1 (nI ((i) % 8)))) (xw_tq (by omega) (su_s _ _ _))) (cwV 1 hts gX7_countSayings_X1_fit rfl rfl rfl (by decide +kernel) ⟨Nat.le_of_ble_eq_true rfl, Nat.le_of_ble_eq_true rfl⟩) ⟨fun a U g mk q => ⟨q.1, q.2.1, va_K.moved (u := U) (U := U.calling g mk a) (Vm.Alike.refl U.vm) q.2.2.1, xN.same (u := U) (U := U.calling g mk a) rfl q.2.2.2⟩, va_recv hK hP (ci := 1) (q0 := 5) rfl rfl, fun U hU hW => ⟨rfl, by rw [hU]; exact hP, va_K.moved hW.alike hK, xN.warm hW hN⟩⟩ rfl rfl hl.1 rfl (lv_room (Nat.le_of_ble_eq_true rfl)) dX7_countSayings_43 ⟨Nat.le_of_ble_eq_true rfl, Nat.le_of_ble_eq_true rfl⟩)) (fun r hrc => ?_)
      have hrc : r = b2i (xFit (su g 6 (xSy g k17 (fil (g 6) (fun _ => nI 0) 64) i)) (k17) ((i) / 64) ((su (su ((xUpT tv i) ((i) / 64)) 0 (nI ((i) / 8 % 8))) 1 (nI ((i) % 8))) 0) ((su (su ((xUpT tv i) ((i) / 64)) 0 (nI ((i) / 8 % 8))) 1 (nI ((i) % 8))) 1) = true) := hrc
      subst hrc
      refine lv_if_eq (tgt := 101) hx hb dX7_countSayings_46 (by decide) (fun c_3 => ?_) (fun c_3 => ?_)
      · skip
        have c_3 := b2i_0 c_3
        have hF : ¬ xCf g k17 i = true := c_3
        refine lv_iinc (v := nI (i + 1)) (lv' := [(2, .int (nI (i + 1))), (3, .ref (o (11 + (i) / 64))), (0, .ref (a)), (1, .int (xCy g k17 i))]) hx hb dX7_countSayings_101 hl (k := 3) rfl (nI_1 _) (by decide) rfl (fun ls hl => ?_)
        refine lv_goto (tgt := 25) hx hb dX7_countSayings_104 (by decide) ?_
        have e1_1 : (xCy g k17 i) = xCy g k17 (i + 1) := by rw [xCy]; first | rw [if_pos hF] | rw [if_neg hF]
        have e2_0 : xSy g k17 (fil (g 6) (fun _ => nI 0) 64) i = xSy g k17 (fil (g 6) (fun _ => nI 0) 64) (i + 1) := by rw [xSy]; first | rw [if_pos hF] | rw [if_neg hF]
        have e2_1 : xCa (xUpT tv i) (i) = xUpT tv (i + 1) := by rfl
        have hP : va_P (dC, dI) vwCl (xW cI cP a o f (su g 6 (xSy g k17 (fil (g 6) (fun _ => nI 0) 64) (i + 1))) pa (xUpT tv (i + 1)) n pd pk pv) H := by rw [← e2_0, ← e2_1]; exact hP
        have hD : va_D A (xW cI cP a o f (su g 6 (xSy g k17 (fil (g 6) (fun _ => nI 0) 64) (i + 1))) pa (xUpT tv (i + 1)) n pd pk pv) := by rw [← e2_0, ← e2_1]; exact hD
        exact ih_25 (i + 1) H locs ls (by show _ < _; omega) (by show _; omega) hP hD hS (by show lv_has ls 6 [(0, .ref (a)), (1, .int (xCy g k17 (i + 1))), (2, .int (nI ((i + 1))))]; rw [← e1_1]; exact lv_sub hl [2, 3, 0] rfl)
      · skip
        have c_3 := b2i_1 c_3
        have hF : xCf g k17 i = true := c_3
        refine lv_iinc (v := xCy g k17 i + 1) (lv' := [(1, .int (xCy g k17 i + 1)), (3, .ref (o (11 + (i) / 64))), (0, .ref (a)), (2, .int (nI (i)))]) hx hb dX7_countSayings_49 hl (k := 2) rfl rfl (by decide) rfl (fun ls hl => ?_)
        refine lv_iconst (v := nI (0)) hx hb dX7_countSayings_52 (by decide +kernel) ?_
        refine lv_istore (lv' := [(4, .int (nI (0))), (1, .int (xCy g k17 i + 1)), (3, .ref (o (11 + (i) / 64))), (0, .ref (a)), (2, .int (nI (i)))]) hx hb dX7_countSayings_53 hl (by decide) rfl (fun ls hl => ?_)
        have hP0 : va_P (dC, dI) vwCl (xW cI cP a o f (su g 6 (xSy1 (xSy g k17 (fil (g 6) (fun _ => nI 0) 64) i) i 0)) pa (xCa (xUpT tv i) (i)) n pd pk pv) H := by rw [xSy1]; exact hP
        have hD0 : va_D A (xW cI cP a o f (su g 6 (xSy1 (xSy g k17 (fil (g 6) (fun _ => nI 0) 64) i) i 0)) pa (xCa (xUpT tv i) (i)) n pd pk pv) := by rw [xSy1]; exact hD
        refine lp_rw (fun j : Nat => 8 - j) (fun j : Nat => j ≤ 8) (fun j : Nat => [(0, .ref (a)), (1, .int (xCy g k17 i + 1)), (2, .int (nI (i))), (3, .ref (o (11 + (i) / 64))), (4, .int (nI (j)))]) (fun j : Nat => xW cI cP a o f (su g 6 (xSy1 (xSy g k17 (fil (g 6) (fun _ => nI 0) 64) i) i j)) pa (xCa (xUpT tv i) (i)) n pd pk pv) (0) (by omega) hP0 hD0 hS (by show lv_has ls 6 [(0, .ref (a)), (1, .int (xCy g k17 i + 1)), (2, .int (nI (i))), (3, .ref (o (11 + (i) / 64))), (4, .int (nI (0)))]; exact lv_sub hl [3, 1, 4, 2, 0] rfl) (fun j hI ih_55 H locs ls hP hD hS hl => ?_)
        have hP : va_P (dC, dI) vwCl (xW cI cP a o f (su g 6 (xSy1 (xSy g k17 (fil (g 6) (fun _ => nI 0) 64) i) i j)) pa (xCa (xUpT tv i) (i)) n pd pk pv) H := hP
        have hD : va_D A (xW cI cP a o f (su g 6 (xSy1 (xSy g k17 (fil (g 6) (fun _ => nI 0) 64) i) i j)) pa (xCa (xUpT tv i) (i)) n pd pk pv) := hD
        have hI : j ≤ 8 := hI
        have hl : lv_has ls 6 [(0, .ref (a)), (1, .int (xCy g k17 i + 1)), (2, .int (nI (i))), (3, .ref (o (11 + (i) / 64))), (4, .int (nI (j)))] := hl
        refine lv_iload hx hb dX7_countSayings_55 (lv_at hl 4 rfl) ?_
        refine lv_bipush (v := nI (8)) hx hb dX7_countSayings_57 (by decide +kernel) ?_
        refine lv_icmp_ge (tgt := 101) hx hb dX7_countSayings_59 (by decide) (fun c_4 => ?_) (fun c_4 => ?_)
        · skip
          rw [nI_leI (a := 8) (b := j) (by omega) (by omega)] at c_4
          have hE : 8 = j := by omega
          subst hE
          refine lv_iinc (v := nI (i + 1)) (lv' := [(2, .int (nI (i + 1))), (0, .ref (a)), (1, .int (xCy g k17 i + 1)), (3, .ref (o (11 + (i) / 64))), (4, .int (nI (8)))]) hx hb dX7_countSayings_101 hl (k := 2) rfl (nI_1 _) (by decide) rfl (fun ls hl => ?_)
          refine lv_goto (tgt := 25) hx hb dX7_countSayings_104 (by decide) ?_
          have e1_1 : (xCy g k17 i + 1) = xCy g k17 (i + 1) := by rw [xCy]; first | rw [if_pos hF] | rw [if_neg hF]
          have e2_0 : xSy1 (xSy g k17 (fil (g 6) (fun _ => nI 0) 64) i) i 8 = xSy g k17 (fil (g 6) (fun _ => nI 0) 64) (i + 1) := by rw [xSy]; first | rw [if_pos hF] | rw [if_neg hF]
          have e2_1 : xCa (xUpT tv i) (i) = xUpT tv (i + 1) := by rfl
          have hP : va_P (dC, dI) vwCl (xW cI cP a o f (su g 6 (xSy g k17 (fil (g 6) (fun _ => nI 0) 64) (i + 1))) pa (xUpT tv (i + 1)) n pd pk pv) H := by rw [← e2_0, ← e2_1]; exact hP
          have hD : va_D A (xW cI cP a o f (su g 6 (xSy g k17 (fil (g 6) (fun _ => nI 0) 64) (i + 1))) pa (xUpT tv (i + 1)) n pd pk pv) := by rw [← e2_0, ← e2_1]; exact hD
          exact ih_25 (i + 1) H locs ls (by show _ < _; omega) (by show _; omega) hP hD hS (by show lv_has ls 6 [(0, .ref (a)), (1, .int (xCy g k17 (i + 1))), (2, .int (nI ((i + 1))))]; rw [← e1_1]; exact lv_sub hl [1, 2, 0] rfl)
        · skip
          rw [nI_leI (a := 8) (b := j) (by omega) (by omega)] at c_4
          refine lv_aload_n hx hb dX7_countSayings_62 rfl (lv_at hl 3 rfl) ?_
          refine lv_iload hx hb dX7_countSayings_63 (lv_at hl 4 rfl) ?_
          refine cg_glimpse ⟨hx, hb, hml, hown, hts⟩ hts gX7_countSayings_X0_glimpse_u116X0 gX7_countSayings_X2_glimpse_u116X2 gX7_countSayings_X4_glimpse gX7_countSayings_X5_glimpse_u116X5 gX7_countSayings_X6_glimpse_u116X6 hK hP (12 + ((i) / 64)) (by omega) (xw_tq (by omega) (su_s _ _ _)) hl.1 (Nat.le_of_ble_eq_true rfl) ⟨Nat.le_of_ble_eq_true rfl, Nat.le_of_ble_eq_true rfl⟩ ⟨Nat.le_of_ble_eq_true rfl, Nat.le_of_ble_eq_true rfl⟩ dX7_countSayings_65 ?_
          refine lv_istore (lv' := [(5, .int (see (nI ((i) / 64)) ((su (su ((xUpT tv i) ((i) / 64)) 0 (nI ((i) / 8 % 8))) 1 (nI ((i) % 8))) 0) ((su (su ((xUpT tv i) ((i) / 64)) 0 (nI ((i) / 8 % 8))) 1 (nI ((i) % 8))) 1) (nI (j)))), (0, .ref (a)), (1, .int (xCy g k17 i + 1)), (2, .int (nI (i))), (3, .ref (o (11 + (i) / 64))), (4, .int (nI (j)))]) hx hb dX7_countSayings_68 hl (by decide) rfl (fun ls hl => ?_)
          refine lv_iload hx hb dX7_countSayings_70 (lv_at hl 0 rfl) ?_
          refine vp_callSi (va_Run.run (va_runS (As := [.int (see (nI ((i) / 64)) ((su (su ((xUpT tv i) ((i) / 64)) 0 (nI ((i) / 8 % 8))) 1 (nI ((i) % 8))) 0) ((su (su ((xUpT tv i) ((i) / 64)) 0 (nI ((i) / 8 % 8))) 1 (nI ((i) % 8))) 1) (nI (j)))]) (rest := []) ⟨hx, hb, hml, hown, hts⟩ (c7_isHue l (see (nI ((i) / 64)) ((su (su ((xUpT tv i) ((i) / 64)) 0 (nI ((i) / 8 % 8))) 1 (nI ((i) % 8))) 0) ((su (su ((xUpT tv i) ((i) / 64)) 0 (nI ((i) / 8 % 8))) 1 (nI ((i) % 8))) 1) (nI (j)))) (va_cwS 1 hts gX7_countSayings_X7_isHue rfl rfl rfl (by decide +kernel) ⟨Nat.le_of_ble_eq_true rfl, Nat.le_of_ble_eq_true rfl⟩) ⟨fun _ _ _ _ q => q, fun U hU hW => ⟨rfl, trivial⟩⟩ rfl rfl hl.1 rfl (lv_room (Nat.le_of_ble_eq_true rfl)) dX7_countSayings_72 ⟨Nat.le_of_ble_eq_true rfl, Nat.le_of_ble_eq_true rfl⟩)) (fun r hrc => ?_)
          have hrc : r = b2i (0 ≤ (see (nI ((i) / 64)) ((su (su ((xUpT tv i) ((i) / 64)) 0 (nI ((i) / 8 % 8))) 1 (nI ((i) % 8))) 0) ((su (su ((xUpT tv i) ((i) / 64)) 0 (nI ((i) / 8 % 8))) 1 (nI ((i) % 8))) 1) (nI (j))).toInt ∧ (see (nI ((i) / 64)) ((su (su ((xUpT tv i) ((i) / 64)) 0 (nI ((i) / 8 % 8))) 1 (nI ((i) % 8))) 0) ((su (su ((xUpT tv i) ((i) / 64)) 0 (nI ((i) / 8 % 8))) 1 (nI ((i) % 8))) 1) (nI (j))).toInt ≤ 7) := hrc
          subst hrc
          refine lv_if_eq (tgt := 95) hx hb dX7_countSayings_75 (by decide) (fun c_5 => absurd (xSe_b i j (by omega) (by omega)) (b2i_0 c_5)) (fun c_5 => ?_)
          refine lv_aload_n hx hb dX7_countSayings_78 rfl (lv_at hl 1 rfl) ?_
          refine va_get (D := (dC, dI)) (ci := 7) (v := .ref (o 5)) (C := RX7) (T := TX7) (N := 16) hx hb hts hin7 hown hK hP 0 rfl rfl 5 (by decide) hW1 (fun _ h9 => h9) rfl dX7_countSayings_79 ?_
          refine lv_bipush (v := nI (8)) hx hb dX7_countSayings_82 (by decide +kernel) ?_
          refine lv_iload hx hb dX7_countSayings_84 (lv_at hl 5 rfl) ?_
          refine lv_imul hx hb dX7_countSayings_86 ?_
          refine tq (pk_mul (8) (j)) ?_
          refine lv_iload hx hb dX7_countSayings_87 (lv_at hl 0 rfl) ?_
          refine lv_iadd hx hb dX7_countSayings_89 ?_
          refine lv_dup2_11 hx hb dX7_countSayings_90 rfl rfl ?_
          refine ald hx hb hK hP (f := xSy1 (xSy g k17 (fil (g 6) (fun _ => nI 0) 64) i) i j) (k := xPl (i) (j)) 11 0 rfl rfl (xPl_e _ _ (by omega) (by omega)) (xPl_b _ _ (by omega) (by omega)) (by decide) dX7_countSayings_91 ?_
          refine lv_iconst (v := nI (1)) hx hb dX7_countSayings_92 (by decide +kernel) ?_
          refine lv_iadd hx hb dX7_countSayings_93 ?_
          refine ast hx hb hK hP hD hS (f := xSy1 (xSy g k17 (fil (g 6) (fun _ => nI 0) 64) i) i j) (k := xPl (i) (j)) 11 0 rfl rfl (xPl_e _ _ (by omega) (by omega)) (xPl_b _ _ (by omega) (by omega)) (by decide) dX7_countSayings_94 (fun H locs hP hD hS => ?_)
          have hP : va_P (dC, dI) vwCl (xW cI cP a o f (su g 6 (su (xSy1 (xSy g k17 (fil (g 6) (fun _ => nI 0) 64) i) i j) (xPl (i) (j)) (((xSy1 (xSy g k17 (fil (g 6) (fun _ => nI 0) 64) i) i j) (xPl (i) (j))) + (nI (1))))) pa (xCa (xUpT tv i) (i)) n pd pk pv) H := hP
          have hD : va_D A (xW cI cP a o f (su g 6 (su (xSy1 (xSy g k17 (fil (g 6) (fun _ => nI 0) 64) i) i j) (xPl (i) (j)) (((xSy1 (xSy g k17 (fil (g 6) (fun _ => nI 0) 64) i) i j) (xPl (i) (j))) + (nI (1))))) pa (xCa (xUpT tv i) (i)) n pd pk pv) := hD
          refine lv_iinc (v := nI (j + 1)) (lv' := [(4, .int (nI (j + 1))), (5, .int (see (nI ((i) / 64)) ((su (su ((xUpT tv i) ((i) / 64)) 0 (nI ((i) / 8 % 8))) 1 (nI ((i) % 8))) 0) ((su (su ((xUpT tv i) ((i) / 64)) 0 (nI ((i) / 8 % 8))) 1 (nI ((i) % 8))) 1) (nI (j)))), (0, .ref (a)), (1, .int (xCy g k17 i + 1)), (2, .int (nI (i))), (3, .ref (o (11 + (i) / 64)))]) hx hb dX7_countSayings_95 hl (k := 5) rfl (nI_1 _) (by decide) rfl (fun ls hl => ?_)
          refine lv_goto (tgt := 55) hx hb dX7_countSayings_98 (by decide) ?_
          have e2_0 : su (xSy1 (xSy g k17 (fil (g 6) (fun _ => nI 0) 64) i) i j) (xPl (i) (j)) (((xSy1 (xSy g k17 (fil (g 6) (fun _ => nI 0) 64) i) i j) (xPl (i) (j))) + (nI (1))) = xSy1 (xSy g k17 (fil (g 6) (fun _ => nI 0) 64) i) i (j + 1) := by rfl
          have hP : va_P (dC, dI) vwCl (xW cI cP a o f (su g 6 (xSy1 (xSy g k17 (fil (g 6) (fun _ => nI 0) 64) i) i (j + 1))) pa (xCa (xUpT tv i) (i)) n pd pk pv) H := by rw [← e2_0]; exact hP
          have hD : va_D A (xW cI cP a o f (su g 6 (xSy1 (xSy g k17 (fil (g 6) (fun _ => nI 0) 64) i) i (j + 1))) pa (xCa (xUpT tv i) (i)) n pd pk pv) := by rw [← e2_0]; exact hD
          exact ih_55 (j + 1) H locs ls (by show _ < _; omega) (by show _; omega) hP hD hS (by show lv_has ls 6 [(0, .ref (a)), (1, .int (xCy g k17 i + 1)), (2, .int (nI (i))), (3, .ref (o (11 + (i) / 64))), (4, .int (nI ((j + 1))))]; exact lv_sub hl [2, 3, 4, 5, 0] rfl)
  · skip
    rw [nI_leI (a := 64) (b := i) (by omega) (by omega)] at c_1
    refine lv_aload_n hx hb dX7_countSayings_8 rfl (lv_at hl 0 rfl) ?_
    refine va_get (D := (dC, dI)) (ci := 7) (v := .ref (o 5)) (C := RX7) (T := TX7) (N := 16) hx hb hts hin7 hown hK hP 0 rfl rfl 5 (by decide) hW1 (fun _ h9 => h9) rfl dX7_countSayings_9 ?_
    refine lv_iload_n hx hb dX7_countSayings_12 rfl (lv_at hl 1 rfl) ?_
    refine lv_iconst (v := nI (0)) hx hb dX7_countSayings_13 (by decide +kernel) ?_
    refine ast hx hb hK hP hD hS (f := fil (g 6) (fun _ => nI 0) i) (k := i) 11 0 rfl rfl rfl (by omega) (by decide) dX7_countSayings_14 (fun H locs hP hD hS => ?_)
    have hP : va_P (dC, dI) vwCl (xW cI cP a o f (su g 6 (su (fil (g 6) (fun _ => nI 0) i) (i) (nI (0)))) pa tv n pd pk pv) H := hP
    have hD : va_D A (xW cI cP a o f (su g 6 (su (fil (g 6) (fun _ => nI 0) i) (i) (nI (0)))) pa tv n pd pk pv) := hD
    refine lv_iinc (v := nI (i + 1)) (lv' := [(1, .int (nI (i + 1))), (0, .ref (a))]) hx hb dX7_countSayings_15 hl (k := 1) rfl (nI_1 _) (by decide) rfl (fun ls hl => ?_)
    refine lv_goto (tgt := 2) hx hb dX7_countSayings_18 (by decide) ?_
    have e2_0 : su (fil (g 6) (fun _ => nI 0) i) (i) (nI (0)) = fil (g 6) (fun _ => nI 0) (i + 1) := by exact fil_s (g 6) _ _
    have hP : va_P (dC, dI) vwCl (xW cI cP a o f (su g 6 (fil (g 6) (fun _ => nI 0) (i + 1))) pa tv n pd pk pv) H := by rw [← e2_0]; exact hP
    have hD : va_D A (xW cI cP a o f (su g 6 (fil (g 6) (fun _ => nI 0) (i + 1))) pa tv n pd pk pv) := by rw [← e2_0]; exact hD
    exact ih_2 (i + 1) H locs ls (by show _ < _; omega) (by show _; omega) hP hD hS (by show lv_has ls 6 [(0, .ref (a)), (1, .int (nI ((i + 1))))]; exact lv_sub hl [1, 0] rfl)
