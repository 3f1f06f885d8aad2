def xNx (g : Nat → Nat → Int32) : Nat → Int32 × Int32
  | 0 => (nI 0, xWo g 0 8)
  | j + 1 => if (xNx g j).2.toInt ≤ (xWo g (j + 1) 8).toInt then xNx g j else (nI (j + 1), xWo g (j + 1) 8)
def xSyG (g : Nat → Nat → Int32) (d : Nat) : Nat → Nat → Int32 := su g 6 (xSy g d (fil (g 6) (fun _ => nI 0) 64) 320)
def xNext (f : Nat → Int32) (g : Nat → Nat → Int32) (pa : Nat → Option Nat) (tv : Nat → Nat → Int32) (n : Nat) (pd pk : Nat → Nat) (pv : Nat → Nat → Int32) (d u : Nat) : Int32 × XSt := if u < 60 then (if xCy g d 320 = nI 0 then (-1) else (xNx (xSyG g d) 7).1, su f 11 (nI (u + 1)), xSyG g d, pa, xUpT tv 320, n, pd, pk, pv) else ((-103), f, g, pa, tv, n, pd, pk, pv)
def dq (x : Int32) (m : Nat) : Int32 := (x >>> (nI 16 &&& 31)) &&& (nI m - nI 1)
def xAgS (z : Int32) : Nat → Int32
  | 0 => z
  | j + 1 => nxs (nxs (xAgS z j))
def xAgV (v : Nat → Int32) (z : Int32) : Nat → Nat → Int32
  | 0 => v
  | j + 1 => xLose (xAgV v z j) (dq (nxs (xAgS z j)) 2) (dq (nxs (nxs (xAgS z j))) 8)
def xAgC (k : Nat) (v : Nat → Int32) (z x r : Int32) : Nat → Int32
  | 0 => (-1)
  | j + 1 => if xAgC k v z x r j = (-1) then (if xRead k (xAgV v z (j + 1) 0) (xAgV v z (j + 1) 1) x 6 = r then xAgC k v z x r j else nI (j + 1)) else xAgC k v z x r j
def xAgW (tv : Nat → Nat → Int32) (pk : Nat → Nat) (pv : Nat → Nat → Int32) (i : Nat) : Nat → Int32 := su (su (tv (pk i)) 0 (pv i 0)) 1 (pv i 1)
def xAgR (f : Nat → Int32) (tv : Nat → Nat → Int32) (pk : Nat → Nat) (pv : Nat → Nat → Int32) (i m : Nat) (z x : Int32) : Int32 := if x.toInt = 0 then xAgC (pk i) (xAgW tv pk pv i) z (f 6) (xRead (pk i) (pv i 0) (pv i 1) (f 6) 6) m else if x.toInt = 1 then xbc (xAgV (xAgW tv pk pv i) z m 0) + xbc (xAgV (xAgW tv pk pv i) z m 1) else xAgS z m
def xAgT (tv : Nat → Nat → Int32) (pk : Nat → Nat) (pv : Nat → Nat → Int32) (i m : Nat) (z : Int32) : Nat → Nat → Int32 := su tv (pk i) (xAgV (xAgW tv pk pv i) z m)
def xAgeing (f : Nat → Int32) (g : Nat → Nat → Int32) (pa : Nat → Option Nat) (tv : Nat → Nat → Int32) (n : Nat) (pd pk : Nat → Nat) (pv : Nat → Nat → Int32) (x y z q : Int32) : Int32 × XSt := if xOk x n then (if 1 ≤ y.toInt ∧ y.toInt ≤ 60 ∧ 0 ≤ z.toInt ∧ 0 ≤ q.toInt ∧ q.toInt ≤ 2 then (xAgR f tv pk pv x.toInt.toNat y.toInt.toNat z q, f, g, pa, xAgT tv pk pv x.toInt.toNat y.toInt.toNat z, n, pd, pk, pv) else ((-102), f, g, pa, tv, n, pd, pk, pv)) else ((-101), f, g, pa, tv, n, pd, pk, pv)
set_option maxHeartbeats 1200000 in
set_option maxRecDepth 100000 in
theorem c7_next (l : Launch) (dC : Nat → ClassId) (dI : Nat → Nat → Nat) (cI cP : ClassId) (a : Nat) (o : Nat → Nat) (f : Nat → Int32) (g : Nat → Nat → Int32) (pa : Nat → Option Nat) (tv : Nat → Nat → Int32) (n : Nat) (pd pk : Nat → Nat) (pv : Nat → Nat → Int32) (sz : Nat) {k17 : Nat} (e17 : f 17 = nI k17) (b17 : k17 ≤ 8) {k11 : Nat} (e11 : f 11 = nI k11) (b11 : k11 ≤ 60) : Met l yX7_next wsX7_next ({ frames := 4, cells := 0, slots := 0, locals := 90 } : Room) (va_Pc [.ref (a)] (fun U => U.heap.size = sz ∧ va_P (dC, dI) vwCl (xW cI cP a o f g pa tv n pd pk pv) U.heap ∧ va_K (dC, dI) vwCl [(cI, .int), (cP, .object RX4)] U ∧ xN U ∧ va_D (fun _ => True) (xW cI cP a o f g pa tv n pd pk pv))) (va_Qi (fun (r : Int32) (u : XSt) => (r, u) = xNext f g pa tv n pd pk pv k17 k11) (xB dC dI cI cP a o (va_A (xW cI cP a o f g pa tv n pd pk pv) sz)) (va_A (xW cI cP a o f g pa tv n pd pk pv) sz)) 0 0 (va_A (xW cI cP a o f g pa tv n pd pk pv) sz) := by
  refine Met.ofW (cc := cX7_next) (maxL := 5) (ret := (some .int)) (by decide) rfl ?_
  intro p_ e_ s m args below meth c_0 s₁ B hml hv
  obtain ⟨rfl, hsz, hP, hK, hN, hD0⟩ := hv
  have hx := B.exec
  have hb := B.bytes
  have hr := B.returns
  have hts := atoms_spec (ws := wsX7_next) B.pre
  have hown : s.vm.findClass RX7 = some m.cls := findClass_of_methodNamed B.named
  have hlocks := B.notSynchronized
  subst hsz
  have hD := hD0.self (sz := s.heap.size)
  generalize hAe : va_A (xW cI cP a o f g pa tv n pd pk pv) s.heap.size = A at hD ⊢
  have hA : ∀ q : Nat, s.heap.size ≤ q → A q := fun q h => by rw [← hAe]; exact Or.inr h
  obtain ⟨H, hHe⟩ : ∃ H : Heap, H = s.heap := ⟨_, rfl⟩
  have hS : va_S A s.heap H [] := by rw [hHe]; exact va_S.rf
  rw [← hHe] at hP ⊢
  have hP : va_P (dC, dI) vwCl (xW cI cP a o f g pa tv n pd pk pv) H := hP
  have hl := lv_entry ([.ref (a)]) (n := 5) (Nat.le_of_ble_eq_true rfl)
  rw [lg_entry_eq]
  generalize (lg_sl ([.ref (a)]) ++ List.replicate (5 - (lg_sl ([.ref (a)])).length) Slot.unset).toArray = ls at hl ⊢
  have hl : lv_has ls 5 [(0, .ref (a))] := hl
  have hin7 : ∀ w ∈ wsX70, w ∈ wsX7_next := fun _ h => List.mem_cons_of_mem _ (List.mem_append_left _ (List.mem_append_left _ (List.mem_append_left _ (List.mem_append_left _ (List.mem_append_left _ (List.mem_append_left _ (List.mem_append_right _ h)))))))
  have hW0 := hts (.fieldLink RX7 148 "EachEye" "questionsDone" "I") (by decide +kernel)
  refine lv_aload_n hx hb dX7_next_0 rfl (lv_at hl 0 rfl) ?_
  refine va_get (D := (dC, dI)) (ci := 7) (v := .int (nI (k11))) (C := RX7) (T := TX7) (N := 16) hx hb hts hin7 hown hK hP 0 rfl rfl 11 (by decide) hW0 (fun _ h9 => h9) (congrArg (fun z => some (Value.int z)) e11) dX7_next_1 ?_
  refine lv_bipush (v := nI (60)) hx hb dX7_next_4 (by decide +kernel) ?_
  refine lv_icmp_lt (tgt := 12) hx hb dX7_next_6 (by decide) (fun c_1 => ?_) (fun c_1 => ?_)
  · skip
    rw [nI_ltI (a := k11) (b := 60) (by omega) (by omega)] at c_1
    refine lv_aload_n hx hb dX7_next_12 rfl (lv_at hl 0 rfl) ?_
    refine lv_dup hx hb dX7_next_13 rfl ?_
    refine va_get (D := (dC, dI)) (ci := 7) (v := .int (nI (k11))) (C := RX7) (T := TX7) (N := 16) hx hb hts hin7 hown hK hP 0 rfl rfl 11 (by decide) hW0 (fun _ h9 => h9) (congrArg (fun z => some (Value.int z)) e11) dX7_next_14 ?_
    refine lv_iconst (v := nI (1)) hx hb dX7_next_17 (by decide +kernel) ?_
    refine lv_iadd hx hb dX7_next_18 ?_
    refine tq (nI_add (k11) (1)) ?_
    refine va_put (D := (dC, dI)) (ci := 7) (v := .int (nI (k11 + 1))) (ty := .int) (C := RX7) (T := TX7) (N := 16) hx hb hts hin7 tyX7 tyX7_ok nmX7 hown hK hP hD hS 0 rfl rfl 11 (by decide) hW0 (fun _ h9 => h9) rfl (by decide +kernel) rfl rfl (Nat.le_of_ble_eq_true rfl) dX7_next_19 (fun H locs hP hD hS => ?_)
    have hP : va_P (dC, dI) vwCl (xW cI cP a o (su f 11 (nI (k11 + 1))) g pa tv n pd pk pv) H := hP
    have hD : va_D A (xW cI cP a o (su f 11 (nI (k11 + 1))) g pa tv n pd pk pv) := hD
    refine lv_aload_n hx hb dX7_next_22 rfl (lv_at hl 0 rfl) ?_
    have hFc : ∀ q, va_A (xW cI cP a o (su f 11 (nI (k11 + 1))) g pa tv n pd pk pv) H.size q → A q := fun q h => h.elim (fun ⟨j, e, hj⟩ => hD.2 j (q, e) hj) (fun h => hA q (Nat.le_trans hS.1 h))
    refine va_calli (va_runV (As := []) (rest := []) ⟨hx, hb, hml, hown, hts⟩ (c7_countSayings l dC dI cI cP a o (su f 11 (nI (k11 + 1))) g pa tv n pd pk pv H.size e17 (by omega)  ) (cwV 0 hts gX7_next_X7_countSayings rfl rfl rfl (by decide +kernel) ⟨Nat.le_of_ble_eq_true rfl, Nat.le_of_ble_eq_true rfl⟩) ⟨fun a U g mk q => by obtain ⟨q0, q1, qP, qK, qN, qD⟩ := q; exact ⟨q0, q1, qP, va_K.moved (u := U) (U := U.calling g mk a) (Vm.Alike.refl U.vm) qK, xN.same (u := U) (U := U.calling g mk a) rfl qN, qD⟩, va_recv hK hP (ci := 7) (q0 := 0) rfl rfl, fun U hU hW => ⟨rfl, by rw [hU], by rw [hU]; exact hP, va_K.moved hW.alike hK, xN.warm hW hN, hD.weaken (fun _ _ _ _ => trivial)⟩⟩ rfl rfl hl.1 rfl (lv_room (Nat.le_of_ble_eq_true rfl)) dX7_next_23 ⟨Nat.le_of_ble_eq_true rfl, Nat.le_of_ble_eq_true rfl⟩) hS (fun q _ h => hFc q h) hFc (fun r u t H1 locs ht hvm hw hB hz1 hk1 hS => ?_)
    have hw : ((r, u) : _ × XSt) = (xCy (g) (k17) 320, (su f 11 (nI (k11 + 1)), su g 6 (xSy (g) (k17) (fil (g 6) (fun _ => nI 0) 64) 320), pa, xUpT tv 320, n, pd, pk, pv)) := hw
    obtain ⟨hw1, hw2⟩ := Prod.mk.inj hw
    subst hw1
    subst hw2
    obtain ⟨hP1, hK1, hD1⟩ := hB
    rw [ht] at hP1
    have hP : va_P (dC, dI) vwCl (xW cI cP a o (su f 11 (nI (k11 + 1))) (su g 6 (xSy (g) (k17) (fil (g 6) (fun _ => nI 0) 64) 320)) pa (xUpT tv 320) n pd pk pv) H1 := hP1
    have hD : va_D A (xW cI cP a o (su f 11 (nI (k11 + 1))) (su g 6 (xSy (g) (k17) (fil (g 6) (fun _ => nI 0) 64) 320)) pa (xUpT tv 320) n pd pk pv) := hD1.weaken (fun _ _ _ h => hFc _ h)
    clear hP1 hD1 hK1 hFc hk1 hz1
    generalize H1 = H at hP hS ⊢
    have hP : va_P (dC, dI) vwCl (xW cI cP a o (su f 11 (nI (k11 + 1))) (su g 6 (xSy (g) (k17) (fil (g 6) (fun _ => nI 0) 64) 320)) pa (xUpT tv 320) n pd pk pv) H := hP
    have hD : va_D A (xW cI cP a o (su f 11 (nI (k11 + 1))) (su g 6 (xSy (g) (k17) (fil (g 6) (fun _ => nI 0) 64) 320)) pa (xUpT tv 320) n pd pk pv) := hD
    refine lv_if_ne (tgt := 31) hx hb dX7_next_26 (by decide) (fun c_2 => ?_) (fun c_2 => ?_)
    · skip
      have c_2 : ¬ (xCy (g) (k17) 320) = nI 0 := c_2
      refine lv_iconst (v := nI (0)) hx hb dX7_next_31 (by decide +kernel) ?_
      refine lv_istore_n (lv' := [(1, .int (nI (0))), (0, .ref (a))]) hx hb dX7_next_32 rfl hl (by decide) rfl (fun ls hl => ?_)
      refine lv_aload_n hx hb dX7_next_33 rfl (lv_at hl 1 rfl) ?_
      refine lv_iconst (v := nI (0)) hx hb dX7_next_34 (by decide +kernel) ?_
      refine vp_callSi (va_Run.run (va_runV (As := [.int (nI (0))]) (rest := []) ⟨hx, hb, hml, hown, hts⟩ (c7_worstLeft l dC dI cI cP a o (su f 11 (nI (k11 + 1))) (su g 6 (xSy (g) (k17) (fil (g 6) (fun _ => nI 0) 64) 320)) pa (xUpT tv 320) n pd pk pv   (0) (by omega)) (cwV 1 hts gX7_next_X7_worstLeft rfl rfl rfl (by decide +kernel) ⟨Nat.le_of_ble_eq_true rfl, Nat.le_of_ble_eq_true rfl⟩) ⟨fun a U g mk q => ⟨q.1, q.2.1, va_K.moved (u := U) (U := U.calling g mk a) (Vm.Alike.refl U.vm) q.2.2.1, xN.same (u := U) (U := U.calling g mk a) rfl q.2.2.2⟩, va_recv hK hP (ci := 7) (q0 := 0) rfl rfl, fun U hU hW => ⟨rfl, by rw [hU]; exact hP, va_K.moved hW.alike hK, xN.warm hW hN⟩⟩ rfl rfl hl.1 rfl (lv_room (Nat.le_of_ble_eq_true rfl)) dX7_next_35 ⟨Nat.le_of_ble_eq_true rfl, Nat.le_of_ble_eq_true rfl⟩)) (fun r hrc => ?_)
      have hrc : r = xWo (su g 6 (xSy (g) (k17) (fil (g 6) (fun _ => nI 0) 64) 320)) (0) 8 := hrc
      subst hrc
      refine lv_istore_n (lv' := [(2, .int (xWo (su g 6 (xSy (g) (k17) (fil (g 6) (fun _ => nI 0) 64) 320)) (0) 8)), (1, .int (nI (0))), (0, .ref (a))]) hx hb dX7_next_38 rfl hl (by decide) rfl (fun ls hl => ?_)
      refine lv_iconst (v := nI (1)) hx hb dX7_next_39 (by decide +kernel) ?_
      refine lv_istore_n (lv' := [(3, .int (nI (1))), (2, .int (xWo (su g 6 (xSy (g) (k17) (fil (g 6) (fun _ => nI 0) 64) 320)) (0) 8)), (1, .int (nI (0))), (0, .ref (a))]) hx hb dX7_next_40 rfl hl (by decide) rfl (fun ls hl => ?_)
      have e0_1 : (nI (0)) = (xNx (xSyG g k17) 0).1 := rfl
      have e0_2 : (xWo (su g 6 (xSy (g) (k17) (fil (g 6) (fun _ => nI 0) 64) 320)) (0) 8) = (xNx (xSyG g k17) 0).2 := rfl
      refine lp_ro (fun j : Nat => 7 - j) (fun j : Nat => j ≤ 7) (fun j : Nat => [(0, .ref (a)), (1, .int ((xNx (xSyG g k17) j).1)), (2, .int ((xNx (xSyG g k17) j).2)), (3, .int (nI (j + 1)))]) (0) (by omega) (by show lv_has ls 5 [(0, .ref (a)), (1, .int ((xNx (xSyG g k17) 0).1)), (2, .int ((xNx (xSyG g k17) 0).2)), (3, .int (nI (0 + 1)))]; rw [← e0_1, ← e0_2]; exact lv_sub hl [3, 2, 1, 0] rfl) (fun j hI ih_41 ls hl => ?_)
      have hI : j ≤ 7 := hI
      have hl : lv_has ls 5 [(0, .ref (a)), (1, .int ((xNx (xSyG g k17) j).1)), (2, .int ((xNx (xSyG g k17) j).2)), (3, .int (nI (j + 1)))] := hl
      refine lv_iload_n hx hb dX7_next_41 rfl (lv_at hl 3 rfl) ?_
      refine lv_bipush (v := nI (8)) hx hb dX7_next_42 (by decide +kernel) ?_
      refine lv_icmp_ge (tgt := 71) hx hb dX7_next_44 (by decide) (fun c_3 => ?_) (fun c_3 => ?_)
      · skip
        rw [nI_leI (a := 8) (b := j + 1) (by omega) (by omega)] at c_3
        have hE : 7 = j := by omega
        subst hE
        refine lv_iload_n hx hb dX7_next_71 rfl (lv_at hl 1 rfl) ?_
        have hP9 : va_P (dC, dI) vwCl (xW cI cP a o (su f 11 (nI (k11 + 1))) (su g 6 (xSy (g) (k17) (fil (g 6) (fun _ => nI 0) 64) 320)) pa (xUpT tv 320) n pd pk pv) H := hP
        exact W.iret (v := (xNx (xSyG g k17) 7).1) hx hb hr (fun t ht hW => ⟨⟨(xNx (xSyG g k17) 7).1, (su f 11 (nI (k11 + 1)), su g 6 (xSy (g) (k17) (fil (g 6) (fun _ => nI 0) 64) 320), pa, xUpT tv 320, n, pd, pk, pv), rfl, (by show (((xNx (xSyG g k17) 7).1, (su f 11 (nI (k11 + 1)), su g 6 (xSy (g) (k17) (fil (g 6) (fun _ => nI 0) 64) 320), pa, xUpT tv 320, n, pd, pk, pv)) : _ × XSt) = xNext f g pa tv n pd pk pv k17 k11; rw [xNext, if_pos (by omega), if_neg (show ¬ xCy g k17 320 = nI 0 from c_2)]; rfl), by rw [ht]; exact hP9, va_K.moved hW.alike hK, hD⟩, hS.F ht⟩) hS.2.2 dX7_next_72
      · skip
        rw [nI_leI (a := 8) (b := j + 1) (by omega) (by omega)] at c_3
        refine lv_aload_n hx hb dX7_next_47 rfl (lv_at hl 0 rfl) ?_
        refine lv_iload_n hx hb dX7_next_48 rfl (lv_at hl 3 rfl) ?_
        refine vp_callSi (va_Run.run (va_runV (As := [.int (nI (j + 1))]) (rest := []) ⟨hx, hb, hml, hown, hts⟩ (c7_worstLeft l dC dI cI cP a o (su f 11 (nI (k11 + 1))) (su g 6 (xSy (g) (k17) (fil (g 6) (fun _ => nI 0) 64) 320)) pa (xUpT tv 320) n pd pk pv   (j + 1) (by omega)) (cwV 1 hts gX7_next_X7_worstLeft rfl rfl rfl (by decide +kernel) ⟨Nat.le_of_ble_eq_true rfl, Nat.le_of_ble_eq_true rfl⟩) ⟨fun a U g mk q => ⟨q.1, q.2.1, va_K.moved (u := U) (U := U.calling g mk a) (Vm.Alike.refl U.vm) q.2.2.1, xN.same (u := U) (U := U.calling g mk a) rfl q.2.2.2⟩, va_recv hK hP (ci := 7) (q0 := 0) rfl rfl, fun U hU hW => ⟨rfl, by rw [hU]; exact hP, va_K.moved hW.alike hK, xN.warm hW hN⟩⟩ rfl rfl hl.1 rfl (lv_room (Nat.le_of_ble_eq_true rfl)) dX7_next_49 ⟨Nat.le_of_ble_eq_true rfl, Nat.le_of_ble_eq_true rfl⟩)) (fun r hrc => ?_)
        have hrc : r = xWo (su g 6 (xSy (g) (k17) (fil (g 6) (fun _ => nI 0) 64) 320)) (j + 1) 8 := hrc
        subst hrc
        refine lv_istore (lv' := [(4, .int (xWo (su g 6 (xSy (g) (k17) (fil (g 6) (fun _ => nI 0) 64) 320)) (j + 1) 8)), (0, .ref (a)), (1, .int ((xNx (xSyG g k17) j).1)), (2, .int ((xNx (xSyG g k17) j).2)), (3, .int (nI (j + 1)))]) hx hb dX7_next_52 hl (by decide) rfl (fun ls hl => ?_)
        refine lv_iload hx hb dX7_next_54 (lv_at hl 0 rfl) ?_
        refine lv_iload_n hx hb dX7_next_56 rfl (lv_at hl 3 rfl) ?_
        refine lv_icmp_ge (tgt := 65) hx hb dX7_next_57 (by decide) (fun c_4 => ?_) (fun c_4 => ?_)
        · skip
          rw [lei] at c_4
          refine lv_iinc (v := nI (j + 1 + 1)) (lv' := [(3, .int (nI (j + 1 + 1))), (4, .int (xWo (su g 6 (xSy (g) (k17) (fil (g 6) (fun _ => nI 0) 64) 320)) (j + 1) 8)), (0, .ref (a)), (1, .int ((xNx (xSyG g k17) j).1)), (2, .int ((xNx (xSyG g k17) j).2))]) hx hb dX7_next_65 hl (k := 4) rfl (nI_1 _) (by decide) rfl (fun ls hl => ?_)
          refine lv_goto (tgt := 41) hx hb dX7_next_68 (by decide) ?_
          have e1_1 : ((xNx (xSyG g k17) j).1) = (xNx (xSyG g k17) (j + 1)).1 := by rw [xNx]; first | (rw [if_pos (show (xNx (xSyG g k17) j).2.toInt ≤ (xWo (xSyG g k17) (j + 1) 8).toInt from c_4)]; done) | (rw [if_neg (show ¬ (xNx (xSyG g k17) j).2.toInt ≤ (xWo (xSyG g k17) (j + 1) 8).toInt from c_4)]; done) | (rw [if_neg (show ¬ (xNx (xSyG g k17) j).2.toInt ≤ (xWo (xSyG g k17) (j + 1) 8).toInt from c_4)]; rfl)
          have e1_2 : ((xNx (xSyG g k17) j).2) = (xNx (xSyG g k17) (j + 1)).2 := by rw [xNx]; first | (rw [if_pos (show (xNx (xSyG g k17) j).2.toInt ≤ (xWo (xSyG g k17) (j + 1) 8).toInt from c_4)]; done) | (rw [if_neg (show ¬ (xNx (xSyG g k17) j).2.toInt ≤ (xWo (xSyG g k17) (j + 1) 8).toInt from c_4)]; done) | (rw [if_neg (show ¬ (xNx (xSyG g k17) j).2.toInt ≤ (xWo (xSyG g k17) (j + 1) 8).toInt from c_4)]; rfl)
          exact ih_41 (j + 1) ls (by show _ < _; omega) (by show _; omega) (by show lv_has ls 5 [(0, .ref (a)), (1, .int ((xNx (xSyG g k17) (j + 1)).1)), (2, .int ((xNx (xSyG g k17) (j + 1)).2)), (3, .int (nI ((j + 1) + 1)))]; rw [← e1_1, ← e1_2]; exact lv_sub hl [2, 3, 4, 0] rfl)
        · skip
          rw [lei] at c_4
          refine lv_iload_n hx hb dX7_next_60 rfl (lv_at hl 4 rfl) ?_
          refine lv_istore_n (lv' := [(1, .int (nI (j + 1))), (4, .int (xWo (su g 6 (xSy (g) (k17) (fil (g 6) (fun _ => nI 0) 64) 320)) (j + 1) 8)), (0, .ref (a)), (2, .int ((xNx (xSyG g k17) j).2)), (3, .int (nI (j + 1)))]) hx hb dX7_next_61 rfl hl (by decide) rfl (fun ls hl => ?_)
          refine lv_iload hx hb dX7_next_62 (lv_at hl 1 rfl) ?_
          refine lv_istore_n (lv' := [(2, .int (xWo (su g 6 (xSy (g) (k17) (fil (g 6) (fun _ => nI 0) 64) 320)) (j + 1) 8)), (1, .int (nI (j + 1))), (4, .int (xWo (su g 6 (xSy (g) (k17) (fil (g 6) (fun _ => nI 0) 64) 320)) (j + 1) 8)), (0, .ref (a)), (3, .int (nI (j + 1)))]) hx hb dX7_next_64 rfl hl (by decide) rfl (fun ls hl => ?_)
          refine lv_iinc (v := nI (j + 1 + 1)) (lv' := [(3, .int (nI (j + 1 + 1))), (2, .int (xWo (su g 6 (xSy (g) (k17) (fil (g 6) (fun _ => nI 0) 64) 320)) (j + 1) 8)), (1, .int (nI (j + 1))), (4, .int (xWo (su g 6 (xSy (g) (k17) (fil (g 6) (fun _ => nI 0) 64) 320)) (j + 1) 8)), (0, .ref (a))]) hx hb dX7_next_65 hl (k := 4) rfl (nI_1 _) (by decide) rfl (fun ls hl => ?_)
          refine lv_goto (tgt := 41) hx hb dX7_next_68 (by decide) ?_
          have e1_1 : (nI (j + 1)) = (xNx (xSyG g k17) (j + 1)).1 := by rw [xNx]; first | (rw [if_pos (show (xNx (xSyG g k17) j).2.toInt ≤ (xWo (xSyG g k17) (j + 1) 8).toInt from c_4)]; done) | (rw [if_neg (show ¬ (xNx (xSyG g k17) j).2.toInt ≤ (xWo (xSyG g k17) (j + 1) 8).toInt from c_4)]; done) | (rw [if_neg (show ¬ (xNx (xSyG g k17) j).2.toInt ≤ (xWo (xSyG g k17) (j + 1) 8).toInt from c_4)]; rfl)
          have e1_2 : (xWo (su g 6 (xSy (g) (k17) (fil (g 6) (fun _ => nI 0) 64) 320)) (j + 1) 8) = (xNx (xSyG g k17) (j + 1)).2 := by rw [xNx]; first | (rw [if_pos (show (xNx (xSyG g k17) j).2.toInt ≤ (xWo (xSyG g k17) (j + 1) 8).toInt from c_4)]; done) | (rw [if_neg (show ¬ (xNx (xSyG g k17) j).2.toInt ≤ (xWo (xSyG g k17) (j + 1) 8).toInt from c_4)]; done) | (rw [if_neg (show ¬ (xNx (xSyG g k17) j).2.toInt ≤ (xWo (xSyG g k17) (j + 1) 8).toInt from c_4)]; rfl)
          exact ih_41 (j + 1) ls (by show _ < _; omega) (by show _; omega) (by show lv_has ls 5 [(0, .ref (a)), (1, .int ((xNx (xSyG g k17) (j + 1)).1)), (2, .int ((xNx (xSyG g k17) (j + 1)).2)), (3, .int (nI ((j + 1) + 1)))]; rw [← e1_1, ← e1_2]; exact lv_sub hl [4, 2, 1, 0] rfl)
    · skip
      have c_2 : (xCy (g) (k17) 320) = nI 0 := c_2
      refine lv_iconst (v := (-1)) hx hb dX7_next_29 (by decide +kernel) ?_
      have hP9 : va_P (dC, dI) vwCl (xW cI cP a o (su f 11 (nI (k11 + 1))) (su g 6 (xSy (g) (k17) (fil (g 6) (fun _ => nI 0) 64) 320)) pa (xUpT tv 320) n pd pk pv) H := hP
      exact W.iret (v := (-1)) hx hb hr (fun t ht hW => ⟨⟨(-1), (su f 11 (nI (k11 + 1)), su g 6 (xSy (g) (k17) (fil (g 6) (fun _ => nI 0) 64) 320), pa, xUpT tv 320, n, pd, pk, pv), rfl, (by show (((-1), (su f 11 (nI (k11 + 1)), su g 6 (xSy (g) (k17) (fil (g 6) (fun _ => nI 0) 64) 320), pa, xUpT tv 320, n, pd, pk, pv)) : _ × XSt) = xNext f g pa tv n pd pk pv k17 k11; rw [xNext, if_pos (by omega), if_pos (show xCy g k17 320 = nI 0 from c_2)]; rfl), by rw [ht]; exact hP9, va_K.moved hW.alike hK, hD⟩, hS.F ht⟩) hS.2.2 dX7_next_30
  · skip
    rw [nI_ltI (a := k11) (b := 60) (by omega) (by omega)] at c_1
    refine lv_bipush (v := (-103)) hx hb dX7_next_9 (by decide +kernel) ?_
    have hP9 : va_P (dC, dI) vwCl (xW cI cP a o f g pa tv n pd pk pv) H := hP
    exact W.iret (v := (-103)) hx hb hr (fun t ht hW => ⟨⟨(-103), (f, g, pa, tv, n, pd, pk, pv), rfl, (by show (((-103), (f, g, pa, tv, n, pd, pk, pv)) : _ × XSt) = xNext f g pa tv n pd pk pv k17 k11; rw [xNext, if_neg (by omega)]), by rw [ht]; exact hP9, va_K.moved hW.alike hK, hD⟩, hS.F ht⟩) hS.2.2 dX7_next_11

set_option maxHeartbeats 1200000 in
set_option maxRecDepth 100000 in
theorem c7_ageing (l : Launch) (dC : Nat → ClassId) (dI : Nat → Nat → Nat) (cI cP : ClassId) (a : Nat) (o : Nat → Nat) (f : Nat → Int32) (g : Nat → Nat → Int32) (pa : Nat → Option Nat) (tv : Nat → Nat → Int32) (n : Nat) (pd pk : Nat → Nat) (pv : Nat → Nat → Int32) (sz : Nat) (e7 : f 7 = nI n) (b7 : n ≤ 4) (hpa : ∀ i, i < n → pa i = some (pd i)) (hpk : ∀ i, i < n → pk i < 5) (x : Int32) (y : Int32) (z : Int32) (q : Int32) : Met l yX7_ageing wsX7_ageing ({ frames := 2, cells := 0, slots := 0, locals := 46 } : Room) (va_Pc [.ref (a), .int (x), .int (y), .int (z), .int (q)] (fun U => U.heap.size = sz ∧ va_P (dC, dI) vwCl (xW cI cP a o f g pa tv n pd pk pv) U.heap ∧ va_K (dC, dI) vwCl [(cI, .int), (cP, .object RX4)] U ∧ xN U ∧ va_D (fun _ => True) (xW cI cP a o f g pa tv n pd pk pv))) (va_Qi (fun (r : Int32) (u : XSt) => (r, u) = xAgeing f g pa tv n pd pk pv x y z q) (xB dC dI cI cP a o (va_A (xW cI cP a o f g pa tv n pd pk pv) sz)) (va_A (xW cI cP a o f g pa tv n pd pk pv) sz)) 0 0 (va_A (xW cI cP a o f g pa tv n pd pk pv) sz) := by
  refine Met.ofW (cc := cX7_ageing) (maxL := 12) (ret := (some .int)) (by decide) rfl ?_
  intro p_ e_ s m args below meth c_0 s₁ B hml hv
  obtain ⟨rfl, hsz, hP, hK, hN, hD0⟩ := hv
  have hx := B.exec
  have hb := B.bytes
  have hr := B.returns
  have hts := atoms_spec (ws := wsX7_ageing) B.pre
  have hown : s.vm.findClass RX7 = some m.cls := findClass_of_methodNamed B.named
  have hlocks := B.notSynchronized
  subst hsz
  have hD := hD0.self (sz := s.heap.size)
  generalize hAe : va_A (xW cI cP a o f g pa tv n pd pk pv) s.heap.size = A at hD ⊢
  have hA : ∀ q : Nat, s.heap.size ≤ q → A q := fun q h => by rw [← hAe]; exact Or.inr h
  obtain ⟨H, hHe⟩ : ∃ H : Heap, H = s.heap := ⟨_, rfl⟩
  have hS : va_S A s.heap H [] := by rw [hHe]; exact va_S.rf
  rw [← hHe] at hP ⊢
  have hP : va_P (dC, dI) vwCl (xW cI cP a o f g pa tv n pd pk pv) H := hP
  have hl := lv_entry ([.ref (a), .int (x), .int (y), .int (z), .int (q)]) (n := 12) (Nat.le_of_ble_eq_true rfl)
  rw [lg_entry_eq]
  generalize (lg_sl ([.ref (a), .int (x), .int (y), .int (z), .int (q)]) ++ List.replicate (12 - (lg_sl ([.ref (a), .int (x), .int (y), .int (z), .int (q)])).length) Slot.unset).toArray = ls at hl ⊢
  have hl : lv_has ls 12 [(0, .ref (a)), (1, .int (x)), (2, .int (y)), (3, .int (z)), (4, .int (q))] := hl
  have hin0 : ∀ w ∈ wsX00, w ∈ wsX7_ageing := fun _ h => List.mem_cons_of_mem _ (List.mem_append_left _ (List.mem_append_left _ (List.mem_append_left _ (List.mem_append_left _ (List.mem_append_left _ (List.mem_append_right _ h))))))
  have hin2 : ∀ w ∈ wsX20, w ∈ wsX7_ageing := fun _ h => List.mem_cons_of_mem _ (List.mem_append_left _ (List.mem_append_left _ (List.mem_append_left _ (List.mem_append_left _ (List.mem_append_right _ h)))))
  have hin4 : ∀ w ∈ wsX40, w ∈ wsX7_ageing := fun _ h => List.mem_cons_of_mem _ (List.mem_append_left _ (List.mem_append_left _ (List.mem_append_left _ (List.mem_append_right _ h))))
  have hin5 : ∀ w ∈ wsX50, w ∈ wsX7_ageing := fun _ h => List.mem_cons_of_mem _ (List.mem_append_left _ (List.mem_append_left _ (List.mem_append_right _ h)))
  have hin6 : ∀ w ∈ wsX60, w ∈ wsX7_ageing := fun _ h => List.mem_cons_of_mem _ (List.mem_append_left _ (List.mem_append_right _ h))
  have hin7 : ∀ w ∈ wsX70, w ∈ wsX7_ageing := fun _ h => List.mem_cons_of_mem _ (List.mem_append_right _ h)
  have hW0 := hts (.fieldLink RX7 107 "EachEye$Person" "left" "I") (by decide +kernel)
  have hW1 := hts (.fieldLink RX7 110 "EachEye$Person" "right" "I") (by decide +kernel)
  have hW2 := hts (.fieldLink RX7 39 "EachEye" "theSign" "I") (by decide +kernel)
  refine lv_aload_n hx hb dX7_ageing_0 rfl (lv_at hl 0 rfl) ?_
  refine lv_iload_n hx hb dX7_ageing_1 rfl (lv_at hl 1 rfl) ?_
  refine va_csq (va_Run.run (va_runV (As := [.int (x)]) (rest := []) ⟨hx, hb, hml, hown, hts⟩ (c7_known l dC dI cI cP a o f g pa tv n pd pk pv e7 (by omega) hpa hpk (x) ) (cwV 1 hts gX7_ageing_X7_known rfl rfl rfl (by decide +kernel) ⟨Nat.le_of_ble_eq_true rfl, Nat.le_of_ble_eq_true rfl⟩) ⟨fun a U g mk q => ⟨q.1, q.2.1, va_K.moved (u := U) (U := U.calling g mk a) (Vm.Alike.refl U.vm) q.2.2.1, xN.same (u := U) (U := U.calling g mk a) rfl q.2.2.2⟩, va_recv hK hP (ci := 7) (q0 := 0) rfl rfl, fun U hU hW => ⟨rfl, by rw [hU]; exact hP, va_K.moved hW.alike hK, xN.warm hW hN⟩⟩ rfl rfl hl.1 rfl (lv_room (Nat.le_of_ble_eq_true rfl)) dX7_ageing_2 ⟨Nat.le_of_ble_eq_true rfl, Nat.le_of_ble_eq_true rfl⟩)) (fun r hrc => ?_)
  have hrc : r = xKn n pd (x) := hrc
  subst hrc
  by_cases h_1 : 0 ≤ (x).toInt ∧ (x).toInt < (n : Int)
  · skip
    refine rf_s (xKn_s h_1) ?_
    refine lv_astore (lv' := [(5, .ref (pd (x.toInt.toNat))), (0, .ref (a)), (1, .int (x)), (2, .int (y)), (3, .int (z)), (4, .int (q))]) hx hb dX7_ageing_5 hl (by decide) rfl (fun ls hl => ?_)
    refine lv_aload hx hb dX7_ageing_7 (lv_at hl 0 rfl) ?_
    refine lv_ifnonnull (tgt := 15) hx hb dX7_ageing_9 (by decide) ?_
    refine lv_iload_n hx hb dX7_ageing_15 rfl (lv_at hl 3 rfl) ?_
    refine lv_iconst (v := nI (1)) hx hb dX7_ageing_16 (by decide +kernel) ?_
    refine lv_icmp_lt (tgt := 41) hx hb dX7_ageing_17 (by decide) (fun c_2 => ?_) (fun c_2 => ?_)
    · skip
      rw [lti, tn (n := 1) (by omega)] at c_2
      refine lv_bipush (v := (-102)) hx hb dX7_ageing_41 (by decide +kernel) ?_
      have hP9 : va_P (dC, dI) vwCl (xW cI cP a o f g pa tv n pd pk pv) H := hP
      exact W.iret (v := (-102)) hx hb hr (fun t ht hW => ⟨⟨(-102), (f, g, pa, tv, n, pd, pk, pv), rfl, (by show (((-102), (f, g, pa, tv, n, pd, pk, pv)) : _ × XSt) = xAgeing f g pa tv n pd pk pv x y z q; rw [xAgeing, if_pos h_1, if_neg (by omega)]), by rw [ht]; exact hP9, va_K.moved hW.alike hK, hD⟩, hS.F ht⟩) hS.2.2 dX7_ageing_43
    · skip
      rw [lti, tn (n := 1) (by omega)] at c_2
      refine lv_iload_n hx hb dX7_ageing_20 rfl (lv_at hl 3 rfl) ?_
      refine lv_bipush (v := nI (60)) hx hb dX7_ageing_21 (by decide +kernel) ?_
      refine lv_icmp_gt (tgt := 41) hx hb dX7_ageing_23 (by decide) (fun c_3 => ?_) (fun c_3 => ?_)
      · skip
        rw [lti, tn (n := 60) (by omega)] at c_3
        refine lv_bipush (v := (-102)) hx hb dX7_ageing_41 (by decide +kernel) ?_
        have hP9 : va_P (dC, dI) vwCl (xW cI cP a o f g pa tv n pd pk pv) H := hP
        exact W.iret (v := (-102)) hx hb hr (fun t ht hW => ⟨⟨(-102), (f, g, pa, tv, n, pd, pk, pv), rfl, (by show (((-102), (f, g, pa, tv, n, pd, pk, pv)) : _ × XSt) = xAgeing f g pa tv n pd pk pv x y z q; rw [xAgeing, if_pos h_1, if_neg (by omega)]), by rw [ht]; exact hP9, va_K.moved hW.alike hK, hD⟩, hS.F ht⟩) hS.2.2 dX7_ageing_43
      · skip
        rw [lti, tn (n := 60) (by omega)] at c_3
        refine lv_iload_n hx hb dX7_ageing_26 rfl (lv_at hl 4 rfl) ?_
        refine lv_if_lt (tgt := 41) hx hb dX7_ageing_27 (by decide) (fun c_4 => ?_) (fun c_4 => ?_)
        · skip
          rw [lti, show (0 : Int32).toInt = 0 from rfl] at c_4
          refine lv_bipush (v := (-102)) hx hb dX7_ageing_41 (by decide +kernel) ?_
          have hP9 : va_P (dC, dI) vwCl (xW cI cP a o f g pa tv n pd pk pv) H := hP
          exact W.iret (v := (-102)) hx hb hr (fun t ht hW => ⟨⟨(-102), (f, g, pa, tv, n, pd, pk, pv), rfl, (by show (((-102), (f, g, pa, tv, n, pd, pk, pv)) : _ × XSt) = xAgeing f g pa tv n pd pk pv x y z q; rw [xAgeing, if_pos h_1, if_neg (by omega)]), by rw [ht]; exact hP9, va_K.moved hW.alike hK, hD⟩, hS.F ht⟩) hS.2.2 dX7_ageing_43
        · skip
          rw [lti, show (0 : Int32).toInt = 0 from rfl] at c_4
          refine lv_iload hx hb dX7_ageing_30 (lv_at hl 5 rfl) ?_
          refine lv_if_lt (tgt := 41) hx hb dX7_ageing_32 (by decide) (fun c_5 => ?_) (fun c_5 => ?_)
          · skip
            rw [lti, show (0 : Int32).toInt = 0 from rfl] at c_5
            refine lv_bipush (v := (-102)) hx hb dX7_ageing_41 (by decide +kernel) ?_
            have hP9 : va_P (dC, dI) vwCl (xW cI cP a o f g pa tv n pd pk pv) H := hP
            exact W.iret (v := (-102)) hx hb hr (fun t ht hW => ⟨⟨(-102), (f, g, pa, tv, n, pd, pk, pv), rfl, (by show (((-102), (f, g, pa, tv, n, pd, pk, pv)) : _ × XSt) = xAgeing f g pa tv n pd pk pv x y z q; rw [xAgeing, if_pos h_1, if_neg (by omega)]), by rw [ht]; exact hP9, va_K.moved hW.alike hK, hD⟩, hS.F ht⟩) hS.2.2 dX7_ageing_43
          · skip
            rw [lti, show (0 : Int32).toInt = 0 from rfl] at c_5
            refine lv_iload hx hb dX7_ageing_35 (lv_at hl 5 rfl) ?_
            refine lv_iconst (v := nI (2)) hx hb dX7_ageing_37 (by decide +kernel) ?_
            refine lv_icmp_le (tgt := 44) hx hb dX7_ageing_38 (by decide) (fun c_6 => ?_) (fun c_6 => ?_)
            · skip
              rw [lei, tn (n := 2) (by omega)] at c_6
              have hk5 : pk (x.toInt.toNat) < 5 := hpk _ (by omega)
              refine lv_aload_n hx hb dX7_ageing_44 rfl (lv_at hl 1 rfl) ?_
              refine lv_aload hx hb dX7_ageing_45 (lv_at hl 0 rfl) ?_
              refine cg_kind ⟨hx, hb, hml, hown, hts⟩ hts gX7_ageing_X0_kind_u123X0 gX7_ageing_X2_kind_u123X2 gX7_ageing_X4_kind gX7_ageing_X5_kind_u123X5 gX7_ageing_X6_kind_u123X6 hK hP (17 + (x.toInt.toNat)) (hpk _ (by omega)) (xw_p (by omega)) hl.1 (Nat.le_of_ble_eq_true rfl) ⟨Nat.le_of_ble_eq_true rfl, Nat.le_of_ble_eq_true rfl⟩ ⟨Nat.le_of_ble_eq_true rfl, Nat.le_of_ble_eq_true rfl⟩ dX7_ageing_47 ?_
              refine lv_aload hx hb dX7_ageing_50 (lv_at hl 0 rfl) ?_
              refine pe_get hx hb hts hin0 hin2 hin4 hin5 hin6 hown hK hP (17 + (x.toInt.toNat)) (hpk _ (by omega)) (xw_p (by omega)) 0 (by decide) hW0 dX7_ageing_52 ?_
              refine lv_aload hx hb dX7_ageing_55 (lv_at hl 0 rfl) ?_
              refine pe_get hx hb hts hin0 hin2 hin4 hin5 hin6 hown hK hP (17 + (x.toInt.toNat)) (hpk _ (by omega)) (xw_p (by omega)) 1 (by decide) hW1 dX7_ageing_57 ?_
              have hFc : ∀ q, va_A (xW cI cP a o f g pa tv n pd pk pv) H.size q → A q := fun q h => h.elim (fun ⟨j, e, hj⟩ => hD.2 j (q, e) hj) (fun h => hA q (Nat.le_trans hS.1 h))
              refine va_callr (va_runV (As := [.int (nI (pk (x.toInt.toNat))), .int (pv (x.toInt.toNat) 0), .int (pv (x.toInt.toNat) 1)]) (rest := []) ⟨hx, hb, hml, hown, hts⟩ (c7_trial l dC dI cI cP a o f g pa tv n pd pk pv H.size  (pv (x.toInt.toNat) 0) (pv (x.toInt.toNat) 1) (pk (x.toInt.toNat)) (by omega)) (cwV 3 hts gX7_ageing_X7_trial rfl rfl rfl (by decide +kernel) ⟨Nat.le_of_ble_eq_true rfl, Nat.le_of_ble_eq_true rfl⟩) ⟨fun a U g mk q => by obtain ⟨q0, q1, qP, qK, qN, qD⟩ := q; exact ⟨q0, q1, qP, va_K.moved (u := U) (U := U.calling g mk a) (Vm.Alike.refl U.vm) qK, xN.same (u := U) (U := U.calling g mk a) rfl qN, qD⟩, va_recv hK hP (ci := 7) (q0 := 0) rfl rfl, fun U hU hW => ⟨rfl, by rw [hU], by rw [hU]; exact hP, va_K.moved hW.alike hK, xN.warm hW hN, hD.weaken (fun _ _ _ _ => trivial)⟩⟩ rfl rfl hl.1 rfl (lv_room (Nat.le_of_ble_eq_true rfl)) dX7_ageing_60 ⟨Nat.le_of_ble_eq_true rfl, Nat.le_of_ble_eq_true rfl⟩) hS (fun q _ h => hFc q h) hFc (fun u ra t H1 locs ht hvm hw hB hz1 hk1 hS => ?_)
              have hw : u = ((f, g, pa, su tv (pk (x.toInt.toNat)) (su (su (tv (pk (x.toInt.toNat))) 0 (pv (x.toInt.toNat) 0)) 1 (pv (x.toInt.toNat) 1)), n, pd, pk, pv) : XSt) := hw
              subst hw
              obtain ⟨hra, hP1, hK1, hD1⟩ := hB
              rw [ht] at hP1
              have hra : ra = o (11 + (pk (x.toInt.toNat))) := hra
              subst hra
              have hP : va_P (dC, dI) vwCl (xW cI cP a o f g pa (su tv (pk (x.toInt.toNat)) (su (su (tv (pk (x.toInt.toNat))) 0 (pv (x.toInt.toNat) 0)) 1 (pv (x.toInt.toNat) 1))) n pd pk pv) H1 := hP1
              have hD : va_D A (xW cI cP a o f g pa (su tv (pk (x.toInt.toNat)) (su (su (tv (pk (x.toInt.toNat))) 0 (pv (x.toInt.toNat) 0)) 1 (pv (x.toInt.toNat) 1))) n pd pk pv) := hD1.weaken (fun _ _ _ h => hFc _ h)
              clear hP1 hD1 hK1 hFc hk1 hz1
              generalize H1 = H at hP hS ⊢
              have hP : va_P (dC, dI) vwCl (xW cI cP a o f g pa (su tv (pk (x.toInt.toNat)) (su (su (tv (pk (x.toInt.toNat))) 0 (pv (x.toInt.toNat) 0)) 1 (pv (x.toInt.toNat) 1))) n pd pk pv) H := hP
              have hD : va_D A (xW cI cP a o f g pa (su tv (pk (x.toInt.toNat)) (su (su (tv (pk (x.toInt.toNat))) 0 (pv (x.toInt.toNat) 0)) 1 (pv (x.toInt.toNat) 1))) n pd pk pv) := hD
              refine lv_astore (lv' := [(6, .ref (o (11 + (pk (x.toInt.toNat))))), (5, .ref (pd (x.toInt.toNat))), (0, .ref (a)), (1, .int (x)), (2, .int (y)), (3, .int (z)), (4, .int (q))]) hx hb dX7_ageing_63 hl (by decide) rfl (fun ls hl => ?_)
              refine lv_aload hx hb dX7_ageing_65 (lv_at hl 1 rfl) ?_
              refine lv_aload_n hx hb dX7_ageing_67 rfl (lv_at hl 2 rfl) ?_
              refine va_get (D := (dC, dI)) (ci := 7) (v := .int (f 6)) (C := RX7) (T := TX7) (N := 16) hx hb hts hin7 hown hK hP 0 rfl rfl 6 (by decide) hW2 (fun _ h9 => h9) rfl dX7_ageing_68 ?_
              refine cf_reading ⟨hx, hb, hml, hown, hts⟩ hts gX7_ageing_X4_reading_u168X0 gX7_ageing_X4_reading_u168X2 gX7_ageing_X4_reading gX7_ageing_X4_reading_u168X5 gX7_ageing_X4_reading_u168X6 hN hK hP (17 + (x.toInt.toNat)) (hpk _ (by omega)) (xw_p (by omega)) hl.1 (Nat.le_of_ble_eq_true rfl) ⟨Nat.le_of_ble_eq_true rfl, Nat.le_of_ble_eq_true rfl⟩ ⟨Nat.le_of_ble_eq_true rfl, Nat.le_of_ble_eq_true rfl⟩ dX7_ageing_71 ?_
              refine lv_istore (lv' := [(7, .int (xRead (pk (x.toInt.toNat)) (pv (x.toInt.toNat) 0) (pv (x.toInt.toNat) 1) (f 6) 6)), (6, .ref (o (11 + (pk (x.toInt.toNat))))), (5, .ref (pd (x.toInt.toNat))), (0, .ref (a)), (1, .int (x)), (2, .int (y)), (3, .int (z)), (4, .int (q))]) hx hb dX7_ageing_74 hl (by decide) rfl (fun ls hl => ?_)
              refine lv_iconst (v := (-1)) hx hb dX7_ageing_76 (by decide +kernel) ?_
              refine lv_istore (lv' := [(8, .int ((-1))), (7, .int (xRead (pk (x.toInt.toNat)) (pv (x.toInt.toNat) 0) (pv (x.toInt.toNat) 1) (f 6) 6)), (6, .ref (o (11 + (pk (x.toInt.toNat))))), (5, .ref (pd (x.toInt.toNat))), (0, .ref (a)), (1, .int (x)), (2, .int (y)), (3, .int (z)), (4, .int (q))]) hx hb dX7_ageing_77 hl (by decide) rfl (fun ls hl => ?_)
              refine lv_iload_n hx hb dX7_ageing_79 rfl (lv_at hl 7 rfl) ?_
              refine lv_istore (lv' := [(9, .int (z)), (8, .int ((-1))), (7, .int (xRead (pk (x.toInt.toNat)) (pv (x.toInt.toNat) 0) (pv (x.toInt.toNat) 1) (f 6) 6)), (6, .ref (o (11 + (pk (x.toInt.toNat))))), (5, .ref (pd (x.toInt.toNat))), (0, .ref (a)), (1, .int (x)), (2, .int (y)), (3, .int (z)), (4, .int (q))]) hx hb dX7_ageing_80 hl (by decide) rfl (fun ls hl => ?_)
              refine lv_iconst (v := nI (1)) hx hb dX7_ageing_82 (by decide +kernel) ?_
              refine lv_istore (lv' := [(10, .int (nI (1))), (9, .int (z)), (8, .int ((-1))), (7, .int (xRead (pk (x.toInt.toNat)) (pv (x.toInt.toNat) 0) (pv (x.toInt.toNat) 1) (f 6) 6)), (6, .ref (o (11 + (pk (x.toInt.toNat))))), (5, .ref (pd (x.toInt.toNat))), (0, .ref (a)), (1, .int (x)), (2, .int (y)), (3, .int (z)), (4, .int (q))]) hx hb dX7_ageing_83 hl (by decide) rfl (fun ls hl => ?_)
              have e0_8 : ((-1)) = xAgC (pk (x.toInt.toNat)) (xAgW tv pk pv x.toInt.toNat) z (f 6) (xRead (pk (x.toInt.toNat)) (pv (x.toInt.toNat) 0) (pv (x.toInt.toNat) 1) (f 6) 6) 0 := rfl
              have e0_9 : (z) = xAgS z 0 := rfl
              have hP0 : va_P (dC, dI) vwCl (xW cI cP a o f g pa (su tv (pk (x.toInt.toNat)) (xAgV (xAgW tv pk pv x.toInt.toNat) z 0)) n pd pk pv) H := by skip; exact hP
              have hD0 : va_D A (xW cI cP a o f g pa (su tv (pk (x.toInt.toNat)) (xAgV (xAgW tv pk pv x.toInt.toNat) z 0)) n pd pk pv) := by skip; exact hD
              refine lp_rw (fun j : Nat => y.toInt.toNat - j) (fun j : Nat => j ≤ y.toInt.toNat) (fun j : Nat => [(0, .ref (a)), (1, .int (x)), (2, .int (y)), (3, .int (z)), (4, .int (q)), (5, .ref (pd (x.toInt.toNat))), (6, .ref (o (11 + (pk (x.toInt.toNat))))), (7, .int (xRead (pk (x.toInt.toNat)) (pv (x.toInt.toNat) 0) (pv (x.toInt.toNat) 1) (f 6) 6)), (8, .int (xAgC (pk (x.toInt.toNat)) (xAgW tv pk pv x.toInt.toNat) z (f 6) (xRead (pk (x.toInt.toNat)) (pv (x.toInt.toNat) 0) (pv (x.toInt.toNat) 1) (f 6) 6) j)), (9, .int (xAgS z j)), (10, .int (nI (j + 1)))]) (fun j : Nat => xW cI cP a o f g pa (su tv (pk (x.toInt.toNat)) (xAgV (xAgW tv pk pv x.toInt.toNat) z j)) n pd pk pv) (0) (by omega) hP0 hD0 hS (by show lv_has ls 12 [(0, .ref (a)), (1, .int (x)), (2, .int (y)), (3, .int (z)), (4, .int (q)), (5, .ref (pd (x.toInt.toNat))), (6, .ref (o (11 + (pk (x.toInt.toNat))))), (7, .int (xRead (pk (x.toInt.toNat)) (pv (x.toInt.toNat) 0) (pv (x.toInt.toNat) 1) (f 6) 6)), (8, .int (xAgC (pk (x.toInt.toNat)) (xAgW tv pk pv x.toInt.toNat) z (f 6) (xRead (pk (x.toInt.toNat)) (pv (x.toInt.toNat) 0) (pv (x.toInt.toNat) 1) (f 6) 6) 0)), (9, .int (xAgS z 0)), (10, .int (nI (0 + 1)))]; rw [← e0_8, ← e0_9]; exact lv_sub hl [6, 7, 8, 9, 10, 5, 4, 3, 2, 1, 0] rfl) (fun j hI ih_85 H locs ls hP hD hS hl => ?_)
              have hP : va_P (dC, dI) vwCl (xW cI cP a o f g pa (su tv (pk (x.toInt.toNat)) (xAgV (xAgW tv pk pv x.toInt.toNat) z j)) n pd pk pv) H := hP
              have hD : va_D A (xW cI cP a o f g pa (su tv (pk (x.toInt.toNat)) (xAgV (xAgW tv pk pv x.toInt.toNat) z j)) n pd pk pv) := hD
              have hI : j ≤ y.toInt.toNat := hI
              have hl : lv_has ls 12 [(0, .ref (a)), (1, .int (x)), (2, .int (y)), (3, .int (z)), (4, .int (q)), (5, .ref (pd (x.toInt.toNat))), (6, .ref (o (11 + (pk (x.toInt.toNat))))), (7, .int (xRead (pk (x.toInt.toNat)) (pv (x.toInt.toNat) 0) (pv (x.toInt.toNat) 1) (f 6) 6)), (8, .int (xAgC (pk (x.toInt.toNat)) (xAgW tv pk pv x.toInt.toNat) z (f 6) (xRead (pk (x.toInt.toNat)) (pv (x.toInt.toNat) 0) (pv (x.toInt.toNat) 1) (f 6) 6) j)), (9, .int (xAgS z j)), (10, .int (nI (j + 1)))] := hl
              refine lv_iload hx hb dX7_ageing_85 (lv_at hl 10 rfl) ?_
              refine lv_iload_n hx hb dX7_ageing_87 rfl (lv_at hl 2 rfl) ?_
              refine tq (ix_int (by omega)) ?_
              refine lv_icmp_gt (tgt := 157) hx hb dX7_ageing_88 (by decide) (fun c_7 => ?_) (fun c_7 => ?_)
              · skip
                rw [nI_ltI (a := y.toInt.toNat) (b := j + 1) (by omega) (by omega)] at c_7
                have hE : y.toInt.toNat = j := by omega
                subst hE
                refine lv_iload hx hb dX7_ageing_157 (lv_at hl 4 rfl) ?_
                by_cases c_8 : (q).toInt = 0
                · skip
                  refine lv_lookup (tgt := 184) hx hb dX7_ageing_159 (by decide) (by rw [c_8]; try rfl) (by decide) ?_
                  refine lv_iload hx hb dX7_ageing_184 (lv_at hl 8 rfl) ?_
                  have hP9 : va_P (dC, dI) vwCl (xW cI cP a o f g pa (su tv (pk (x.toInt.toNat)) (xAgV (xAgW tv pk pv x.toInt.toNat) z (y.toInt.toNat))) n pd pk pv) H := hP
                  exact W.iret (v := xAgC (pk (x.toInt.toNat)) (xAgW tv pk pv x.toInt.toNat) z (f 6) (xRead (pk (x.toInt.toNat)) (pv (x.toInt.toNat) 0) (pv (x.toInt.toNat) 1) (f 6) 6) (y.toInt.toNat)) hx hb hr (fun t ht hW => ⟨⟨xAgC (pk (x.toInt.toNat)) (xAgW tv pk pv x.toInt.toNat) z (f 6) (xRead (pk (x.toInt.toNat)) (pv (x.toInt.toNat) 0) (pv (x.toInt.toNat) 1) (f 6) 6) (y.toInt.toNat), (f, g, pa, su tv (pk (x.toInt.toNat)) (xAgV (xAgW tv pk pv x.toInt.toNat) z (y.toInt.toNat)), n, pd, pk, pv), rfl, (by show ((xAgC (pk (x.toInt.toNat)) (xAgW tv pk pv x.toInt.toNat) z (f 6) (xRead (pk (x.toInt.toNat)) (pv (x.toInt.toNat) 0) (pv (x.toInt.toNat) 1) (f 6) 6) (y.toInt.toNat), (f, g, pa, su tv (pk (x.toInt.toNat)) (xAgV (xAgW tv pk pv x.toInt.toNat) z (y.toInt.toNat)), n, pd, pk, pv)) : _ × XSt) = xAgeing f g pa tv n pd pk pv x y z q; rw [xAgeing, if_pos h_1, if_pos ⟨by omega, by omega, by omega, by omega, by omega⟩, xAgR, if_pos c_8]; rfl), by rw [ht]; exact hP9, va_K.moved hW.alike hK, hD⟩, hS.F ht⟩) hS.2.2 dX7_ageing_186
                · skip
                  by_cases c_9 : (q).toInt = 1
                  · skip
                    refine lv_lookup (tgt := 187) hx hb dX7_ageing_159 (by decide) (by rw [c_9]; try rfl) (by decide) ?_
                    refine lv_aload hx hb dX7_ageing_187 (lv_at hl 6 rfl) ?_
                    refine pe_get hx hb hts hin0 hin2 hin4 hin5 hin6 hown hK hP (12 + (pk (x.toInt.toNat))) (by omega) (xw_tq (by omega) (su_s _ _ _)) 0 (by decide) hW0 dX7_ageing_189 ?_
                    refine vp_callSi (va_Run.run (va_runS (As := [.int ((xAgV (xAgW tv pk pv x.toInt.toNat) z (y.toInt.toNat)) 0)]) (rest := []) ⟨hx, hb, hml, hown, hts⟩ (c99_bitCount l ((xAgV (xAgW tv pk pv x.toInt.toNat) z (y.toInt.toNat)) 0)) (va_cwS 1 hts gX7_ageing_J6_bitCount_0f7a4 rfl rfl rfl (by decide +kernel) ⟨Nat.le_of_ble_eq_true rfl, Nat.le_of_ble_eq_true rfl⟩) ⟨fun _ _ _ _ q => q, fun U hU hW => ⟨rfl, trivial⟩⟩ rfl rfl hl.1 rfl (lv_room (Nat.le_of_ble_eq_true rfl)) dX7_ageing_192 ⟨Nat.le_of_ble_eq_true rfl, Nat.le_of_ble_eq_true rfl⟩)) (fun r hrc => ?_)
                    have hrc : r = xbc ((xAgV (xAgW tv pk pv x.toInt.toNat) z (y.toInt.toNat)) 0) := hrc
                    subst hrc
                    refine lv_aload hx hb dX7_ageing_195 (lv_at hl 6 rfl) ?_
                    refine pe_get hx hb hts hin0 hin2 hin4 hin5 hin6 hown hK hP (12 + (pk (x.toInt.toNat))) (by omega) (xw_tq (by omega) (su_s _ _ _)) 1 (by decide) hW1 dX7_ageing_197 ?_
                    refine vp_callSi (va_Run.run (va_runS (As := [.int ((xAgV (xAgW tv pk pv x.toInt.toNat) z (y.toInt.toNat)) 1)]) (rest := [.int (xbc ((xAgV (xAgW tv pk pv x.toInt.toNat) z (y.toInt.toNat)) 0))]) ⟨hx, hb, hml, hown, hts⟩ (c99_bitCount l ((xAgV (xAgW tv pk pv x.toInt.toNat) z (y.toInt.toNat)) 1)) (va_cwS 1 hts gX7_ageing_J6_bitCount_0f7a4 rfl rfl rfl (by decide +kernel) ⟨Nat.le_of_ble_eq_true rfl, Nat.le_of_ble_eq_true rfl⟩) ⟨fun _ _ _ _ q => q, fun U hU hW => ⟨rfl, trivial⟩⟩ rfl rfl hl.1 rfl (lv_room (Nat.le_of_ble_eq_true rfl)) dX7_ageing_200 ⟨Nat.le_of_ble_eq_true rfl, Nat.le_of_ble_eq_true rfl⟩)) (fun r hrc => ?_)
                    have hrc : r = xbc ((xAgV (xAgW tv pk pv x.toInt.toNat) z (y.toInt.toNat)) 1) := hrc
                    subst hrc
                    refine lv_iadd hx hb dX7_ageing_203 ?_
                    have hP9 : va_P (dC, dI) vwCl (xW cI cP a o f g pa (su tv (pk (x.toInt.toNat)) (xAgV (xAgW tv pk pv x.toInt.toNat) z (y.toInt.toNat))) n pd pk pv) H := hP
                    exact W.iret (v := (xbc ((xAgV (xAgW tv pk pv x.toInt.toNat) z (y.toInt.toNat)) 0)) + (xbc ((xAgV (xAgW tv pk pv x.toInt.toNat) z (y.toInt.toNat)) 1))) hx hb hr (fun t ht hW => ⟨⟨(xbc ((xAgV (xAgW tv pk pv x.toInt.toNat) z (y.toInt.toNat)) 0)) + (xbc ((xAgV (xAgW tv pk pv x.toInt.toNat) z (y.toInt.toNat)) 1)), (f, g, pa, su tv (pk (x.toInt.toNat)) (xAgV (xAgW tv pk pv x.toInt.toNat) z (y.toInt.toNat)), n, pd, pk, pv), rfl, (by show (((xbc ((xAgV (xAgW tv pk pv x.toInt.toNat) z (y.toInt.toNat)) 0)) + (xbc ((xAgV (xAgW tv pk pv x.toInt.toNat) z (y.toInt.toNat)) 1)), (f, g, pa, su tv (pk (x.toInt.toNat)) (xAgV (xAgW tv pk pv x.toInt.toNat) z (y.toInt.toNat)), n, pd, pk, pv)) : _ × XSt) = xAgeing f g pa tv n pd pk pv x y z q; rw [xAgeing, if_pos h_1, if_pos ⟨by omega, by omega, by omega, by omega, by omega⟩, xAgR, if_neg c_8, if_pos c_9]; rfl), by rw [ht]; exact hP9, va_K.moved hW.alike hK, hD⟩, hS.F ht⟩) hS.2.2 dX7_ageing_204
                  · skip
                    refine lv_lookup (tgt := 205) (off := 46) hx hb dX7_ageing_159 (by decide) (by show (if _ = _ then _ else (if _ = _ then _ else _)) = _; rw [if_neg (fun z => c_8 z.symm), if_neg (fun z => c_9 z.symm)]; try rfl) (by decide) ?_
                    refine lv_iload hx hb dX7_ageing_205 (lv_at hl 9 rfl) ?_
                    have hP9 : va_P (dC, dI) vwCl (xW cI cP a o f g pa (su tv (pk (x.toInt.toNat)) (xAgV (xAgW tv pk pv x.toInt.toNat) z (y.toInt.toNat))) n pd pk pv) H := hP
                    exact W.iret (v := xAgS z (y.toInt.toNat)) hx hb hr (fun t ht hW => ⟨⟨xAgS z (y.toInt.toNat), (f, g, pa, su tv (pk (x.toInt.toNat)) (xAgV (xAgW tv pk pv x.toInt.toNat) z (y.toInt.toNat)), n, pd, pk, pv), rfl, (by show ((xAgS z (y.toInt.toNat), (f, g, pa, su tv (pk (x.toInt.toNat)) (xAgV (xAgW tv pk pv x.toInt.toNat) z (y.toInt.toNat)), n, pd, pk, pv)) : _ × XSt) = xAgeing f g pa tv n pd pk pv x y z q; rw [xAgeing, if_pos h_1, if_pos ⟨by omega, by omega, by omega, by omega, by omega⟩, xAgR, if_neg c_8, if_neg c_9]; rfl), by rw [ht]; exact hP9, va_K.moved hW.alike hK, hD⟩, hS.F ht⟩) hS.2.2 dX7_ageing_207
              · skip
                rw [nI_ltI (a := y.toInt.toNat) (b := j + 1) (by omega) (by omega)] at c_7
                refine lv_iload hx hb dX7_ageing_91 (lv_at hl 9 rfl) ?_
                refine vp_callSi (va_Run.run (va_runS (As := [.int (xAgS z j)]) (rest := []) ⟨hx, hb, hml, hown, hts⟩ (c7_nextSeed l (xAgS z j)) (va_cwS 1 hts gX7_ageing_X7_nextSeed rfl rfl rfl (by decide +kernel) ⟨Nat.le_of_ble_eq_true rfl, Nat.le_of_ble_eq_true rfl⟩) ⟨fun _ _ _ _ q => q, fun U hU hW => ⟨rfl, trivial⟩⟩ rfl rfl hl.1 rfl (lv_room (Nat.le_of_ble_eq_true rfl)) dX7_ageing_93 ⟨Nat.le_of_ble_eq_true rfl, Nat.le_of_ble_eq_true rfl⟩)) (fun r hrc => ?_)
                have hrc : r = nxs (xAgS z j) := hrc
                subst hrc
                refine lv_istore (lv' := [(9, .int (nxs (xAgS z j))), (0, .ref (a)), (1, .int (x)), (2, .int (y)), (3, .int (z)), (4, .int (q)), (5, .ref (pd (x.toInt.toNat))), (6, .ref (o (11 + (pk (x.toInt.toNat))))), (7, .int (xRead (pk (x.toInt.toNat)) (pv (x.toInt.toNat) 0) (pv (x.toInt.toNat) 1) (f 6) 6)), (8, .int (xAgC (pk (x.toInt.toNat)) (xAgW tv pk pv x.toInt.toNat) z (f 6) (xRead (pk (x.toInt.toNat)) (pv (x.toInt.toNat) 0) (pv (x.toInt.toNat) 1) (f 6) 6) j)), (10, .int (nI (j + 1)))]) hx hb dX7_ageing_96 hl (by decide) rfl (fun ls hl => ?_)
                refine lv_iload hx hb dX7_ageing_98 (lv_at hl 0 rfl) ?_
                refine lv_iconst (v := nI (2)) hx hb dX7_ageing_100 (by decide +kernel) ?_
                refine vp_callSi (va_Run.run (va_runS (As := [.int (nxs (xAgS z j)), .int (nI (2))]) (rest := []) ⟨hx, hb, hml, hown, hts⟩ (c7_drawn l (nxs (xAgS z j)) (2)) (va_cwS 2 hts gX7_ageing_X7_drawn rfl rfl rfl (by decide +kernel) ⟨Nat.le_of_ble_eq_true rfl, Nat.le_of_ble_eq_true rfl⟩) ⟨fun _ _ _ _ q => q, fun U hU hW => ⟨rfl, trivial⟩⟩ rfl rfl hl.1 rfl (lv_room (Nat.le_of_ble_eq_true rfl)) dX7_ageing_101 ⟨Nat.le_of_ble_eq_true rfl, Nat.le_of_ble_eq_true rfl⟩)) (fun r hrc => ?_)
                have hrc : r = ((nxs (xAgS z j)) >>> (nI 16 &&& 31)) &&& (nI (2) - nI 1) := hrc
                subst hrc
                refine lv_istore (lv' := [(11, .int (((nxs (xAgS z j)) >>> (nI 16 &&& 31)) &&& (nI (2) - nI 1))), (9, .int (nxs (xAgS z j))), (0, .ref (a)), (1, .int (x)), (2, .int (y)), (3, .int (z)), (4, .int (q)), (5, .ref (pd (x.toInt.toNat))), (6, .ref (o (11 + (pk (x.toInt.toNat))))), (7, .int (xRead (pk (x.toInt.toNat)) (pv (x.toInt.toNat) 0) (pv (x.toInt.toNat) 1) (f 6) 6)), (8, .int (xAgC (pk (x.toInt.toNat)) (xAgW tv pk pv x.toInt.toNat) z (f 6) (xRead (pk (x.toInt.toNat)) (pv (x.toInt.toNat) 0) (pv (x.toInt.toNat) 1) (f 6) 6) j)), (10, .int (nI (j + 1)))]) hx hb dX7_ageing_104 hl (by decide) rfl (fun ls hl => ?_)
                refine lv_iload hx hb dX7_ageing_106 (lv_at hl 1 rfl) ?_
                refine vp_callSi (va_Run.run (va_runS (As := [.int (nxs (xAgS z j))]) (rest := []) ⟨hx, hb, hml, hown, hts⟩ (c7_nextSeed l (nxs (xAgS z j))) (va_cwS 1 hts gX7_ageing_X7_nextSeed rfl rfl rfl (by decide +kernel) ⟨Nat.le_of_ble_eq_true rfl, Nat.le_of_ble_eq_true rfl⟩) ⟨fun _ _ _ _ q => q, fun U hU hW => ⟨rfl, trivial⟩⟩ rfl rfl hl.1 rfl (lv_room (Nat.le_of_ble_eq_true rfl)) dX7_ageing_108 ⟨Nat.le_of_ble_eq_true rfl, Nat.le_of_ble_eq_true rfl⟩)) (fun r hrc => ?_)
                have hrc : r = nxs (nxs (xAgS z j)) := hrc
                subst hrc
                refine lv_istore (lv' := [(9, .int (nxs (nxs (xAgS z j)))), (11, .int (((nxs (xAgS z j)) >>> (nI 16 &&& 31)) &&& (nI (2) - nI 1))), (0, .ref (a)), (1, .int (x)), (2, .int (y)), (3, .int (z)), (4, .int (q)), (5, .ref (pd (x.toInt.toNat))), (6, .ref (o (11 + (pk (x.toInt.toNat))))), (7, .int (xRead (pk (x.toInt.toNat)) (pv (x.toInt.toNat) 0) (pv (x.toInt.toNat) 1) (f 6) 6)), (8, .int (xAgC (pk (x.toInt.toNat)) (xAgW tv pk pv x.toInt.toNat) z (f 6) (xRead (pk (x.toInt.toNat)) (pv (x.toInt.toNat) 0) (pv (x.toInt.toNat) 1) (f 6) 6) j)), (10, .int (nI (j + 1)))]) hx hb dX7_ageing_111 hl (by decide) rfl (fun ls hl => ?_)
                refine lv_aload hx hb dX7_ageing_113 (lv_at hl 8 rfl) ?_
                refine lv_iload hx hb dX7_ageing_115 (lv_at hl 1 rfl) ?_
                refine lv_iload hx hb dX7_ageing_117 (lv_at hl 0 rfl) ?_
                refine lv_bipush (v := nI (8)) hx hb dX7_ageing_119 (by decide +kernel) ?_
                refine vp_callSi (va_Run.run (va_runS (As := [.int (nxs (nxs (xAgS z j))), .int (nI (8))]) (rest := [.int (((nxs (xAgS z j)) >>> (nI 16 &&& 31)) &&& (nI (2) - nI 1)), .ref (o (11 + (pk (x.toInt.toNat))))]) ⟨hx, hb, hml, hown, hts⟩ (c7_drawn l (nxs (nxs (xAgS z j))) (8)) (va_cwS 2 hts gX7_ageing_X7_drawn rfl rfl rfl (by decide +kernel) ⟨Nat.le_of_ble_eq_true rfl, Nat.le_of_ble_eq_true rfl⟩) ⟨fun _ _ _ _ q => q, fun U hU hW => ⟨rfl, trivial⟩⟩ rfl rfl hl.1 rfl (lv_room (Nat.le_of_ble_eq_true rfl)) dX7_ageing_121 ⟨Nat.le_of_ble_eq_true rfl, Nat.le_of_ble_eq_true rfl⟩)) (fun r hrc => ?_)
                have hrc : r = ((nxs (nxs (xAgS z j))) >>> (nI 16 &&& 31)) &&& (nI (8) - nI 1) := hrc
                subst hrc
                refine cf_lose ⟨hx, hb, hml, hown, hts⟩ hts gX7_ageing_X4_lose_u177X0 gX7_ageing_X4_lose_u177X2 gX7_ageing_X4_lose gX7_ageing_X4_lose_u177X5 gX7_ageing_X4_lose_u177X6 hK hP hD hS hA (12 + (pk (x.toInt.toNat))) (by omega) (xw_tq (by omega) (su_s _ _ _)) hl.1 (Nat.le_of_ble_eq_true rfl) ⟨Nat.le_of_ble_eq_true rfl, Nat.le_of_ble_eq_true rfl⟩ ⟨Nat.le_of_ble_eq_true rfl, Nat.le_of_ble_eq_true rfl⟩ dX7_ageing_124 (fun H locs hP hD hS => ?_)
                rw [xw_sett (by omega), su_su] at hP hD
                have hP : va_P (dC, dI) vwCl (xW cI cP a o f g pa (su tv (pk (x.toInt.toNat)) (xLose ((xAgV (xAgW tv pk pv x.toInt.toNat) z j)) (((nxs (xAgS z j)) >>> (nI 16 &&& 31)) &&& (nI (2) - nI 1)) (((nxs (nxs (xAgS z j))) >>> (nI 16 &&& 31)) &&& (nI (8) - nI 1)))) n pd pk pv) H := hP
                have hD : va_D A (xW cI cP a o f g pa (su tv (pk (x.toInt.toNat)) (xLose ((xAgV (xAgW tv pk pv x.toInt.toNat) z j)) (((nxs (xAgS z j)) >>> (nI 16 &&& 31)) &&& (nI (2) - nI 1)) (((nxs (nxs (xAgS z j))) >>> (nI 16 &&& 31)) &&& (nI (8) - nI 1)))) n pd pk pv) := hD
                refine lv_iload hx hb dX7_ageing_127 (lv_at hl 10 rfl) ?_
                refine lv_iconst (v := (-1)) hx hb dX7_ageing_129 (by decide +kernel) ?_
                refine lv_icmp_ne (tgt := 151) hx hb dX7_ageing_130 (by decide) (fun c_10 => ?_) (fun c_10 => ?_)
                · skip
                  refine lv_iinc (v := nI (j + 1 + 1)) (lv' := [(10, .int (nI (j + 1 + 1))), (9, .int (nxs (nxs (xAgS z j)))), (11, .int (((nxs (xAgS z j)) >>> (nI 16 &&& 31)) &&& (nI (2) - nI 1))), (0, .ref (a)), (1, .int (x)), (2, .int (y)), (3, .int (z)), (4, .int (q)), (5, .ref (pd (x.toInt.toNat))), (6, .ref (o (11 + (pk (x.toInt.toNat))))), (7, .int (xRead (pk (x.toInt.toNat)) (pv (x.toInt.toNat) 0) (pv (x.toInt.toNat) 1) (f 6) 6)), (8, .int (xAgC (pk (x.toInt.toNat)) (xAgW tv pk pv x.toInt.toNat) z (f 6) (xRead (pk (x.toInt.toNat)) (pv (x.toInt.toNat) 0) (pv (x.toInt.toNat) 1) (f 6) 6) j))]) hx hb dX7_ageing_151 hl (k := 11) rfl (nI_1 _) (by decide) rfl (fun ls hl => ?_)
                  refine lv_goto (tgt := 85) hx hb dX7_ageing_154 (by decide) ?_
                  have e1_8 : (xAgC (pk (x.toInt.toNat)) (xAgW tv pk pv x.toInt.toNat) z (f 6) (xRead (pk (x.toInt.toNat)) (pv (x.toInt.toNat) 0) (pv (x.toInt.toNat) 1) (f 6) 6) j) = xAgC (pk (x.toInt.toNat)) (xAgW tv pk pv x.toInt.toNat) z (f 6) (xRead (pk (x.toInt.toNat)) (pv (x.toInt.toNat) 0) (pv (x.toInt.toNat) 1) (f 6) 6) (j + 1) := by first | (rw [xAgC, if_neg (show ¬ xAgC (pk (x.toInt.toNat)) (xAgW tv pk pv x.toInt.toNat) z (f 6) (xRead (pk (x.toInt.toNat)) (pv (x.toInt.toNat) 0) (pv (x.toInt.toNat) 1) (f 6) 6) j = (-1) from c_10)]; done) | (rw [xAgC, if_pos (show xAgC (pk (x.toInt.toNat)) (xAgW tv pk pv x.toInt.toNat) z (f 6) (xRead (pk (x.toInt.toNat)) (pv (x.toInt.toNat) 0) (pv (x.toInt.toNat) 1) (f 6) 6) j = (-1) from c_7)]; first | exact (if_pos c_10).symm | exact (if_neg c_10).symm)
                  have e1_9 : (nxs (nxs (xAgS z j))) = xAgS z (j + 1) := by rfl
                  have e2_0 : su tv (pk (x.toInt.toNat)) (xLose ((xAgV (xAgW tv pk pv x.toInt.toNat) z j)) (((nxs (xAgS z j)) >>> (nI 16 &&& 31)) &&& (nI (2) - nI 1)) (((nxs (nxs (xAgS z j))) >>> (nI 16 &&& 31)) &&& (nI (8) - nI 1))) = su tv (pk (x.toInt.toNat)) (xAgV (xAgW tv pk pv x.toInt.toNat) z (j + 1)) := by rfl
                  have hP : va_P (dC, dI) vwCl (xW cI cP a o f g pa (su tv (pk (x.toInt.toNat)) (xAgV (xAgW tv pk pv x.toInt.toNat) z (j + 1))) n pd pk pv) H := by rw [← e2_0]; exact hP
                  have hD : va_D A (xW cI cP a o f g pa (su tv (pk (x.toInt.toNat)) (xAgV (xAgW tv pk pv x.toInt.toNat) z (j + 1))) n pd pk pv) := by rw [← e2_0]; exact hD
                  exact ih_85 (j + 1) H locs ls (by show _ < _; omega) (by show _; omega) hP hD hS (by show lv_has ls 12 [(0, .ref (a)), (1, .int (x)), (2, .int (y)), (3, .int (z)), (4, .int (q)), (5, .ref (pd (x.toInt.toNat))), (6, .ref (o (11 + (pk (x.toInt.toNat))))), (7, .int (xRead (pk (x.toInt.toNat)) (pv (x.toInt.toNat) 0) (pv (x.toInt.toNat) 1) (f 6) 6)), (8, .int (xAgC (pk (x.toInt.toNat)) (xAgW tv pk pv x.toInt.toNat) z (f 6) (xRead (pk (x.toInt.toNat)) (pv (x.toInt.toNat) 0) (pv (x.toInt.toNat) 1) (f 6) 6) (j + 1))), (9, .int (xAgS z (j + 1))), (10, .int (nI ((j + 1) + 1)))]; rw [← e1_8, ← e1_9]; exact lv_sub hl [3, 4, 5, 6, 7, 8, 9, 10, 11, 1, 0] rfl)
                · skip
                  refine lv_aload hx hb dX7_ageing_133 (lv_at hl 8 rfl) ?_
                  refine lv_aload_n hx hb dX7_ageing_135 rfl (lv_at hl 2 rfl) ?_
                  refine va_get (D := (dC, dI)) (ci := 7) (v := .int (f 6)) (C := RX7) (T := TX7) (N := 16) hx hb hts hin7 hown hK hP 0 rfl rfl 6 (by decide) hW2 (fun _ h9 => h9) rfl dX7_ageing_136 ?_
                  refine cf_reading ⟨hx, hb, hml, hown, hts⟩ hts gX7_ageing_X4_reading_u168X0 gX7_ageing_X4_reading_u168X2 gX7_ageing_X4_reading gX7_ageing_X4_reading_u168X5 gX7_ageing_X4_reading_u168X6 hN hK hP (12 + (pk (x.toInt.toNat))) (by omega) (xw_tq (by omega) (su_s _ _ _)) hl.1 (Nat.le_of_ble_eq_true rfl) ⟨Nat.le_of_ble_eq_true rfl, Nat.le_of_ble_eq_true rfl⟩ ⟨Nat.le_of_ble_eq_true rfl, Nat.le_of_ble_eq_true rfl⟩ dX7_ageing_139 ?_
                  refine lv_iload hx hb dX7_ageing_142 (lv_at hl 9 rfl) ?_
                  refine lv_icmp_eq (tgt := 151) hx hb dX7_ageing_144 (by decide) (fun c_11 => ?_) (fun c_11 => ?_)
                  · skip
                    refine lv_iinc (v := nI (j + 1 + 1)) (lv' := [(10, .int (nI (j + 1 + 1))), (9, .int (nxs (nxs (xAgS z j)))), (11, .int (((nxs (xAgS z j)) >>> (nI 16 &&& 31)) &&& (nI (2) - nI 1))), (0, .ref (a)), (1, .int (x)), (2, .int (y)), (3, .int (z)), (4, .int (q)), (5, .ref (pd (x.toInt.toNat))), (6, .ref (o (11 + (pk (x.toInt.toNat))))), (7, .int (xRead (pk (x.toInt.toNat)) (pv (x.toInt.toNat) 0) (pv (x.toInt.toNat) 1) (f 6) 6)), (8, .int (xAgC (pk (x.toInt.toNat)) (xAgW tv pk pv x.toInt.toNat) z (f 6) (xRead (pk (x.toInt.toNat)) (pv (x.toInt.toNat) 0) (pv (x.toInt.toNat) 1) (f 6) 6) j))]) hx hb dX7_ageing_151 hl (k := 11) rfl (nI_1 _) (by decide) rfl (fun ls hl => ?_)
                    refine lv_goto (tgt := 85) hx hb dX7_ageing_154 (by decide) ?_
                    have e1_8 : (xAgC (pk (x.toInt.toNat)) (xAgW tv pk pv x.toInt.toNat) z (f 6) (xRead (pk (x.toInt.toNat)) (pv (x.toInt.toNat) 0) (pv (x.toInt.toNat) 1) (f 6) 6) j) = xAgC (pk (x.toInt.toNat)) (xAgW tv pk pv x.toInt.toNat) z (f 6) (xRead (pk (x.toInt.toNat)) (pv (x.toInt.toNat) 0) (pv (x.toInt.toNat) 1) (f 6) 6) (j + 1) := by first | (rw [xAgC, if_neg (show ¬ xAgC (pk (x.toInt.toNat)) (xAgW tv pk pv x.toInt.toNat) z (f 6) (xRead (pk (x.toInt.toNat)) (pv (x.toInt.toNat) 0) (pv (x.toInt.toNat) 1) (f 6) 6) j = (-1) from c_11)]; done) | (rw [xAgC, if_pos (show xAgC (pk (x.toInt.toNat)) (xAgW tv pk pv x.toInt.toNat) z (f 6) (xRead (pk (x.toInt.toNat)) (pv (x.toInt.toNat) 0) (pv (x.toInt.toNat) 1) (f 6) 6) j = (-1) from c_10)]; first | exact (if_pos c_11).symm | exact (if_neg c_11).symm)
                    have e1_9 : (nxs (nxs (xAgS z j))) = xAgS z (j + 1) := by rfl
                    have e2_0 : su tv (pk (x.toInt.toNat)) (xLose ((xAgV (xAgW tv pk pv x.toInt.toNat) z j)) (((nxs (xAgS z j)) >>> (nI 16 &&& 31)) &&& (nI (2) - nI 1)) (((nxs (nxs (xAgS z j))) >>> (nI 16 &&& 31)) &&& (nI (8) - nI 1))) = su tv (pk (x.toInt.toNat)) (xAgV (xAgW tv pk pv x.toInt.toNat) z (j + 1)) := by rfl
                    have hP : va_P (dC, dI) vwCl (xW cI cP a o f g pa (su tv (pk (x.toInt.toNat)) (xAgV (xAgW tv pk pv x.toInt.toNat) z (j + 1))) n pd pk pv) H := by rw [← e2_0]; exact hP
                    have hD : va_D A (xW cI cP a o f g pa (su tv (pk (x.toInt.toNat)) (xAgV (xAgW tv pk pv x.toInt.toNat) z (j + 1))) n pd pk pv) := by rw [← e2_0]; exact hD
                    exact ih_85 (j + 1) H locs ls (by show _ < _; omega) (by show _; omega) hP hD hS (by show lv_has ls 12 [(0, .ref (a)), (1, .int (x)), (2, .int (y)), (3, .int (z)), (4, .int (q)), (5, .ref (pd (x.toInt.toNat))), (6, .ref (o (11 + (pk (x.toInt.toNat))))), (7, .int (xRead (pk (x.toInt.toNat)) (pv (x.toInt.toNat) 0) (pv (x.toInt.toNat) 1) (f 6) 6)), (8, .int (xAgC (pk (x.toInt.toNat)) (xAgW tv pk pv x.toInt.toNat) z (f 6) (xRead (pk (x.toInt.toNat)) (pv (x.toInt.toNat) 0) (pv (x.toInt.toNat) 1) (f 6) 6) (j + 1))), (9, .int (xAgS z (j + 1))), (10, .int (nI ((j + 1) + 1)))]; rw [← e1_8, ← e1_9]; exact lv_sub hl [3, 4, 5, 6, 7, 8, 9, 10, 11, 1, 0] rfl)
                  · skip
                    refine lv_iload hx hb dX7_ageing_147 (lv_at hl 11 rfl) ?_
                    refine lv_istore (lv' := [(8, .int (nI (j + 1))), (9, .int (nxs (nxs (xAgS z j)))), (11, .int (((nxs (xAgS z j)) >>> (nI 16 &&& 31)) &&& (nI (2) - nI 1))), (0, .ref (a)), (1, .int (x)), (2, .int (y)), (3, .int (z)), (4, .int (q)), (5, .ref (pd (x.toInt.toNat))), (6, .ref (o (11 + (pk (x.toInt.toNat))))), (7, .int (xRead (pk (x.toInt.toNat)) (pv (x.toInt.toNat) 0) (pv (x.toInt.toNat) 1) (f 6) 6)), (10, .int (nI (j + 1)))]) hx hb dX7_ageing_149 hl (by decide) rfl (fun ls hl => ?_)
                    refine lv_iinc (v := nI (j + 1 + 1)) (lv' := [(10, .int (nI (j + 1 + 1))), (8, .int (nI (j + 1))), (9, .int (nxs (nxs (xAgS z j)))), (11, .int (((nxs (xAgS z j)) >>> (nI 16 &&& 31)) &&& (nI (2) - nI 1))), (0, .ref (a)), (1, .int (x)), (2, .int (y)), (3, .int (z)), (4, .int (q)), (5, .ref (pd (x.toInt.toNat))), (6, .ref (o (11 + (pk (x.toInt.toNat))))), (7, .int (xRead (pk (x.toInt.toNat)) (pv (x.toInt.toNat) 0) (pv (x.toInt.toNat) 1) (f 6) 6))]) hx hb dX7_ageing_151 hl (k := 11) rfl (nI_1 _) (by decide) rfl (fun ls hl => ?_)
                    refine lv_goto (tgt := 85) hx hb dX7_ageing_154 (by decide) ?_
                    have e1_8 : (nI (j + 1)) = xAgC (pk (x.toInt.toNat)) (xAgW tv pk pv x.toInt.toNat) z (f 6) (xRead (pk (x.toInt.toNat)) (pv (x.toInt.toNat) 0) (pv (x.toInt.toNat) 1) (f 6) 6) (j + 1) := by first | (rw [xAgC, if_neg (show ¬ xAgC (pk (x.toInt.toNat)) (xAgW tv pk pv x.toInt.toNat) z (f 6) (xRead (pk (x.toInt.toNat)) (pv (x.toInt.toNat) 0) (pv (x.toInt.toNat) 1) (f 6) 6) j = (-1) from c_11)]; done) | (rw [xAgC, if_pos (show xAgC (pk (x.toInt.toNat)) (xAgW tv pk pv x.toInt.toNat) z (f 6) (xRead (pk (x.toInt.toNat)) (pv (x.toInt.toNat) 0) (pv (x.toInt.toNat) 1) (f 6) 6) j = (-1) from c_10)]; first | exact (if_pos c_11).symm | exact (if_neg c_11).symm)
                    have e1_9 : (nxs (nxs (xAgS z j))) = xAgS z (j + 1) := by rfl
                    have e2_0 : su tv (pk (x.toInt.toNat)) (xLose ((xAgV (xAgW tv pk pv x.toInt.toNat) z j)) (((nxs (xAgS z j)) >>> (nI 16 &&& 31)) &&& (nI (2) - nI 1)) (((nxs (nxs (xAgS z j))) >>> (nI 16 &&& 31)) &&& (nI (8) - nI 1))) = su tv (pk (x.toInt.toNat)) (xAgV (xAgW tv pk pv x.toInt.toNat) z (j + 1)) := by rfl
                    have hP : va_P (dC, dI) vwCl (xW cI cP a o f g pa (su tv (pk (x.toInt.toNat)) (xAgV (xAgW tv pk pv x.toInt.toNat) z (j + 1))) n pd pk pv) H := by rw [← e2_0]; exact hP
                    have hD : va_D A (xW cI cP a o f g pa (su tv (pk (x.toInt.toNat)) (xAgV (xAgW tv pk pv x.toInt.toNat) z (j + 1))) n pd pk pv) := by rw [← e2_0]; exact hD
                    exact ih_85 (j + 1) H locs ls (by show _ < _; omega) (by show _; omega) hP hD hS (by show lv_has ls 12 [(0, .ref (a)), (1, .int (x)), (2, .int (y)), (3, .int (z)), (4, .int (q)), (5, .ref (pd (x.toInt.toNat))), (6, .ref (o (11 + (pk (x.toInt.toNat))))), (7, .int (xRead (pk (x.toInt.toNat)) (pv (x.toInt.toNat) 0) (pv (x.toInt.toNat) 1) (f 6) 6)), (8, .int (xAgC (pk (x.toInt.toNat)) (xAgW tv pk pv x.toInt.toNat) z (f 6) (xRead (pk (x.toInt.toNat)) (pv (x.toInt.toNat) 0) (pv (x.toInt.toNat) 1) (f 6) 6) (j + 1))), (9, .int (xAgS z (j + 1))), (10, .int (nI ((j + 1) + 1)))]; rw [← e1_8, ← e1_9]; exact lv_sub hl [4, 5, 6, 7, 8, 9, 10, 11, 1, 2, 0] rfl)
            · skip
              rw [lei, tn (n := 2) (by omega)] at c_6
              refine lv_bipush (v := (-102)) hx hb dX7_ageing_41 (by decide +kernel) ?_
              have hP9 : va_P (dC, dI) vwCl (xW cI cP a o f g pa tv n pd pk pv) H := hP
              exact W.iret (v := (-102)) hx hb hr (fun t ht hW => ⟨⟨(-102), (f, g, pa, tv, n, pd, pk, pv), rfl, (by show (((-102), (f, g, pa, tv, n, pd, pk, pv)) : _ × XSt) = xAgeing f g pa tv n pd pk pv x y z q; rw [xAgeing, if_pos h_1, if_neg (by omega)]), by rw [ht]; exact hP9, va_K.moved hW.alike hK, hD⟩, hS.F ht⟩) hS.2.2 dX7_ageing_43
  · skip
    refine rf_n (xKn_n h_1) ?_
    refine lv_astoreN (lv' := [(5, .null), (0, .ref (a)), (1, .int (x)), (2, .int (y)), (3, .int (z)), (4, .int (q))]) hx hb dX7_ageing_5 hl (by decide) rfl (fun ls hl => ?_)
    refine lv_aloadN hx hb dX7_ageing_7 (lv_at hl 0 rfl) ?_
    refine lv_ifnonnullN hx hb dX7_ageing_9 ?_
    refine lv_bipush (v := (-101)) hx hb dX7_ageing_12 (by decide +kernel) ?_
    have hP9 : va_P (dC, dI) vwCl (xW cI cP a o f g pa tv n pd pk pv) H := hP
    exact W.iret (v := (-101)) hx hb hr (fun t ht hW => ⟨⟨(-101), (f, g, pa, tv, n, pd, pk, pv), rfl, (by show (((-101), (f, g, pa, tv, n, pd, pk, pv)) : _ × XSt) = xAgeing f g pa tv n pd pk pv x y z q; rw [xAgeing, if_neg h_1]), by rw [ht]; exact hP9, va_K.moved hW.alike hK, hD⟩, hS.F ht⟩) hS.2.2 dX7_ageing_14
