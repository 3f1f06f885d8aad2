def xNx (g : Nat → Nat → Int32) : Nat → Int32 × Int32
  | 0 => (nI 0, xWo g 0 8)
  | j + 1 => if (xNx g j).2.toInt ≤ (xWo g (j + 1) 8).toInt then xNx g j else (nI (j + 1), xWo g (j + 1) 8)
def xSyG (g : Nat → Nat → Int32) (d : Nat) : Nat → Nat → Int32 := su g 6 (xSy g d (fil (g 6) (fun _ => nI 0) 64) 320)
def xNext (f : Nat → Int32) (g : Nat → Nat → Int32) (pa : Nat → Option Nat) (tv : Nat → Nat → Int32) (n : Nat) (pd pk : Nat → Nat) (pv : Nat → Nat → Int32) (d u : Nat) : Int32 × XSt := if u < 60 then (if xCy g d 320 = nI 0 then (-1) else (xNx (xSyG g d) 7).1, su f 11 (nI (u + 1)), xSyG g d, pa, xUpT tv 320, n, pd, pk, pv) else ((-103), f, g, pa, tv, n, pd, pk, pv)
def dq (x : Int32) (m : Nat) : Int32 := (x >>> (nI 16 &&& 31)) &&& (nI m - nI 1)
def xAgS (z : Int32) : Nat → Int32
  | 0 => z
  | j + 1 => nxs (nxs (xAgS z j))
def xAgV (v : Nat → Int32) (z : Int32) : Nat → Nat → Int32
  | 0 => v
  | j + 1 => xLose (xAgV v z j) (dq (nxs (xAgS z j)) 2) (dq (nxs (nxs (xAgS z j))) 8)
def xAgC (k : Nat) (v : Nat → Int32) (z x r : Int32) : Nat → Int32
  | 0 => (-1)
  | j + 1 => if xAgC k v z x r j = (-1) then (if xRead k (xAgV v z (j + 1) 0) (xAgV v z (j + 1) 1) x 6 = r then xAgC k v z x r j else nI (j + 1)) else xAgC k v z x r j
def xAgW (tv : Nat → Nat → Int32) (pk : Nat → Nat) (pv : Nat → Nat → Int32) (i : Nat) : Nat → Int32 := su (su (tv (pk i)) 0 (pv i 0)) 1 (pv i 1)
def xAgR (f : Nat → Int32) (tv : Nat → Nat → Int32) (pk : Nat → Nat) (pv : Nat → Nat → Int32) (i m : Nat) (z x : Int32) : Int32 := if x.toInt = 0 then xAgC (pk i) (xAgW tv pk pv i) z (f 6) (xRead (pk i) (pv i 0) (pv i 1) (f 6) 6) m else if x.toInt = 1 then xbc (xAgV (xAgW tv pk pv i) z m 0) + xbc (xAgV (xAgW tv pk pv i) z m 1) else xAgS z m
def xAgT (tv : Nat → Nat → Int32) (pk : Nat → Nat) (pv : Nat → Nat → Int32) (i m : Nat) (z : Int32) : Nat → Nat → Int32 := su tv (pk i) (xAgV (xAgW tv pk pv i) z m)
def xAgeing (f : Nat → Int32) (g : Nat → Nat → Int32) (pa : Nat → Option Nat) (tv : Nat → Nat → Int32) (n : Nat) (pd pk : Nat → Nat) (pv : Nat → Nat → Int32) (x y z q : Int32) : Int32 × XSt := if xOk x n then (if 1 ≤ y.toInt ∧ y.toInt ≤ 60 ∧ 0 ≤ z.toInt ∧ 0 ≤ q.toInt ∧ q.toInt ≤ 2 then (xAgR f tv pk pv x.toInt.toNat y.toInt.toNat z q, f, g, pa, xAgT tv pk pv x.toInt.toNat y.toInt.toNat z, n, pd, pk, pv) else ((-102), f, g, pa, tv, n, pd, pk, pv)) else ((-101), f, g, pa, tv, n, pd, pk, pv)
set_option maxHeartbeats 1200000 in
set_option maxRecDepth 100000 in
theorem c7_next (l : Launch) (dC : Nat → ClassId) (dI : Nat → Nat → Nat) (cI cP : ClassId) (a : Nat) (o : Nat → Nat) (f : Nat → Int32) (g : Nat → Nat → Int32) (pa : Nat → Option Nat) (tv : Nat → Nat → Int32) (n : Nat) (pd pk : Nat → Nat) (pv : Nat → Nat → Int32) (sz : Nat) {k17 : Nat} (e17 : f 17 = nI k17) (b17 : k17 ≤ 8) {k11 : Nat} (e11 : f 11 = nI k11) (b11 : k11 ≤ 60) : Met l yX7_next wsX7_next ({ frames := 3, cells := 0, slots := 0, locals := 69 } : Room) (va_Pc [.ref (a)] (fun U => U.heap.size = sz ∧ va_P (dC, dI) vwCl (xW cI cP a o f g pa tv n pd pk pv) U.heap ∧ va_K (dC, dI) vwCl [(cI, .int), (cP, .object RX4)] U ∧ xN U ∧ va_D (fun _ => True) (xW cI cP a o f g pa tv n pd pk pv))) (va_Qi (fun (r : Int32) (u : XSt) => (r, u) = xNext f g pa tv n pd pk pv k17 k11) (xB dC dI cI cP a o (va_A (xW cI cP a o f g pa tv n pd pk pv) sz)) (va_A (xW cI cP a o f g pa tv n pd pk pv) sz)) 0 0 (va_A (xW cI cP a o f g pa tv n pd pk pv) sz) := by
  refine Met.ofW (cc := cX7_next) (maxL := 5) (ret := (some .int)) (by decide) rfl ?_
  intro p_ e_ s m args below meth c_0 s₁ B hml hv
  obtain ⟨rfl, hsz, hP, hK, hN, hD0⟩ := hv
  have hx := B.exec
  have hb := B.bytes
  have hr := B.returns
  have hts := atoms_spec (ws := wsX7_next) B.pre
  have hown : s.vm.findClass RX7 = some m.cls := findClass_of_methodNamed B.named
  have hlocks := B.notSynchronized
  subst hsz
  have hD := hD0.self (sz := s.heap.size)
  generalize hAe : va_A (xW cI cP a o f g pa tv n pd pk pv) s.heap.size = A at hD ⊢
  have hA : ∀ q : Nat, s.heap.size ≤ q → A q := fun q h => by rw [← hAe]; exact Or.inr h
  obtain ⟨H, hHe⟩ : ∃ H : Heap, H = s.heap := ⟨_, rfl⟩
  have hS : va_S A s.heap H [] := by rw [hHe]; exact va_S.rf
  rw [← hHe] at hP ⊢
  have hP : va_P (dC, dI) vwCl (xW cI cP a o f g pa tv n pd pk pv) H := hP
  have hl := lv_entry ([.ref (a)]) (n := 5) (Nat.le_of_ble_eq_true rfl)
  rw [lg_entry_eq]
  generalize (lg_sl ([.ref (a)]) ++ List.replicate (5 - (lg_sl ([.ref (a)])).length) Slot.unset).toArray = ls at hl ⊢
  have hl : lv_has ls 5 [(0, .ref (a))] := hl
  have hin7 : ∀ w ∈ wsX70, w ∈ wsX7_next := fun _ h => List.mem_cons_of_mem _ (List.mem_append_left _ (List.mem_append_left _ (List.mem_append_left _ (List.mem_append_left _ (List.mem_append_left _ (List.mem_append_left _ (List.mem_append_right _ h)))))))
  have hW0 := hts (.fieldLink RX7 148 "EachEye" "questionsDone" "I") (by decide +kernel)
  refine lv_aload_n hx hb dX7_next_0 rfl (lv_at hl 0 rfl) ?_
  refine va_get (D := (dC, dI)) (ci := 7) (v := .int (nI (k11))) (C := RX7) (T := TX7) (N := 16) hx hb hts hin7 hown hK hP 0 rfl rfl 11 (by decide) hW0 (fun _ h9 => h9) (congrArg (fun z => some (Value.int z)) e11) dX7_next_1 ?_
  refine lv_bipush (v := nI (60)) hx hb dX7_next_4 (by decide +kernel) ?_
  refine lv_icmp_lt (tgt := 12) hx hb dX7_next_6 (by decide) (fun c_1 => ?_) (fun c_1 => ?_)
  · skip
    rw [nI_ltI (a := k11) (b := 60) (by omega) (by omega)] at c_1
    refine lv_aload_n hx hb dX7_next_12 rfl (lv_at hl 0 rfl) ?_
    refine lv_dup hx hb dX7_next_13 rfl ?_
    refine va_get (D := (dC, dI)) (ci := 7) (v := .int (nI (k11))) (C := RX7) (T := TX7) (N := 16) hx hb hts hin7 hown hK hP 0 rfl rfl 11 (by decide) hW0 (fun _ h9 => h9) (congrArg (fun z => some (Value.int z)) e11) dX7_next_14 ?_
    refine lv_iconst (v := nI (1)) hx hb dX7_next_17 (by decide +kernel) ?_
    refine lv_iadd hx hb dX7_next_18 ?_
    refine tq (nI_add (k11) (1)) ?_
    refine va_put (D := (dC, dI)) (ci := 7) (v := .int (nI (k11 + 1))) (ty := .int) (C := RX7) (T := TX7) (N := 16) hx hb hts hin7 tyX7 tyX7_ok nmX7 hown hK hP hD hS 0 rfl rfl 11 (by decide) hW0 (fun _ h9 => h9) rfl (by decide +kernel) rfl rfl (Nat.le_of_ble_eq_true rfl) dX7_next_19 (fun H locs hP hD hS => ?_)
    have hP : va_P (dC, dI) vwCl (xW cI cP a o (su f 11 (nI (k11 + 1))) g pa tv n pd pk pv) H := hP
    have hD : va_D A (xW cI cP a o (su f 11 (nI (k11 + 1))) g pa tv n pd pk pv) := hD
    refine lv_aload_n hx hb dX7_next_22 rfl (lv_at hl 0 rfl) ?_
    have hFc : ∀ q, va_A (xW cI cP a o (su f 11 (nI (k11 + 1))) g pa tv n pd pk pv) H.size q → A q := fun q h => h.elim (fun ⟨j, e, hj⟩ => hD.2 j (q, e) hj) (fun h => hA q (Nat.le_trans hS.1 h))
    refine va_calli (va_runV (As := []) (rest := []) ⟨hx, hb, hml, hown, hts⟩ (c7_countSayings l dC dI cI cP a o (su f 11 (nI (k11 + 1))) g pa tv n pd pk pv H.size e17 (by omega)  ) (cwV 0 hts gX7_next_X7_countSayings rfl rfl rfl (by decide +kernel) ⟨Nat.le_of_ble_eq_true rfl, Nat.le_of_ble_eq_true rfl⟩) ⟨fun a U g mk q => by obtain ⟨q0, q1, qP, qK, qN, qD⟩ := q; exact ⟨q0, q1, qP, va_K.moved (u := U) (U := U.calling g mk a) (Vm.Alike.refl U.vm) qK, xN.same (u := U) (U := U.calling g mk a) rfl qN, qD⟩, va_recv hK hP (ci := 7) (q0 := 0) rfl rfl, fun U hU hW => ⟨rfl, by rw [hU], by rw [hU]; exact hP, va_K.moved hW.alike hK, xN.warm hW hN, hD.weaken (fun _ _ _ _ => trivial)⟩⟩ rfl rfl hl.1 rfl (lv_room (Nat.le_of_ble_eq_true rfl)) dX7_next_23 ⟨Nat.le_of_ble_eq_true rfl, Nat.le_of_ble_eq_true rfl⟩) hS (fun q _ h => hFc q h) hFc (fun r u t H1 locs ht hvm hw hB hz1 hk1 hS => ?_)
    have hw : ((r, u) : _ × XSt) = (xCy (g) (k17) 320, (su f 11 (nI (k11 + 1)), su g 6 (xSy (g) (k17) (fil (g 6) (fun _ => nI 0) 64) 320), pa, xUpT tv 320, n, pd, pk, pv)) := hw
    obtain ⟨hw1, hw2⟩ := Prod.mk.inj hw
    subst hw1
    subst hw2
    obtain ⟨hP1, hK1, hD1⟩ := hB
    rw [ht] at hP1
    have hP : va_P (dC, dI) vwCl (xW cI cP a o (su f 11 (nI (k11 + 1))) (su g 6 (xSy (g) (k17) (fil (g 6) (fun _ => nI 0) 64) 320)) pa (xUpT tv 320) n pd pk pv) H1 := hP1
    have hD : va_D A (xW cI cP a o (su f 11 (nI (k11 + 1))) (su g 6 (xSy (g) (k17) (fil (g 6) (fun _ => nI 0) 64) 320)) pa (xUpT tv 320) n pd pk pv) := hD1.weaken (fun _ _ _ h => hFc _ h)
    clear hP1 hD1 hK1 hFc hk1 hz1
    generalize H1 = H at hP hS ⊢
    have hP : va_P (dC, dI) vwCl (xW cI cP a o (su f 11 (nI (k11 + 1))) (su g 6 (xSy (g) (k17) (fil (g 6) (fun _ => nI 0) 64) 320)) pa (xUpT tv 320) n pd pk pv) H := hP
    have hD : va_D A (xW cI cP a o (su f 11 (nI (k11 + 1))) (su g 6 (xSy (g) (k17) (fil (g 6) (fun _ => nI 0) 64) 320)) pa (xUpT tv 320) n pd pk pv) := hD
    refine lv_if_ne (tgt := 31) hx hb dX7_next_26 (by decide) (fun c_2 => ?_) (fun c_2 => ?_)
    · skip
      have c_2 : ¬ (xCy (g) (k17) 320) = nI 0 := c_2
      refine lv_iconst (v := nI (0)) hx hb dX7_next_31 (by decide +kernel) ?_
      refine lv_istore_n (lv' := [(1, .int (nI (0))), (0, .ref (a))]) hx hb dX7_next_32 rfl hl (by decide) rfl (fun ls hl => ?_)
      refine lv_aload_n hx hb dX7_next_33 rfl (lv_at hl 1 rfl) ?_
      refine lv_iconst (v := nI (0)) hx hb dX7_next_34 (by decide +kernel) ?_
      refine vp_callSi (va_Run.run (va_runV (As := [.int (nI (0))]) (rest := []) ⟨hx, hb, hml, hown, hts⟩ (c7_worstLeft l dC dI cI cP a o (su f 11 (nI (k11 + 1))) (su g 6 (xSy (g) (k17) (fil (g 6) (fun _ => nI 0) 64) 320)) pa (xUpT tv 320) n pd pk pv   (0) (by omega)) (cwV 1 hts gX7_next_X7_worstLeft rfl rfl rfl (by decide +kernel) ⟨Nat.le_of_ble_eq_true rfl, Nat.le_of_ble_eq_true rfl⟩) ⟨fun a U g mk q => ⟨q.1, q.2.1, va_K.moved (u := U) (U := U.calling g mk a) (Vm.Alike.refl U.vm) q.2.2.1, xN.same (u := U) (U := U.calling g mk a) rfl q.2.2.2⟩, va_recv hK hP (ci := 7) (q0 := 0) rfl rfl, fun U hU hW => ⟨rfl, by rw [hU]; exact hP, va_K.moved hW.alike hK, xN.warm hW hN⟩⟩ rfl rfl hl.1 rfl (lv_room (Nat.le_of_ble_eq_true rfl)) dX7_next_35 ⟨Nat.le_of_ble_eq_true rfl, Nat.le_of_ble_eq_true rfl⟩)) (fun r hrc => ?_)
      have hrc : r = xWo (su g 6 (xSy (g) (k17) (fil (g 6) (fun _ => nI 0) 64) 320)) (0) 8 := hrc
      subst hrc
      refine lv_istore_n (lv' := [(2, .int (xWo (su g 6 (xSy (g) (k17) (fil (g 6) (fun _ => nI 0) 64) 320)) (0) 8)), (1, .int (nI (0))), (0, .ref (a))]) hx hb dX7_next_38 rfl hl (by decide) rfl (fun ls hl => ?_)
      refine lv_iconst (v := nI (1)) hx hb dX7_next_39 (by decide +kernel) ?_
      refine lv_istore_n (lv' := [(3, .int (nI (1))), (2, .int (xWo (su g 6 (xSy (g) (k17) (fil (g 6) (fun _ => nI 0) 64) 320)) (0) 8)), (1, .int (nI (0))), (0, .ref (a))]) hx hb dX7_next_40 rfl hl (by decide) rfl (fun ls hl => ?_)
      have e0_1 : (nI (0)) = (xNx (xSyG g k17) 0).1 := rfl
      have e0_2 : (xWo (su g 6 (xSy (g) (k17) (fil (g 6) (fun _ => nI 0) 64) 320)) (0) 8) = (xNx (xSyG g k17) 0).2 := rfl
      refine lp_ro (fun j : Nat => 7 - j) (fun j : Nat => j ≤ 7) (fun j : Nat => [(0, .ref (a)), (1, .int ((xNx (xSyG g k17) j).1)), (2, .int ((xNx (xSyG g k17) j).2)), (3, .int (nI (j + 1)))]) (0) (by omega) (by show lv_has ls 5 [(0, .ref (a)), (1, .int ((xNx (xSyG g k17) 0).1)), (2, .int ((xNx (xSyG g k17) 0).2)), (3, .int (nI (0 + 1)))]; rw [← e0_1, ← e0_2]; exact lv_sub hl [3, 2, 1, 0] rfl) (fun j hI ih_41 ls hl => ?_)
      have hI : j ≤ 7 := hI
      have hl : lv_has ls 5 [(0, .ref (a)), (1, .int ((xNx (xSyG g k17) j).1)), (2, .int ((xNx (xSyG g k17) j).2)), (3, .int (nI (j + 1)))] := hl
      refine lv_iload_n hx hb dX7_next_41 rfl (lv_at hl 3 rfl) ?_
      refine lv_bipush (v := nI (8)) hx hb dX7_next_42 (by decide +kernel) ?_
      refine lv_icmp_ge (tgt := 71) hx hb dX7_next_44 (by decide) (fun c_3 => ?_) (fun c_3 => ?_)
      · skip
        rw [nI_leI (a := 8) (b := j + 1) (by omega) (by omega)] at c_3
        have hE : 7 = j := by omega
        subst hE
        refine lv_iload_n hx hb dX7_next_71 rfl (lv_at hl 1 rfl) ?_
        have hP9 : va_P (dC, dI) vwCl (xW cI cP a o (su f 11 (nI (k11 + 1))) (su g 6 (xSy (g) (k17) (fil (g 6) (fun _ => nI 0) 64) 320)) pa (xUpT tv 320) n pd pk pv) H := hP
        exact W.iret (v := (xNx (xSyG g k17) 7).1) hx hb hr (fun t ht hW => ⟨⟨(xNx (xSyG g k17) 7).1, (su f 11 (nI (k11 + 1)), su g 6 (xSy (g) (k17) (fil (g 6) (fun _ => nI 0) 64) 320), pa, xUpT tv 320, n, pd, pk, pv), rfl, (by show (((xNx (xSyG g k17) 7).1, (su f 11 (nI (k11 + 1)), su g 6 (xSy (g) (k17) (fil (g 6) (fun _ => nI 0) 64) 320), pa, xUpT tv 320, n, pd, pk, pv)) : _ × XSt) = xNext f g pa tv n pd pk pv k17 k11; rw [xNext, if_pos (by omega), if_neg (show ¬ xCy g k17 320 = nI 0 from c_2)]; rfl), by rw [ht]; exact hP9, va_K.moved hW.alike hK, hD⟩, hS.F ht⟩) hS.2.2 dX7_next_72
      · skip
        rw [nI_leI (a := 8) (b := j + 1) (by omega) (by omega)] at c_3
        refine lv_aload_n hx hb dX7_next_47 rfl (lv_at hl 0 rfl) ?_
        refine lv_iload_n hx hb dX7_next_48 rfl (lv_at hl 3 rfl) ?_
        refine vp_callSi (va_Run.run (va_runV (As := [.int (nI (j + 1))]) (rest := []) ⟨hx, hb, hml, hown, hts⟩ (c7_worstLeft l dC dI cI cP a o (su f 11 (nI (k11 + 1))) (su g 6 (xSy (g) (k17) (fil (g 6) (fun _ => nI 0) 64) 320)) pa (xUpT tv 320) n pd pk pv   (j + 1) (by omega)) (cwV 1 hts gX7_next_X7_worstLeft rfl rfl rfl (by decide +kernel) ⟨Nat.le_of_ble_eq_true rfl, Nat.le_of_ble_eq_true rfl⟩) ⟨fun a U g mk q => ⟨q.1, q.2.1, va_K.moved (u := U) (U := U.calling g mk a) (Vm.Alike.refl U.vm) q.2.2.1, xN.same (u := U) (U := U.calling g mk a) rfl q.2.2.2⟩, va_recv hK hP (ci := 7) (q0 := 0) rfl rfl, fun U hU hW => ⟨rfl, by rw [hU]; exact hP, va_K.moved hW.alike hK, xN.warm hW hN⟩⟩ rfl rfl hl.1 rfl (lv_room (Nat.le_of_ble_eq_true rfl)) dX7_next_49 ⟨Nat.le_of_ble_eq_true rfl, Nat.le_of_ble_eq_true rfl⟩)) (fun r hrc => ?_)
        have hrc : r = xWo (su g 6 (xSy (g) (k17) (fil (g 6) (fun _ => nI 0) 64) 320)) (j + 1) 8 := hrc
        subst hrc
        refine lv_istore (lv' := [(4, .int (xWo (su g 6 (xSy (g) (k17) (fil (g 6) (fun _ => nI 0) 64) 320)) (j + 1) 8)), (0, .ref (a)), (1, .int ((xNx (xSyG g k17) j).1)), (2, .int ((xNx (xSyG g k17) j).2)), (3, .int (nI (j + 1)))]) hx hb dX7_next_52 hl (by decide) rfl (fun ls hl => ?_)
        refine lv_iload hx hb dX7_next_54 (lv_at hl 0 rfl) ?_
        refine lv_iload_n hx hb dX7_next_56 rfl (lv_at hl 3 rfl) ?_
        refine lv_icmp_ge (tgt := 65) hx hb dX7_next_57 (by decide) (fun c_4 => ?_) (fun c_4 => ?_)
        · skip
          rw [lei] at c_4
          refine lv_iinc (v := nI (j + 1 + 1)) (lv' := [(3, .int (nI (j + 1 + 1))), (4, .int (xWo (su g 6 (xSy (g) (k17) (fil (g 6) (fun _ => nI 0) 64) 320)) (j + 1) 8)), (0, .ref (a)), (1, .int ((xNx (xSyG g k17) j).1)), (2, .int ((xNx (xSyG g k17) j).2))]) hx hb dX7_next_65 hl (k := 4) rfl (nI_1 _) (by decide) rfl (fun ls hl => ?_)
          refine lv_goto (tgt := 41) hx hb dX7_next_68 (by decide) ?_
          have e1_1 : ((xNx (xSyG g k17) j).1) = (xNx (xSyG g k17) (j + 1)).1 := by rw [xNx]; first | (rw [if_pos (show (xNx (xSyG g k17) j).2.toInt ≤ (xWo (xSyG g k17) (j + 1) 8).toInt from c_4)]; done) | (rw [if_neg (show ¬ (xNx (xSyG g k17) j).2.toInt ≤ (xWo (xSyG g k17) (j + 1) 8).toInt from c_4)]; done) | (rw [if_neg (show ¬ (xNx (xSyG g k17) j).2.toInt ≤ (xWo (xSyG g k17) (j + 1) 8).toInt from c_4)]; rfl)
          have e1_2 : ((xNx (xSyG g k17) j).2) = (xNx (xSyG g k17) (j + 1)).2 := by rw [xNx]; first | (rw [if_pos (show (xNx (xSyG g k17) j).2.toInt ≤ (xWo (xSyG g k17) (j + 1) 8).toInt from c_4)]; done) | (rw [if_neg (show ¬ (xNx (xSyG g k17) j).2.toInt ≤ (xWo (xSyG g k17) (j + 1) 8).toInt from c_4)]; done) | (rw [if_neg (show ¬ (xNx (xSyG g k17) j).2.toInt ≤ (xWo (xSyG g k17) (j + 1) 8).toInt from c_4)]; rfl)
          exact ih_41 (j + 1) ls (by show _ < _; omega) (by show _; omega) (by show lv_has ls 5 [(0, .ref (a)), (1, .int ((xNx (xSyG g k17) (j + 1)).1)), (2, .int ((xNx (xSyG g k17) (j + 1)).2)), (3, .int (nI ((j + 1) + 1)))]; rw [← e1_1, ← e1_2]; exact lv_sub hl [2, 3, 4, 0] rfl)
        · skip
          rw [lei] at c_4
          refine lv_iload_n hx hb dX7_next_60 rfl (lv_at hl 4 rfl) ?_
          refine lv_istore_n (lv' := [(1, .int (nI (j + 1))), (4, .int (xWo (su g 6 (xSy (g) (k17) (fil (g 6) (fun _ => nI 0) 64) 320)) (j + 1) 8)), (0, .ref (a)), (2, .int ((xNx (xSyG g k17) j).2)), (3, .int (nI (j + 1)))]) hx hb dX7_next_61 rfl hl (by decide) rfl (fun ls hl => ?_)
          refine lv_iload hx hb dX7_next_62 (lv_at hl 1 rfl) ?_
          refine lv_istore_n (lv' := [(2, .int (xWo (su g 6 (xSy (g) (k17) (fil (g 6) (fun _ => nI 0) 64) 320)) (j + 1) 8)), (1, .int (nI (j + 1))), (4, .int (xWo (su g 6 (xSy (g) (k17) (fil (g 6) (fun _ => nI 0) 64) 320)) (j + 1) 8)), (0, .ref (a)), (3, .int (nI (j + 1)))]) hx hb dX7_next_64 rfl hl (by decide) rfl (fun ls hl => ?_)
          refine lv_iinc (v := nI (j + 1 + 1)) (lv' := [(3, .int (nI (j + 1 + 1))), (2, .int (xWo (su g 6 (xSy (g) (k17) (fil (g 6) (fun _ => nI 0) 64) 320)) (j + 1) 8)), (1, .int (nI (j + 1))), (4, .int (xWo (su g 6 (xSy (g) (k17) (fil (g 6) (fun _ => nI 0) 64) 320)) (j + 1) 8)), (0, .ref (a))]) hx hb dX7_next_65 hl (k := 4) rfl (nI_1 _) (by decide) rfl (fun ls hl => ?_)
          refine lv_goto (tgt := 41) hx hb dX7_next_68 (by decide) ?_
          have e1_1 : (nI (j + 1)) = (xNx (xSyG g k17) (j + 1)).1 := by rw [xNx]; first | (rw [if_pos (show (xNx (xSyG g k17) j).2.toInt ≤ (xWo (xSyG g k17) (j + 1) 8).toInt from c_4)]; done) | (rw [if_neg (show ¬ (xNx (xSyG g k17) j).2.toInt ≤ (xWo (xSyG g k17) (j + 1) 8).toInt from c_4)]; done) | (rw [if_neg (show ¬ (xNx (xSyG g k17) j).2.toInt ≤ (xWo (xSyG g k17) (j + 1) 8).toInt from c_4)]; rfl)
          have e1_2 : (xWo (su g 6 (xSy (g) (k17) (fil (g 6) (fun _ => nI 0) 64) 320)) (j + 1) 8) = (xNx (xSyG g k17) (j + 1)).2 := by rw [xNx]; first | (rw [if_pos (show (xNx (xSyG g k17) j).2.toInt ≤ (xWo (xSyG g k17) (j + 1) 8).toInt from c_4)]; done) | (rw [if_neg (show ¬ (xNx (xSyG g k17) j).2.toInt ≤ (xWo (xSyG g k17) (j + 1) 8).toInt from c_4)]; done) | (rw [if_neg (show ¬ (xNx (xSyG g k17) j).2.toInt ≤ (xWo (xSyG g k17) (j + 1) 8).toInt from c_4)]; rfl)
          exact ih_41 (j + 1) ls (by show _ < _; omega) (by show _; omega) (by show lv_has ls 5 [(0, .ref (a)), (1, .int ((xNx (xSyG g k17) (j + 1)).1)), (2, .int ((xNx (xSyG g k17) (j + 1)).2)), (3, .int (nI ((j + 1) + 1)))]; rw [← e1_1, ← e1_2]; exact lv_sub hl [4, 2, 1, 0] rfl)
    · skip
      have c_2 : (xCy (g) (k17) 320) = nI 0 := c_2
      refine lv_iconst (v := (-1)) hx hb dX7_next_29 (by decide +kernel) ?_
      have hP9 : va_P (dC, dI) vwCl (xW cI cP a o (su f 11 (nI (k11 + 1))) (su g 6 (xSy (g) (k17) (fil (g 6) (fun _ => nI 0) 64) 320)) pa (xUpT tv 320) n pd pk pv) H := hP
      exact W.iret (v := (-1)) hx hb hr (fun t ht hW => ⟨⟨(-1), (su f 11 (nI (k11 + 1)), su g 6 (xSy (g) (k17) (fil (g 6) (fun _ => nI 0) 64) 320), pa, xUpT tv 320, n, pd, pk, pv), rfl, (by show (((-1), (su f 11 (nI (k11 + 1)), su g 6 (xSy (g) (k17) (fil (g 6) (fun _ => nI 0) 64) 320), pa, xUpT tv 320, n, pd, pk, pv)) : _ × XSt) = xNext f g pa tv n pd pk pv k17 k11; rw [xNext, if_pos (by omega), if_pos (show xCy g k17 320 = nI 0 from c_2)]; rfl), by rw [ht]; exact hP9, va_K.moved hW.alike hK, hD⟩, hS.F ht⟩) hS.2.2 dX7_next_30
  · skip
    rw [nI_ltI (a := k11) (b := 60) (by omega) (by omega)] at c_1
    refine lv_bipush (v := (-103)) hx hb dX7_next_9 (by decide +kernel) ?_
    have hP9 : va_P (dC, dI) vwCl (xW cI cP a o f g pa tv n pd pk pv) H := hP
    exact W.iret (v := (-103)) hx hb hr (fun t ht hW => ⟨⟨(-103), (f, g, pa, tv, n, pd, pk, pv), rfl, (by show (((-103), (f, g, pa, tv, n, pd, pk, pv)) : _ × XSt) = xNext f g pa tv n pd pk pv k17 k11; rw [xNext, if_neg (by omega)]), by rw [ht]; exact hP9, va_K.moved hW.alike hK, hD⟩, hS.F ht⟩) hS.2.2 dX7_next_11
