def xSaB (f : Nat → Int32) (g : Nat → Nat → Int32) (n i : Nat) (pk : Nat → Nat) (pv : Nat → Nat → Int32) (c u j : Nat) : Bool := decide ((nI j &&& (nI u ^^^ (-1))) = nI 0) && xToA n pk pv c (xHa (f 6) c ||| xUn g (nI j) i)
def xSa (f : Nat → Int32) (g : Nat → Nat → Int32) (n i : Nat) (pk : Nat → Nat) (pv : Nat → Nat → Int32) (c u : Nat) : Bool := exB (xSaB f g n i pk pv c u) (u + 1)
def xSu (f : Nat → Int32) (g : Nat → Nat → Int32) (n i : Nat) (pk : Nat → Nat) (pv : Nat → Nat → Int32) (u : Nat) : Bool := alB (fun c => xSa f g n i pk pv c u) 6
def xFs (f : Nat → Int32) (g : Nat → Nat → Int32) (n i : Nat) (pk : Nat → Nat) (pv : Nat → Nat → Int32) (w u : Nat) : Bool := decide (xbc (nI u) = nI w) && xSu f g n i pk pv u
def xFw (f : Nat → Int32) (g : Nat → Nat → Int32) (n i : Nat) (pk : Nat → Nat) (pv : Nat → Nat → Int32) (w : Nat) : Nat := fst1 (xFs f g n i pk pv w) (2 ^ i)
def xFx (f : Nat → Int32) (g : Nat → Nat → Int32) (n i : Nat) (pk : Nat → Nat) (pv : Nat → Nat → Int32) : Nat := fst1 (fun w => decide (xFw f g n i pk pv w < 2 ^ i)) (i + 1)
def xBest (f : Nat → Int32) (g : Nat → Nat → Int32) (n i : Nat) (pk : Nat → Nat) (pv : Nat → Nat → Int32) : Int32 := if xFx f g n i pk pv < i + 1 then nI (xFw f g n i pk pv (xFx f g n i pk pv)) else (-1)
def xFew (f : Nat → Int32) (g : Nat → Nat → Int32) (n i : Nat) (pk : Nat → Nat) (pv : Nat → Nat → Int32) (x : Int32) : Int32 := if x.toInt < 0 then (-102) else if x.toInt ≤ ((1 : Nat) : Int) then (if f 6 = (-1) then (-103) else if xBest f g n i pk pv = (-1) then (-1) else if x = nI 0 then xbc (xBest f g n i pk pv) else xBest f g n i pk pv) else (-102)
theorem lt_s2 {p : Nat → Bool} {k : Nat} {b : Bool} (h : ∀ j, j < k → p j = b) (hk : p k = b) : ∀ j, j < k + 1 → p j = b := by
  intro j hj
  by_cases h2 : j = k
  · rw [h2]; exact hk
  · exact h j (by omega)
set_option maxHeartbeats 1200000 in
set_option maxRecDepth 100000 in
theorem c7_unionOf (l : Launch) (dC : Nat → ClassId) (dI : Nat → Nat → Nat) (cI cP : ClassId) (a : Nat) (o : Nat → Nat) (f : Nat → Int32) (g : Nat → Nat → Int32) (pa : Nat → Option Nat) (tv : Nat → Nat → Int32) (n : Nat) (pd pk : Nat → Nat) (pv : Nat → Nat → Int32) {k8 : Nat} (e8 : f 8 = nI k8) (b8 : k8 ≤ 5) (q : Nat) : Met l yX7_unionOf wsX7_unionOf ({ frames := 1, cells := 0, slots := 0, locals := 21 } : Room) (va_Pc [.ref (a), .int (nI (q))] (fun U => va_P (dC, dI) vwCl (xW cI cP a o f g pa tv n pd pk pv) U.heap ∧ va_K (dC, dI) vwCl [(cI, .int), (cP, .object RX4)] U ∧ xN U)) (vp_Si (fun r => r = xUn g (nI q) k8)) 0 0 (fun _ => False) := by
  refine Met.ofW (cc := cX7_unionOf) (maxL := 4) (ret := (some .int)) (by decide) rfl ?_
  intro p_ e_ s m args below meth c_0 s₁ B hml hv
  obtain ⟨rfl, hP, hK, hN⟩ := hv
  have hx := B.exec
  have hb := B.bytes
  have hr := B.returns
  have hts := atoms_spec (ws := wsX7_unionOf) B.pre
  have hown : s.vm.findClass RX7 = some m.cls := findClass_of_methodNamed B.named
  have hlocks := B.notSynchronized
  have hP : va_P (dC, dI) vwCl (xW cI cP a o f g pa tv n pd pk pv) s.heap := hP
  have hl := lv_entry ([.ref (a), .int (nI (q))]) (n := 4) (Nat.le_of_ble_eq_true rfl)
  rw [lg_entry_eq]
  generalize (lg_sl ([.ref (a), .int (nI (q))]) ++ List.replicate (4 - (lg_sl ([.ref (a), .int (nI (q))])).length) Slot.unset).toArray = ls at hl ⊢
  have hl : lv_has ls 4 [(0, .ref (a)), (1, .int (nI (q)))] := hl
  have hin7 : ∀ w ∈ wsX70, w ∈ wsX7_unionOf := fun _ h => List.mem_cons_of_mem _ (List.mem_append_right _ h)
  have hW0 := hts (.fieldLink RX7 70 "EachEye" "inkCount" "I") (by decide +kernel)
  have hW1 := hts (.fieldLink RX7 22 "EachEye" "inks" "[I") (by decide +kernel)
  refine lv_iconst (v := nI (0)) hx hb dX7_unionOf_0 (by decide +kernel) ?_
  refine lv_istore_n (lv' := [(2, .int (nI (0))), (0, .ref (a)), (1, .int (nI (q)))]) hx hb dX7_unionOf_1 rfl hl (by decide) rfl (fun ls hl => ?_)
  refine lv_iconst (v := nI (0)) hx hb dX7_unionOf_2 (by decide +kernel) ?_
  refine lv_istore_n (lv' := [(3, .int (nI (0))), (2, .int (nI (0))), (0, .ref (a)), (1, .int (nI (q)))]) hx hb dX7_unionOf_3 rfl hl (by decide) rfl (fun ls hl => ?_)
  have e0_2 : (nI (0)) = xUn g (nI q) 0 := rfl
  refine lp_ro (fun j : Nat => k8 - j) (fun j : Nat => j ≤ k8) (fun j : Nat => [(0, .ref (a)), (1, .int (nI (q))), (2, .int (xUn g (nI q) j)), (3, .int (nI (j)))]) (0) (by omega) (by show lv_has ls 4 [(0, .ref (a)), (1, .int (nI (q))), (2, .int (xUn g (nI q) 0)), (3, .int (nI (0)))]; rw [← e0_2]; exact lv_sub hl [2, 3, 1, 0] rfl) (fun j hI ih_4 ls hl => ?_)
  have hI : j ≤ k8 := hI
  have hl : lv_has ls 4 [(0, .ref (a)), (1, .int (nI (q))), (2, .int (xUn g (nI q) j)), (3, .int (nI (j)))] := hl
  refine lv_iload_n hx hb dX7_unionOf_4 rfl (lv_at hl 3 rfl) ?_
  refine lv_aload_n hx hb dX7_unionOf_5 rfl (lv_at hl 0 rfl) ?_
  refine va_get (D := (dC, dI)) (ci := 7) (v := .int (nI (k8))) (C := RX7) (T := TX7) (N := 16) hx hb hts hin7 hown hK hP 0 rfl rfl 8 (by decide) hW0 (fun _ h9 => h9) (congrArg (fun z => some (Value.int z)) e8) dX7_unionOf_6 ?_
  refine lv_icmp_ge (tgt := 35) hx hb dX7_unionOf_9 (by decide) (fun c_1 => ?_) (fun c_1 => ?_)
  · skip
    rw [nI_leI (a := k8) (b := j) (by omega) (by omega)] at c_1
    have hE : k8 = j := by omega
    subst hE
    refine lv_iload_n hx hb dX7_unionOf_35 rfl (lv_at hl 2 rfl) ?_
    exact W.iret (v := xUn g (nI q) k8) hx hb hr (fun t ht hW => ⟨xUn g (nI q) k8, rfl, (by show xUn g (nI q) k8 = xUn g (nI q) k8; rfl), ht⟩) (fun _ h => by cases h) dX7_unionOf_36
  · skip
    rw [nI_leI (a := k8) (b := j) (by omega) (by omega)] at c_1
    refine lv_iload_n hx hb dX7_unionOf_12 rfl (lv_at hl 1 rfl) ?_
    refine lv_iload_n hx hb dX7_unionOf_13 rfl (lv_at hl 3 rfl) ?_
    refine vp_callSi (va_Run.run (va_runS (As := [.int (nI (q)), .int (nI (j))]) (rest := []) ⟨hx, hb, hml, hown, hts⟩ (c7_holds l (nI (q)) (j)) (va_cwS 2 hts gX7_unionOf_X7_holds rfl rfl rfl (by decide +kernel) ⟨Nat.le_of_ble_eq_true rfl, Nat.le_of_ble_eq_true rfl⟩) ⟨fun _ _ _ _ q => q, fun U hU hW => ⟨rfl, trivial⟩⟩ rfl rfl hl.1 rfl (lv_room (Nat.le_of_ble_eq_true rfl)) dX7_unionOf_14 ⟨Nat.le_of_ble_eq_true rfl, Nat.le_of_ble_eq_true rfl⟩)) (fun r hrc => ?_)
    have hrc : r = b2i (((nI (q)) >>> (nI (j) &&& 31)) &&& nI 1 = nI 1) := hrc
    subst hrc
    refine lv_if_eq (tgt := 29) hx hb dX7_unionOf_17 (by decide) (fun c_2 => ?_) (fun c_2 => ?_)
    · skip
      have c_2 := b2i_0 c_2
      refine lv_iinc (v := nI (j + 1)) (lv' := [(3, .int (nI (j + 1))), (0, .ref (a)), (1, .int (nI (q))), (2, .int (xUn g (nI q) j))]) hx hb dX7_unionOf_29 hl (k := 3) rfl (nI_1 _) (by decide) rfl (fun ls hl => ?_)
      refine lv_goto (tgt := 4) hx hb dX7_unionOf_32 (by decide) ?_
      have e1_2 : (xUn g (nI q) j) = xUn g (nI q) (j + 1) := by first | rw [xUn, if_pos c_2] | rw [xUn, if_neg c_2]
      exact ih_4 (j + 1) ls (by show _ < _; omega) (by show _; omega) (by show lv_has ls 4 [(0, .ref (a)), (1, .int (nI (q))), (2, .int (xUn g (nI q) (j + 1))), (3, .int (nI ((j + 1))))]; rw [← e1_2]; exact lv_sub hl [1, 2, 3, 0] rfl)
    · skip
      have c_2 := b2i_1 c_2
      refine lv_iload_n hx hb dX7_unionOf_20 rfl (lv_at hl 2 rfl) ?_
      refine lv_aload_n hx hb dX7_unionOf_21 rfl (lv_at hl 0 rfl) ?_
      refine va_get (D := (dC, dI)) (ci := 7) (v := .ref (o 2)) (C := RX7) (T := TX7) (N := 16) hx hb hts hin7 hown hK hP 0 rfl rfl 2 (by decide) hW1 (fun _ h9 => h9) rfl dX7_unionOf_22 ?_
      refine lv_iload_n hx hb dX7_unionOf_25 rfl (lv_at hl 3 rfl) ?_
      refine ald hx hb hK hP (f := g 1) (k := j) 4 0 rfl rfl rfl (by omega) (by decide) dX7_unionOf_26 ?_
      refine lv_ior hx hb dX7_unionOf_27 ?_
      refine lv_istore_n (lv' := [(2, .int ((xUn g (nI q) j) ||| (g 1 (j)))), (0, .ref (a)), (1, .int (nI (q))), (3, .int (nI (j)))]) hx hb dX7_unionOf_28 rfl hl (by decide) rfl (fun ls hl => ?_)
      refine lv_iinc (v := nI (j + 1)) (lv' := [(3, .int (nI (j + 1))), (2, .int ((xUn g (nI q) j) ||| (g 1 (j)))), (0, .ref (a)), (1, .int (nI (q)))]) hx hb dX7_unionOf_29 hl (k := 3) rfl (nI_1 _) (by decide) rfl (fun ls hl => ?_)
      refine lv_goto (tgt := 4) hx hb dX7_unionOf_32 (by decide) ?_
      have e1_2 : ((xUn g (nI q) j) ||| (g 1 (j))) = xUn g (nI q) (j + 1) := by first | rw [xUn, if_pos c_2] | rw [xUn, if_neg c_2]
      exact ih_4 (j + 1) ls (by show _ < _; omega) (by show _; omega) (by show lv_has ls 4 [(0, .ref (a)), (1, .int (nI (q))), (2, .int (xUn g (nI q) (j + 1))), (3, .int (nI ((j + 1))))]; rw [← e1_2]; exact lv_sub hl [2, 3, 1, 0] rfl)

set_option maxHeartbeats 1200000 in
set_option maxRecDepth 100000 in
theorem c7_isAsTold (l : Launch) (dC : Nat → ClassId) (dI : Nat → Nat → Nat) (cI cP : ClassId) (a : Nat) (o : Nat → Nat) (f : Nat → Int32) (g : Nat → Nat → Int32) (pa : Nat → Option Nat) (tv : Nat → Nat → Int32) (n : Nat) (pd pk : Nat → Nat) (pv : Nat → Nat → Int32) (e7 : f 7 = nI n) (b7 : n ≤ 4) (hpa : ∀ i, i < n → pa i = some (pd i)) (hpk : ∀ i, i < n → pk i < 5) (x : Int32) (d : Nat) : Met l yX7_isAsTold wsX7_isAsTold ({ frames := 1, cells := 0, slots := 0, locals := 22 } : Room) (va_Pc [.ref (a), .int (nI (d)), .int (x)] (fun U => va_P (dC, dI) vwCl (xW cI cP a o f g pa tv n pd pk pv) U.heap ∧ va_K (dC, dI) vwCl [(cI, .int), (cP, .object RX4)] U ∧ xN U)) (vp_Si (fun r => r = b2i (xToA n pk pv d x = true))) 0 0 (fun _ => False) := by
  refine Met.ofW (cc := cX7_isAsTold) (maxL := 5) (ret := (some .boolean)) (by decide) rfl ?_
  intro p_ e_ s m args below meth c_0 s₁ B hml hv
  obtain ⟨rfl, hP, hK, hN⟩ := hv
  have hx := B.exec
  have hb := B.bytes
  have hr := B.returns
  have hts := atoms_spec (ws := wsX7_isAsTold) B.pre
  have hown : s.vm.findClass RX7 = some m.cls := findClass_of_methodNamed B.named
  have hlocks := B.notSynchronized
  have hP : va_P (dC, dI) vwCl (xW cI cP a o f g pa tv n pd pk pv) s.heap := hP
  have hl := lv_entry ([.ref (a), .int (nI (d)), .int (x)]) (n := 5) (Nat.le_of_ble_eq_true rfl)
  rw [lg_entry_eq]
  generalize (lg_sl ([.ref (a), .int (nI (d)), .int (x)]) ++ List.replicate (5 - (lg_sl ([.ref (a), .int (nI (d)), .int (x)])).length) Slot.unset).toArray = ls at hl ⊢
  have hl : lv_has ls 5 [(0, .ref (a)), (1, .int (nI (d))), (2, .int (x))] := hl
  have hin0 : ∀ w ∈ wsX00, w ∈ wsX7_isAsTold := fun _ h => List.mem_cons_of_mem _ (List.mem_append_left _ (List.mem_append_left _ (List.mem_append_left _ (List.mem_append_left _ (List.mem_append_right _ h)))))
  have hin2 : ∀ w ∈ wsX20, w ∈ wsX7_isAsTold := fun _ h => List.mem_cons_of_mem _ (List.mem_append_left _ (List.mem_append_left _ (List.mem_append_left _ (List.mem_append_right _ h))))
  have hin4 : ∀ w ∈ wsX40, w ∈ wsX7_isAsTold := fun _ h => List.mem_cons_of_mem _ (List.mem_append_left _ (List.mem_append_left _ (List.mem_append_right _ h)))
  have hin5 : ∀ w ∈ wsX50, w ∈ wsX7_isAsTold := fun _ h => List.mem_cons_of_mem _ (List.mem_append_left _ (List.mem_append_right _ h))
  have hin6 : ∀ w ∈ wsX60, w ∈ wsX7_isAsTold := fun _ h => List.mem_cons_of_mem _ (List.mem_append_right _ h)
  have hin7 : ∀ w ∈ wsX70, w ∈ wsX7_isAsTold := fun _ h => List.mem_cons_of_mem _ (List.mem_append_left _ (List.mem_append_left _ (List.mem_append_left _ (List.mem_append_left _ (List.mem_append_left _ (List.mem_append_right _ h))))))
  have hW0 := hts (.fieldLink RX7 67 "EachEye" "peopleCount" "I") (by decide +kernel)
  have hW1 := hts (.fieldLink RX7 120 "EachEye$Person" "told" "I") (by decide +kernel)
  refine lv_iconst (v := nI (0)) hx hb dX7_isAsTold_0 (by decide +kernel) ?_
  refine lv_istore_n (lv' := [(3, .int (nI (0))), (0, .ref (a)), (1, .int (nI (d))), (2, .int (x))]) hx hb dX7_isAsTold_1 rfl hl (by decide) rfl (fun ls hl => ?_)
  refine lp_ro (fun i : Nat => n - i) (fun i : Nat => i ≤ n ∧ ∀ j, j < i → xTo pk pv d x j = true) (fun i : Nat => [(0, .ref (a)), (1, .int (nI (d))), (2, .int (x)), (3, .int (nI (i)))]) (0) ⟨by omega, fun j h => absurd h (Nat.not_lt_zero _)⟩ (by show lv_has ls 5 [(0, .ref (a)), (1, .int (nI (d))), (2, .int (x)), (3, .int (nI (0)))]; exact lv_sub hl [1, 2, 3, 0] rfl) (fun i hI ih_2 ls hl => ?_)
  have hI : i ≤ n ∧ ∀ j, j < i → xTo pk pv d x j = true := hI
  have hl : lv_has ls 5 [(0, .ref (a)), (1, .int (nI (d))), (2, .int (x)), (3, .int (nI (i)))] := hl
  have hI1 := hI.1
  refine lv_iload_n hx hb dX7_isAsTold_2 rfl (lv_at hl 3 rfl) ?_
  refine lv_aload_n hx hb dX7_isAsTold_3 rfl (lv_at hl 0 rfl) ?_
  refine va_get (D := (dC, dI)) (ci := 7) (v := .int (nI (n))) (C := RX7) (T := TX7) (N := 16) hx hb hts hin7 hown hK hP 0 rfl rfl 7 (by decide) hW0 (fun _ h9 => h9) (congrArg (fun z => some (Value.int z)) e7) dX7_isAsTold_4 ?_
  refine lv_icmp_ge (tgt := 57) hx hb dX7_isAsTold_7 (by decide) (fun c_1 => ?_) (fun c_1 => ?_)
  · skip
    rw [nI_leI (a := n) (b := i) (by omega) (by omega)] at c_1
    refine lv_iconst (v := nI (1)) hx hb dX7_isAsTold_57 (by decide +kernel) ?_
    exact W.zret (ty := .boolean) (v := nI (1)) hx hb hr rfl (fun t ht hW => ⟨nI (1), rfl, (by show nI (1) = b2i (xToA n pk pv d x = true); exact b2i_t (by rw [xToA, alB_iff]; intro z hz; exact hI.2 z (by omega))), ht⟩) (fun _ h => by cases h) dX7_isAsTold_58
  · skip
    rw [nI_leI (a := n) (b := i) (by omega) (by omega)] at c_1
    refine lv_aload_n hx hb dX7_isAsTold_10 rfl (lv_at hl 0 rfl) ?_
    refine lv_iload_n hx hb dX7_isAsTold_11 rfl (lv_at hl 3 rfl) ?_
    refine va_csq (va_Run.run (va_runV (As := [.int (nI (i))]) (rest := []) ⟨hx, hb, hml, hown, hts⟩ (c7_known l dC dI cI cP a o f g pa tv n pd pk pv e7 (by omega) hpa hpk (nI (i)) ) (cwV 1 hts gX7_isAsTold_X7_known rfl rfl rfl (by decide +kernel) ⟨Nat.le_of_ble_eq_true rfl, Nat.le_of_ble_eq_true rfl⟩) ⟨fun a U g mk q => ⟨q.1, q.2.1, va_K.moved (u := U) (U := U.calling g mk a) (Vm.Alike.refl U.vm) q.2.2.1, xN.same (u := U) (U := U.calling g mk a) rfl q.2.2.2⟩, va_recv hK hP (ci := 7) (q0 := 0) rfl rfl, fun U hU hW => ⟨rfl, by rw [hU]; exact hP, va_K.moved hW.alike hK, xN.warm hW hN⟩⟩ rfl rfl hl.1 rfl (lv_room (Nat.le_of_ble_eq_true rfl)) dX7_isAsTold_12 ⟨Nat.le_of_ble_eq_true rfl, Nat.le_of_ble_eq_true rfl⟩)) (fun r hrc => ?_)
    have hrc : r = xKn n pd (nI (i)) := hrc
    subst hrc
    refine rf_s (xKn_k (by omega) (by omega)) ?_
    refine lv_astore (lv' := [(4, .ref (pd (i))), (0, .ref (a)), (1, .int (nI (d))), (2, .int (x)), (3, .int (nI (i)))]) hx hb dX7_isAsTold_15 hl (by decide) rfl (fun ls hl => ?_)
    refine lv_aload hx hb dX7_isAsTold_17 (lv_at hl 0 rfl) ?_
    refine lv_ifnull hx hb dX7_isAsTold_19 ?_
    refine lv_aload hx hb dX7_isAsTold_22 (lv_at hl 0 rfl) ?_
    refine pe_get hx hb hts hin0 hin2 hin4 hin5 hin6 hown hK hP (17 + (i)) (hpk _ (by omega)) (xw_p (by omega)) 2 (by decide) hW1 dX7_isAsTold_24 ?_
    refine lv_iconst (v := (-1)) hx hb dX7_isAsTold_27 (by decide +kernel) ?_
    refine lv_icmp_eq (tgt := 51) hx hb dX7_isAsTold_28 (by decide) (fun c_2 => ?_) (fun c_2 => ?_)
    · skip
      refine lv_iinc (v := nI (i + 1)) (lv' := [(3, .int (nI (i + 1))), (4, .ref (pd (i))), (0, .ref (a)), (1, .int (nI (d))), (2, .int (x))]) hx hb dX7_isAsTold_51 hl (k := 4) rfl (nI_1 _) (by decide) rfl (fun ls hl => ?_)
      refine lv_goto (tgt := 2) hx hb dX7_isAsTold_54 (by decide) ?_
      exact ih_2 (i + 1) ls (by show _ < _; omega) ⟨by omega, lt_s2 hI.2 (decide_eq_true (Or.inl c_2))⟩ (by show lv_has ls 5 [(0, .ref (a)), (1, .int (nI (d))), (2, .int (x)), (3, .int (nI ((i + 1))))]; exact lv_sub hl [2, 3, 4, 0] rfl)
    · skip
      refine lv_aload hx hb dX7_isAsTold_31 (lv_at hl 0 rfl) ?_
      refine lv_iload_n hx hb dX7_isAsTold_33 rfl (lv_at hl 3 rfl) ?_
      refine cg_glimpse ⟨hx, hb, hml, hown, hts⟩ hts gX7_isAsTold_X0_glimpse_u116X0 gX7_isAsTold_X2_glimpse_u116X2 gX7_isAsTold_X4_glimpse gX7_isAsTold_X5_glimpse_u116X5 gX7_isAsTold_X6_glimpse_u116X6 hK hP (17 + (i)) (hpk _ (by omega)) (xw_p (by omega)) hl.1 (Nat.le_of_ble_eq_true rfl) ⟨Nat.le_of_ble_eq_true rfl, Nat.le_of_ble_eq_true rfl⟩ ⟨Nat.le_of_ble_eq_true rfl, Nat.le_of_ble_eq_true rfl⟩ dX7_isAsTold_34 ?_
      refine lv_aload hx hb dX7_isAsTold_37 (lv_at hl 0 rfl) ?_
      refine pe_get hx hb hts hin0 hin2 hin4 hin5 hin6 hown hK hP (17 + (i)) (hpk _ (by omega)) (xw_p (by omega)) 2 (by decide) hW1 dX7_isAsTold_39 ?_
      refine lv_iload_n hx hb dX7_isAsTold_42 rfl (lv_at hl 2 rfl) ?_
      refine vp_callSi (va_Run.run (va_runS (As := [.int (pv (i) 2), .int (nI (d))]) (rest := [.int (see (nI (pk (i))) (pv (i) 0) (pv (i) 1) (x))]) ⟨hx, hb, hml, hown, hts⟩ (c7_hueAt l (pv (i) 2) (d)) (va_cwS 2 hts gX7_isAsTold_X7_hueAt rfl rfl rfl (by decide +kernel) ⟨Nat.le_of_ble_eq_true rfl, Nat.le_of_ble_eq_true rfl⟩) ⟨fun _ _ _ _ q => q, fun U hU hW => ⟨rfl, trivial⟩⟩ rfl rfl hl.1 rfl (lv_room (Nat.le_of_ble_eq_true rfl)) dX7_isAsTold_43 ⟨Nat.le_of_ble_eq_true rfl, Nat.le_of_ble_eq_true rfl⟩)) (fun r hrc => ?_)
      have hrc : r = xHa (pv (i) 2) (d) := hrc
      subst hrc
      refine lv_icmp_eq (tgt := 51) hx hb dX7_isAsTold_46 (by decide) (fun c_3 => ?_) (fun c_3 => ?_)
      · skip
        refine lv_iinc (v := nI (i + 1)) (lv' := [(3, .int (nI (i + 1))), (4, .ref (pd (i))), (0, .ref (a)), (1, .int (nI (d))), (2, .int (x))]) hx hb dX7_isAsTold_51 hl (k := 4) rfl (nI_1 _) (by decide) rfl (fun ls hl => ?_)
        refine lv_goto (tgt := 2) hx hb dX7_isAsTold_54 (by decide) ?_
        exact ih_2 (i + 1) ls (by show _ < _; omega) ⟨by omega, lt_s2 hI.2 (decide_eq_true (Or.inr c_3))⟩ (by show lv_has ls 5 [(0, .ref (a)), (1, .int (nI (d))), (2, .int (x)), (3, .int (nI ((i + 1))))]; exact lv_sub hl [2, 3, 4, 0] rfl)
      · skip
        refine lv_iconst (v := nI (0)) hx hb dX7_isAsTold_49 (by decide +kernel) ?_
        exact W.zret (ty := .boolean) (v := nI (0)) hx hb hr rfl (fun t ht hW => ⟨nI (0), rfl, (by show nI (0) = b2i (xToA n pk pv d x = true); exact b2i_f (by rw [xToA, alB_iff]; intro h9; have h8 := h9 i (by omega); rcases of_decide_eq_true h8 with h7 | h7; exact c_2 h7; exact c_3 h7)), ht⟩) (fun _ h => by cases h) dX7_isAsTold_50

set_option maxHeartbeats 1200000 in
set_option maxRecDepth 100000 in
theorem c7_sufficesAt (l : Launch) (dC : Nat → ClassId) (dI : Nat → Nat → Nat) (cI cP : ClassId) (a : Nat) (o : Nat → Nat) (f : Nat → Int32) (g : Nat → Nat → Int32) (pa : Nat → Option Nat) (tv : Nat → Nat → Int32) (n : Nat) (pd pk : Nat → Nat) (pv : Nat → Nat → Int32) (e7 : f 7 = nI n) (b7 : n ≤ 4) (hpa : ∀ i, i < n → pa i = some (pd i)) (hpk : ∀ i, i < n → pk i < 5) {k8 : Nat} (e8 : f 8 = nI k8) (b8 : k8 ≤ 5) (d u : Nat) (hd : d < 6) (hu : u < 32) : Met l yX7_sufficesAt wsX7_sufficesAt ({ frames := 2, cells := 0, slots := 0, locals := 46 } : Room) (va_Pc [.ref (a), .int (nI (d)), .int (nI (u))] (fun U => va_P (dC, dI) vwCl (xW cI cP a o f g pa tv n pd pk pv) U.heap ∧ va_K (dC, dI) vwCl [(cI, .int), (cP, .object RX4)] U ∧ xN U)) (vp_Si (fun r => r = b2i (xSa f g n k8 pk pv d u = true))) 0 0 (fun _ => False) := by
  refine Met.ofW (cc := cX7_sufficesAt) (maxL := 4) (ret := (some .boolean)) (by decide) rfl ?_
  intro p_ e_ s m args below meth c_0 s₁ B hml hv
  obtain ⟨rfl, hP, hK, hN⟩ := hv
  have hx := B.exec
  have hb := B.bytes
  have hr := B.returns
  have hts := atoms_spec (ws := wsX7_sufficesAt) B.pre
  have hown : s.vm.findClass RX7 = some m.cls := findClass_of_methodNamed B.named
  have hlocks := B.notSynchronized
  have hP : va_P (dC, dI) vwCl (xW cI cP a o f g pa tv n pd pk pv) s.heap := hP
  have hl := lv_entry ([.ref (a), .int (nI (d)), .int (nI (u))]) (n := 4) (Nat.le_of_ble_eq_true rfl)
  rw [lg_entry_eq]
  generalize (lg_sl ([.ref (a), .int (nI (d)), .int (nI (u))]) ++ List.replicate (4 - (lg_sl ([.ref (a), .int (nI (d)), .int (nI (u))])).length) Slot.unset).toArray = ls at hl ⊢
  have hl : lv_has ls 4 [(0, .ref (a)), (1, .int (nI (d))), (2, .int (nI (u)))] := hl
  have hin7 : ∀ w ∈ wsX70, w ∈ wsX7_sufficesAt := fun _ h => List.mem_cons_of_mem _ (List.mem_append_left _ (List.mem_append_left _ (List.mem_append_left _ (List.mem_append_left _ (List.mem_append_left _ (List.mem_append_right _ h))))))
  have hW0 := hts (.fieldLink RX7 39 "EachEye" "theSign" "I") (by decide +kernel)
  refine lv_iconst (v := nI (0)) hx hb dX7_sufficesAt_0 (by decide +kernel) ?_
  refine lv_istore_n (lv' := [(3, .int (nI (0))), (0, .ref (a)), (1, .int (nI (d))), (2, .int (nI (u)))]) hx hb dX7_sufficesAt_1 rfl hl (by decide) rfl (fun ls hl => ?_)
  refine lp_ro (fun w : Nat => u + 1 - w) (fun w : Nat => w ≤ u + 1 ∧ ∀ j, j < w → xSaB f g n k8 pk pv d u j = false) (fun w : Nat => [(0, .ref (a)), (1, .int (nI (d))), (2, .int (nI (u))), (3, .int (nI (w)))]) (0) ⟨by omega, fun j h => absurd h (Nat.not_lt_zero _)⟩ (by show lv_has ls 4 [(0, .ref (a)), (1, .int (nI (d))), (2, .int (nI (u))), (3, .int (nI (0)))]; exact lv_sub hl [1, 2, 3, 0] rfl) (fun w hI ih_2 ls hl => ?_)
  have hI : w ≤ u + 1 ∧ ∀ j, j < w → xSaB f g n k8 pk pv d u j = false := hI
  have hl : lv_has ls 4 [(0, .ref (a)), (1, .int (nI (d))), (2, .int (nI (u))), (3, .int (nI (w)))] := hl
  have hI1 := hI.1
  refine lv_iload_n hx hb dX7_sufficesAt_2 rfl (lv_at hl 3 rfl) ?_
  refine lv_iload_n hx hb dX7_sufficesAt_3 rfl (lv_at hl 2 rfl) ?_
  refine lv_icmp_gt (tgt := 45) hx hb dX7_sufficesAt_4 (by decide) (fun c_1 => ?_) (fun c_1 => ?_)
  · skip
    rw [nI_ltI (a := u) (b := w) (by omega) (by omega)] at c_1
    refine lv_iconst (v := nI (0)) hx hb dX7_sufficesAt_45 (by decide +kernel) ?_
    exact W.zret (ty := .boolean) (v := nI (0)) hx hb hr rfl (fun t ht hW => ⟨nI (0), rfl, (by show nI (0) = b2i (xSa f g n k8 pk pv d u = true); exact b2i_f (fun z => by obtain ⟨j, hj, hz⟩ := exB_iff.mp z; have hq := hI.2 j (by omega); rw [hz] at hq; cases hq)), ht⟩) (fun _ h => by cases h) dX7_sufficesAt_46
  · skip
    rw [nI_ltI (a := u) (b := w) (by omega) (by omega)] at c_1
    refine lv_iload_n hx hb dX7_sufficesAt_7 rfl (lv_at hl 3 rfl) ?_
    refine lv_iload_n hx hb dX7_sufficesAt_8 rfl (lv_at hl 2 rfl) ?_
    refine lv_iconst (v := (-1)) hx hb dX7_sufficesAt_9 (by decide +kernel) ?_
    refine lv_ixor hx hb dX7_sufficesAt_10 ?_
    refine lv_iand hx hb dX7_sufficesAt_11 ?_
    refine lv_if_ne (tgt := 39) hx hb dX7_sufficesAt_12 (by decide) (fun c_2 => ?_) (fun c_2 => ?_)
    · skip
      have c_2 : ¬ ((nI (w)) &&& ((nI (u)) ^^^ ((-1)))) = nI 0 := c_2
      refine lv_iinc (v := nI (w + 1)) (lv' := [(3, .int (nI (w + 1))), (0, .ref (a)), (1, .int (nI (d))), (2, .int (nI (u)))]) hx hb dX7_sufficesAt_39 hl (k := 3) rfl (nI_1 _) (by decide) rfl (fun ls hl => ?_)
      refine lv_goto (tgt := 2) hx hb dX7_sufficesAt_42 (by decide) ?_
      exact ih_2 (w + 1) ls (by show _ < _; omega) ⟨by omega, lt_s2 hI.2 (by rw [xSaB]; rw [decide_eq_false c_2]; rfl)⟩ (by show lv_has ls 4 [(0, .ref (a)), (1, .int (nI (d))), (2, .int (nI (u))), (3, .int (nI ((w + 1))))]; exact lv_sub hl [1, 2, 3, 0] rfl)
    · skip
      have c_2 : ((nI (w)) &&& ((nI (u)) ^^^ ((-1)))) = nI 0 := c_2
      refine lv_aload_n hx hb dX7_sufficesAt_15 rfl (lv_at hl 0 rfl) ?_
      refine lv_iload_n hx hb dX7_sufficesAt_16 rfl (lv_at hl 1 rfl) ?_
      refine lv_aload_n hx hb dX7_sufficesAt_17 rfl (lv_at hl 0 rfl) ?_
      refine va_get (D := (dC, dI)) (ci := 7) (v := .int (f 6)) (C := RX7) (T := TX7) (N := 16) hx hb hts hin7 hown hK hP 0 rfl rfl 6 (by decide) hW0 (fun _ h9 => h9) rfl dX7_sufficesAt_18 ?_
      refine lv_iload_n hx hb dX7_sufficesAt_21 rfl (lv_at hl 1 rfl) ?_
      refine vp_callSi (va_Run.run (va_runS (As := [.int (f 6), .int (nI (d))]) (rest := [.int (nI (d)), .ref (a)]) ⟨hx, hb, hml, hown, hts⟩ (c7_hueAt l (f 6) (d)) (va_cwS 2 hts gX7_sufficesAt_X7_hueAt rfl rfl rfl (by decide +kernel) ⟨Nat.le_of_ble_eq_true rfl, Nat.le_of_ble_eq_true rfl⟩) ⟨fun _ _ _ _ q => q, fun U hU hW => ⟨rfl, trivial⟩⟩ rfl rfl hl.1 rfl (lv_room (Nat.le_of_ble_eq_true rfl)) dX7_sufficesAt_22 ⟨Nat.le_of_ble_eq_true rfl, Nat.le_of_ble_eq_true rfl⟩)) (fun r hrc => ?_)
      have hrc : r = xHa (f 6) (d) := hrc
      subst hrc
      refine lv_aload_n hx hb dX7_sufficesAt_25 rfl (lv_at hl 0 rfl) ?_
      refine lv_iload_n hx hb dX7_sufficesAt_26 rfl (lv_at hl 3 rfl) ?_
      refine vp_callSi (va_Run.run (va_runV (As := [.int (nI (w))]) (rest := [.int (xHa (f 6) (d)), .int (nI (d)), .ref (a)]) ⟨hx, hb, hml, hown, hts⟩ (c7_unionOf l dC dI cI cP a o f g pa tv n pd pk pv e8 (by omega)  (w)) (cwV 1 hts gX7_sufficesAt_X7_unionOf rfl rfl rfl (by decide +kernel) ⟨Nat.le_of_ble_eq_true rfl, Nat.le_of_ble_eq_true rfl⟩) ⟨fun a U g mk q => ⟨q.1, q.2.1, va_K.moved (u := U) (U := U.calling g mk a) (Vm.Alike.refl U.vm) q.2.2.1, xN.same (u := U) (U := U.calling g mk a) rfl q.2.2.2⟩, va_recv hK hP (ci := 7) (q0 := 0) rfl rfl, fun U hU hW => ⟨rfl, by rw [hU]; exact hP, va_K.moved hW.alike hK, xN.warm hW hN⟩⟩ rfl rfl hl.1 rfl (lv_room (Nat.le_of_ble_eq_true rfl)) dX7_sufficesAt_27 ⟨Nat.le_of_ble_eq_true rfl, Nat.le_of_ble_eq_true rfl⟩)) (fun r hrc => ?_)
      have hrc : r = xUn (g) (nI (w)) (k8) := hrc
      subst hrc
      refine lv_ior hx hb dX7_sufficesAt_30 ?_
      refine vp_callSi (va_Run.run (va_runV (As := [.int (nI (d)), .int ((xHa (f 6) (d)) ||| (xUn (g) (nI (w)) (k8)))]) (rest := []) ⟨hx, hb, hml, hown, hts⟩ (c7_isAsTold l dC dI cI cP a o f g pa tv n pd pk pv e7 (by omega) hpa hpk ((xHa (f 6) (d)) ||| (xUn (g) (nI (w)) (k8))) (d)) (cwV 2 hts gX7_sufficesAt_X7_isAsTold rfl rfl rfl (by decide +kernel) ⟨Nat.le_of_ble_eq_true rfl, Nat.le_of_ble_eq_true rfl⟩) ⟨fun a U g mk q => ⟨q.1, q.2.1, va_K.moved (u := U) (U := U.calling g mk a) (Vm.Alike.refl U.vm) q.2.2.1, xN.same (u := U) (U := U.calling g mk a) rfl q.2.2.2⟩, va_recv hK hP (ci := 7) (q0 := 0) rfl rfl, fun U hU hW => ⟨rfl, by rw [hU]; exact hP, va_K.moved hW.alike hK, xN.warm hW hN⟩⟩ rfl rfl hl.1 rfl (lv_room (Nat.le_of_ble_eq_true rfl)) dX7_sufficesAt_31 ⟨Nat.le_of_ble_eq_true rfl, Nat.le_of_ble_eq_true rfl⟩)) (fun r hrc => ?_)
      have hrc : r = b2i (xToA n pk pv (d) ((xHa (f 6) (d)) ||| (xUn (g) (nI (w)) (k8))) = true) := hrc
      subst hrc
      refine lv_if_eq (tgt := 39) hx hb dX7_sufficesAt_34 (by decide) (fun c_3 => ?_) (fun c_3 => ?_)
      · skip
        have c_3 := b2i_0 c_3
        refine lv_iinc (v := nI (w + 1)) (lv' := [(3, .int (nI (w + 1))), (0, .ref (a)), (1, .int (nI (d))), (2, .int (nI (u)))]) hx hb dX7_sufficesAt_39 hl (k := 3) rfl (nI_1 _) (by decide) rfl (fun ls hl => ?_)
        refine lv_goto (tgt := 2) hx hb dX7_sufficesAt_42 (by decide) ?_
        exact ih_2 (w + 1) ls (by show _ < _; omega) ⟨by omega, lt_s2 hI.2 (by rw [xSaB]; rw [show xToA n pk pv d (xHa (f 6) d ||| xUn g (nI w) k8) = false from (by simpa using c_3)]; simp)⟩ (by show lv_has ls 4 [(0, .ref (a)), (1, .int (nI (d))), (2, .int (nI (u))), (3, .int (nI ((w + 1))))]; exact lv_sub hl [1, 2, 3, 0] rfl)
      · skip
        have c_3 := b2i_1 c_3
        refine lv_iconst (v := nI (1)) hx hb dX7_sufficesAt_37 (by decide +kernel) ?_
        exact W.zret (ty := .boolean) (v := nI (1)) hx hb hr rfl (fun t ht hW => ⟨nI (1), rfl, (by show nI (1) = b2i (xSa f g n k8 pk pv d u = true); exact b2i_t (exB_iff.mpr ⟨w, by omega, by rw [xSaB, decide_eq_true c_2, c_3]; rfl⟩)), ht⟩) (fun _ h => by cases h) dX7_sufficesAt_38

set_option maxHeartbeats 1200000 in
set_option maxRecDepth 100000 in
theorem c7_suffices (l : Launch) (dC : Nat → ClassId) (dI : Nat → Nat → Nat) (cI cP : ClassId) (a : Nat) (o : Nat → Nat) (f : Nat → Int32) (g : Nat → Nat → Int32) (pa : Nat → Option Nat) (tv : Nat → Nat → Int32) (n : Nat) (pd pk : Nat → Nat) (pv : Nat → Nat → Int32) (e7 : f 7 = nI n) (b7 : n ≤ 4) (hpa : ∀ i, i < n → pa i = some (pd i)) (hpk : ∀ i, i < n → pk i < 5) {k8 : Nat} (e8 : f 8 = nI k8) (b8 : k8 ≤ 5) (u : Nat) (hu : u < 32) : Met l yX7_suffices wsX7_suffices ({ frames := 3, cells := 0, slots := 0, locals := 69 } : Room) (va_Pc [.ref (a), .int (nI (u))] (fun U => va_P (dC, dI) vwCl (xW cI cP a o f g pa tv n pd pk pv) U.heap ∧ va_K (dC, dI) vwCl [(cI, .int), (cP, .object RX4)] U ∧ xN U)) (vp_Si (fun r => r = b2i (xSu f g n k8 pk pv u = true))) 0 0 (fun _ => False) := by
  refine Met.ofW (cc := cX7_suffices) (maxL := 3) (ret := (some .boolean)) (by decide) rfl ?_
  intro p_ e_ s m args below meth c_0 s₁ B hml hv
  obtain ⟨rfl, hP, hK, hN⟩ := hv
  have hx := B.exec
  have hb := B.bytes
  have hr := B.returns
  have hts := atoms_spec (ws := wsX7_suffices) B.pre
  have hown : s.vm.findClass RX7 = some m.cls := findClass_of_methodNamed B.named
  have hlocks := B.notSynchronized
  have hP : va_P (dC, dI) vwCl (xW cI cP a o f g pa tv n pd pk pv) s.heap := hP
  have hl := lv_entry ([.ref (a), .int (nI (u))]) (n := 3) (Nat.le_of_ble_eq_true rfl)
  rw [lg_entry_eq]
  generalize (lg_sl ([.ref (a), .int (nI (u))]) ++ List.replicate (3 - (lg_sl ([.ref (a), .int (nI (u))])).length) Slot.unset).toArray = ls at hl ⊢
  have hl : lv_has ls 3 [(0, .ref (a)), (1, .int (nI (u)))] := hl
  refine lv_iconst (v := nI (0)) hx hb dX7_suffices_0 (by decide +kernel) ?_
  refine lv_istore_n (lv' := [(2, .int (nI (0))), (0, .ref (a)), (1, .int (nI (u)))]) hx hb dX7_suffices_1 rfl hl (by decide) rfl (fun ls hl => ?_)
  refine lp_ro (fun w : Nat => 6 - w) (fun w : Nat => w ≤ 6 ∧ ∀ j, j < w → (fun c => xSa f g n k8 pk pv c u) j = true) (fun w : Nat => [(0, .ref (a)), (1, .int (nI (u))), (2, .int (nI (w)))]) (0) ⟨by omega, fun j h => absurd h (Nat.not_lt_zero _)⟩ (by show lv_has ls 3 [(0, .ref (a)), (1, .int (nI (u))), (2, .int (nI (0)))]; exact lv_sub hl [1, 2, 0] rfl) (fun w hI ih_2 ls hl => ?_)
  have hI : w ≤ 6 ∧ ∀ j, j < w → (fun c => xSa f g n k8 pk pv c u) j = true := hI
  have hl : lv_has ls 3 [(0, .ref (a)), (1, .int (nI (u))), (2, .int (nI (w)))] := hl
  have hI1 := hI.1
  refine lv_iload_n hx hb dX7_suffices_2 rfl (lv_at hl 2 rfl) ?_
  refine lv_bipush (v := nI (6)) hx hb dX7_suffices_3 (by decide +kernel) ?_
  refine lv_icmp_ge (tgt := 25) hx hb dX7_suffices_5 (by decide) (fun c_1 => ?_) (fun c_1 => ?_)
  · skip
    rw [nI_leI (a := 6) (b := w) (by omega) (by omega)] at c_1
    refine lv_iconst (v := nI (1)) hx hb dX7_suffices_25 (by decide +kernel) ?_
    exact W.zret (ty := .boolean) (v := nI (1)) hx hb hr rfl (fun t ht hW => ⟨nI (1), rfl, (by show nI (1) = b2i (xSu f g n k8 pk pv u = true); exact b2i_t (by rw [xSu, alB_iff]; intro z hz; exact hI.2 z (by omega))), ht⟩) (fun _ h => by cases h) dX7_suffices_26
  · skip
    rw [nI_leI (a := 6) (b := w) (by omega) (by omega)] at c_1
    refine lv_aload_n hx hb dX7_suffices_8 rfl (lv_at hl 0 rfl) ?_
    refine lv_iload_n hx hb dX7_suffices_9 rfl (lv_at hl 2 rfl) ?_
    refine lv_iload_n hx hb dX7_suffices_10 rfl (lv_at hl 1 rfl) ?_
    refine vp_callSi (va_Run.run (va_runV (As := [.int (nI (w)), .int (nI (u))]) (rest := []) ⟨hx, hb, hml, hown, hts⟩ (c7_sufficesAt l dC dI cI cP a o f g pa tv n pd pk pv e7 (by omega) hpa hpk e8 (by omega)  (w) (u) (by omega) (by omega)) (cwV 2 hts gX7_suffices_X7_sufficesAt rfl rfl rfl (by decide +kernel) ⟨Nat.le_of_ble_eq_true rfl, Nat.le_of_ble_eq_true rfl⟩) ⟨fun a U g mk q => ⟨q.1, q.2.1, va_K.moved (u := U) (U := U.calling g mk a) (Vm.Alike.refl U.vm) q.2.2.1, xN.same (u := U) (U := U.calling g mk a) rfl q.2.2.2⟩, va_recv hK hP (ci := 7) (q0 := 0) rfl rfl, fun U hU hW => ⟨rfl, by rw [hU]; exact hP, va_K.moved hW.alike hK, xN.warm hW hN⟩⟩ rfl rfl hl.1 rfl (lv_room (Nat.le_of_ble_eq_true rfl)) dX7_suffices_11 ⟨Nat.le_of_ble_eq_true rfl, Nat.le_of_ble_eq_true rfl⟩)) (fun r hrc => ?_)
    have hrc : r = b2i (xSa (f) (g) n (k8) pk pv (w) (u) = true) := hrc
    subst hrc
    refine lv_if_ne (tgt := 19) hx hb dX7_suffices_14 (by decide) (fun c_2 => ?_) (fun c_2 => ?_)
    · skip
      have c_2 := b2i_1 c_2
      refine lv_iinc (v := nI (w + 1)) (lv' := [(2, .int (nI (w + 1))), (0, .ref (a)), (1, .int (nI (u)))]) hx hb dX7_suffices_19 hl (k := 2) rfl (nI_1 _) (by decide) rfl (fun ls hl => ?_)
      refine lv_goto (tgt := 2) hx hb dX7_suffices_22 (by decide) ?_
      exact ih_2 (w + 1) ls (by show _ < _; omega) ⟨by omega, lt_s2 (p := fun c => xSa f g n k8 pk pv c u) hI.2 c_2⟩ (by show lv_has ls 3 [(0, .ref (a)), (1, .int (nI (u))), (2, .int (nI ((w + 1))))]; exact lv_sub hl [1, 2, 0] rfl)
    · skip
      have c_2 := b2i_0 c_2
      refine lv_iconst (v := nI (0)) hx hb dX7_suffices_17 (by decide +kernel) ?_
      exact W.zret (ty := .boolean) (v := nI (0)) hx hb hr rfl (fun t ht hW => ⟨nI (0), rfl, (by show nI (0) = b2i (xSu f g n k8 pk pv u = true); exact b2i_f (by rw [xSu, alB_iff]; intro h9; exact c_2 (h9 w (by omega)))), ht⟩) (fun _ h => by cases h) dX7_suffices_18

set_option maxHeartbeats 1200000 in
set_option maxRecDepth 100000 in
theorem c7_fewestInks (l : Launch) (dC : Nat → ClassId) (dI : Nat → Nat → Nat) (cI cP : ClassId) (a : Nat) (o : Nat → Nat) (f : Nat → Int32) (g : Nat → Nat → Int32) (pa : Nat → Option Nat) (tv : Nat → Nat → Int32) (n : Nat) (pd pk : Nat → Nat) (pv : Nat → Nat → Int32) (e7 : f 7 = nI n) (b7 : n ≤ 4) (hpa : ∀ i, i < n → pa i = some (pd i)) (hpk : ∀ i, i < n → pk i < 5) {k8 : Nat} (e8 : f 8 = nI k8) (b8 : k8 ≤ 5) : Met l yX7_fewestInks wsX7_fewestInks ({ frames := 4, cells := 0, slots := 0, locals := 91 } : Room) (va_Pc [.ref (a)] (fun U => va_P (dC, dI) vwCl (xW cI cP a o f g pa tv n pd pk pv) U.heap ∧ va_K (dC, dI) vwCl [(cI, .int), (cP, .object RX4)] U ∧ xN U)) (vp_Si (fun r => r = xBest f g n k8 pk pv)) 0 0 (fun _ => False) := by
  refine Met.ofW (cc := cX7_fewestInks) (maxL := 3) (ret := (some .int)) (by decide) rfl ?_
  intro p_ e_ s m args below meth c_0 s₁ B hml hv
  obtain ⟨rfl, hP, hK, hN⟩ := hv
  have hx := B.exec
  have hb := B.bytes
  have hr := B.returns
  have hts := atoms_spec (ws := wsX7_fewestInks) B.pre
  have hown : s.vm.findClass RX7 = some m.cls := findClass_of_methodNamed B.named
  have hlocks := B.notSynchronized
  have hP : va_P (dC, dI) vwCl (xW cI cP a o f g pa tv n pd pk pv) s.heap := hP
  have hl := lv_entry ([.ref (a)]) (n := 3) (Nat.le_of_ble_eq_true rfl)
  rw [lg_entry_eq]
  generalize (lg_sl ([.ref (a)]) ++ List.replicate (3 - (lg_sl ([.ref (a)])).length) Slot.unset).toArray = ls at hl ⊢
  have hl : lv_has ls 3 [(0, .ref (a))] := hl
  have hin7 : ∀ w ∈ wsX70, w ∈ wsX7_fewestInks := fun _ h => List.mem_cons_of_mem _ (List.mem_append_left _ (List.mem_append_left _ (List.mem_append_left _ (List.mem_append_left _ (List.mem_append_left _ (List.mem_append_right _ h))))))
  have hW0 := hts (.fieldLink RX7 70 "EachEye" "inkCount" "I") (by decide +kernel)
  obtain ⟨P_, hPe, hPb⟩ : ∃ P_ : Nat, P_ = 2 ^ k8 ∧ P_ ≤ 32 := ⟨2 ^ k8, rfl, pow5 b8⟩
  refine lv_iconst (v := nI (0)) hx hb dX7_fewestInks_0 (by decide +kernel) ?_
  refine lv_istore_n (lv' := [(1, .int (nI (0))), (0, .ref (a))]) hx hb dX7_fewestInks_1 rfl hl (by decide) rfl (fun ls hl => ?_)
  refine lp_ro (fun w : Nat => k8 + 1 - w) (fun w : Nat => w ≤ k8 + 1 ∧ ∀ j, j < w → (fun w => decide (xFw f g n k8 pk pv w < 2 ^ k8)) j = false) (fun w : Nat => [(0, .ref (a)), (1, .int (nI (w)))]) (0) ⟨by omega, fun j h => absurd h (Nat.not_lt_zero _)⟩ (by show lv_has ls 3 [(0, .ref (a)), (1, .int (nI (0)))]; exact lv_sub hl [1, 0] rfl) (fun w hI ih_2 ls hl => ?_)
  have hI : w ≤ k8 + 1 ∧ ∀ j, j < w → (fun w => decide (xFw f g n k8 pk pv w < 2 ^ k8)) j = false := hI
  have hl : lv_has ls 3 [(0, .ref (a)), (1, .int (nI (w)))] := hl
  have hO := hI
  have hO1 := hO.1
  refine lv_iload_n hx hb dX7_fewestInks_2 rfl (lv_at hl 1 rfl) ?_
  refine lv_aload_n hx hb dX7_fewestInks_3 rfl (lv_at hl 0 rfl) ?_
  refine va_get (D := (dC, dI)) (ci := 7) (v := .int (nI (k8))) (C := RX7) (T := TX7) (N := 16) hx hb hts hin7 hown hK hP 0 rfl rfl 8 (by decide) hW0 (fun _ h9 => h9) (congrArg (fun z => some (Value.int z)) e8) dX7_fewestInks_4 ?_
  refine lv_icmp_gt (tgt := 52) hx hb dX7_fewestInks_7 (by decide) (fun c_1 => ?_) (fun c_1 => ?_)
  · skip
    rw [nI_ltI (a := k8) (b := w) (by omega) (by omega)] at c_1
    refine lv_iconst (v := (-1)) hx hb dX7_fewestInks_52 (by decide +kernel) ?_
    exact W.iret (v := (-1)) hx hb hr (fun t ht hW => ⟨(-1), rfl, (by show (-1) = xBest f g n k8 pk pv; rw [xBest, xFx, fst1_no (fun j hj => hI.2 j (by omega)), if_neg (Nat.lt_irrefl _)]), ht⟩) (fun _ h => by cases h) dX7_fewestInks_53
  · skip
    rw [nI_ltI (a := k8) (b := w) (by omega) (by omega)] at c_1
    refine lv_iconst (v := nI (0)) hx hb dX7_fewestInks_10 (by decide +kernel) ?_
    refine lv_istore_n (lv' := [(2, .int (nI (0))), (0, .ref (a)), (1, .int (nI (w)))]) hx hb dX7_fewestInks_11 rfl hl (by decide) rfl (fun ls hl => ?_)
    refine lp_ro (fun u : Nat => P_ - u) (fun u : Nat => u ≤ P_ ∧ ∀ j, j < u → xFs f g n k8 pk pv w j = false) (fun u : Nat => [(0, .ref (a)), (1, .int (nI (w))), (2, .int (nI (u)))]) (0) ⟨by omega, fun j h => absurd h (Nat.not_lt_zero _)⟩ (by show lv_has ls 3 [(0, .ref (a)), (1, .int (nI (w))), (2, .int (nI (0)))]; exact lv_sub hl [1, 2, 0] rfl) (fun u hI ih_12 ls hl => ?_)
    have hI : u ≤ P_ ∧ ∀ j, j < u → xFs f g n k8 pk pv w j = false := hI
    have hl : lv_has ls 3 [(0, .ref (a)), (1, .int (nI (w))), (2, .int (nI (u)))] := hl
    have hI1 := hI.1
    refine lv_iload_n hx hb dX7_fewestInks_12 rfl (lv_at hl 2 rfl) ?_
    refine lv_iconst (v := nI (1)) hx hb dX7_fewestInks_13 (by decide +kernel) ?_
    refine lv_aload_n hx hb dX7_fewestInks_14 rfl (lv_at hl 0 rfl) ?_
    refine va_get (D := (dC, dI)) (ci := 7) (v := .int (nI (k8))) (C := RX7) (T := TX7) (N := 16) hx hb hts hin7 hown hK hP 0 rfl rfl 8 (by decide) hW0 (fun _ h9 => h9) (congrArg (fun z => some (Value.int z)) e8) dX7_fewestInks_15 ?_
    refine lv_ishl hx hb dX7_fewestInks_18 ?_
    refine tq (y := nI (P_)) (by rw [hPe]; exact shl1 _ b8) ?_
    refine lv_icmp_ge (tgt := 46) hx hb dX7_fewestInks_19 (by decide) (fun c_2 => ?_) (fun c_2 => ?_)
    · skip
      rw [nI_leI (a := P_) (b := u) (by omega) (by omega)] at c_2
      refine lv_iinc (v := nI (w + 1)) (lv' := [(1, .int (nI (w + 1))), (0, .ref (a)), (2, .int (nI (u)))]) hx hb dX7_fewestInks_46 hl (k := 1) rfl (nI_1 _) (by decide) rfl (fun ls hl => ?_)
      refine lv_goto (tgt := 2) hx hb dX7_fewestInks_49 (by decide) ?_
      exact ih_2 (w + 1) ls (by show _ < _; omega) ⟨by omega, lt_s2 (p := fun w => decide (xFw f g n k8 pk pv w < 2 ^ k8)) hO.2 (decide_eq_false (by rw [xFw, fst1_no (fun j hj => hI.2 j (by omega))]; exact Nat.lt_irrefl _))⟩ (by show lv_has ls 3 [(0, .ref (a)), (1, .int (nI ((w + 1))))]; exact lv_sub hl [1, 0] rfl)
    · skip
      rw [nI_leI (a := P_) (b := u) (by omega) (by omega)] at c_2
      refine lv_iload_n hx hb dX7_fewestInks_22 rfl (lv_at hl 2 rfl) ?_
      refine vp_callSi (va_Run.run (va_runS (As := [.int (nI (u))]) (rest := []) ⟨hx, hb, hml, hown, hts⟩ (c99_bitCount l (nI (u))) (va_cwS 1 hts gX7_fewestInks_J6_bitCount_0f7a4 rfl rfl rfl (by decide +kernel) ⟨Nat.le_of_ble_eq_true rfl, Nat.le_of_ble_eq_true rfl⟩) ⟨fun _ _ _ _ q => q, fun U hU hW => ⟨rfl, trivial⟩⟩ rfl rfl hl.1 rfl (lv_room (Nat.le_of_ble_eq_true rfl)) dX7_fewestInks_23 ⟨Nat.le_of_ble_eq_true rfl, Nat.le_of_ble_eq_true rfl⟩)) (fun r hrc => ?_)
      have hrc : r = xbc (nI (u)) := hrc
      subst hrc
      refine lv_iload_n hx hb dX7_fewestInks_26 rfl (lv_at hl 1 rfl) ?_
      refine lv_icmp_ne (tgt := 40) hx hb dX7_fewestInks_27 (by decide) (fun c_3 => ?_) (fun c_3 => ?_)
      · skip
        refine lv_iinc (v := nI (u + 1)) (lv' := [(2, .int (nI (u + 1))), (0, .ref (a)), (1, .int (nI (w)))]) hx hb dX7_fewestInks_40 hl (k := 2) rfl (nI_1 _) (by decide) rfl (fun ls hl => ?_)
        refine lv_goto (tgt := 12) hx hb dX7_fewestInks_43 (by decide) ?_
        exact ih_12 (u + 1) ls (by show _ < _; omega) ⟨by omega, lt_s2 hI.2 (by rw [xFs]; rw [decide_eq_false c_3]; rfl)⟩ (by show lv_has ls 3 [(0, .ref (a)), (1, .int (nI (w))), (2, .int (nI ((u + 1))))]; exact lv_sub hl [1, 2, 0] rfl)
      · skip
        refine lv_aload_n hx hb dX7_fewestInks_30 rfl (lv_at hl 0 rfl) ?_
        refine lv_iload_n hx hb dX7_fewestInks_31 rfl (lv_at hl 2 rfl) ?_
        refine vp_callSi (va_Run.run (va_runV (As := [.int (nI (u))]) (rest := []) ⟨hx, hb, hml, hown, hts⟩ (c7_suffices l dC dI cI cP a o f g pa tv n pd pk pv e7 (by omega) hpa hpk e8 (by omega)  (u) (by omega)) (cwV 1 hts gX7_fewestInks_X7_suffices rfl rfl rfl (by decide +kernel) ⟨Nat.le_of_ble_eq_true rfl, Nat.le_of_ble_eq_true rfl⟩) ⟨fun a U g mk q => ⟨q.1, q.2.1, va_K.moved (u := U) (U := U.calling g mk a) (Vm.Alike.refl U.vm) q.2.2.1, xN.same (u := U) (U := U.calling g mk a) rfl q.2.2.2⟩, va_recv hK hP (ci := 7) (q0 := 0) rfl rfl, fun U hU hW => ⟨rfl, by rw [hU]; exact hP, va_K.moved hW.alike hK, xN.warm hW hN⟩⟩ rfl rfl hl.1 rfl (lv_room (Nat.le_of_ble_eq_true rfl)) dX7_fewestInks_32 ⟨Nat.le_of_ble_eq_true rfl, Nat.le_of_ble_eq_true rfl⟩)) (fun r hrc => ?_)
        have hrc : r = b2i (xSu (f) (g) n (k8) pk pv (u) = true) := hrc
        subst hrc
        refine lv_if_eq (tgt := 40) hx hb dX7_fewestInks_35 (by decide) (fun c_4 => ?_) (fun c_4 => ?_)
        · skip
          have c_4 := b2i_0 c_4
          refine lv_iinc (v := nI (u + 1)) (lv' := [(2, .int (nI (u + 1))), (0, .ref (a)), (1, .int (nI (w)))]) hx hb dX7_fewestInks_40 hl (k := 2) rfl (nI_1 _) (by decide) rfl (fun ls hl => ?_)
          refine lv_goto (tgt := 12) hx hb dX7_fewestInks_43 (by decide) ?_
          exact ih_12 (u + 1) ls (by show _ < _; omega) ⟨by omega, lt_s2 hI.2 (by rw [xFs]; rw [show xSu f g n k8 pk pv u = false from (by simpa using c_4)]; simp)⟩ (by show lv_has ls 3 [(0, .ref (a)), (1, .int (nI (w))), (2, .int (nI ((u + 1))))]; exact lv_sub hl [1, 2, 0] rfl)
        · skip
          have c_4 := b2i_1 c_4
          refine lv_iload_n hx hb dX7_fewestInks_38 rfl (lv_at hl 2 rfl) ?_
          exact W.iret (v := nI (u)) hx hb hr (fun t ht hW => ⟨nI (u), rfl, (by show nI (u) = xBest f g n k8 pk pv; have h1 : xFw f g n k8 pk pv w = u := fst1_at (by omega) hI.2 (by rw [xFs, decide_eq_true c_3, c_4]; rfl); have h2 : xFx f g n k8 pk pv = w := fst1_at (by omega) hO.2 (decide_eq_true (by rw [h1]; omega)); rw [xBest, h2, if_pos (by omega), h1]), ht⟩) (fun _ h => by cases h) dX7_fewestInks_39

set_option maxHeartbeats 1200000 in
set_option maxRecDepth 100000 in
theorem c7_few (l : Launch) (dC : Nat → ClassId) (dI : Nat → Nat → Nat) (cI cP : ClassId) (a : Nat) (o : Nat → Nat) (f : Nat → Int32) (g : Nat → Nat → Int32) (pa : Nat → Option Nat) (tv : Nat → Nat → Int32) (n : Nat) (pd pk : Nat → Nat) (pv : Nat → Nat → Int32) (e7 : f 7 = nI n) (b7 : n ≤ 4) (hpa : ∀ i, i < n → pa i = some (pd i)) (hpk : ∀ i, i < n → pk i < 5) {k8 : Nat} (e8 : f 8 = nI k8) (b8 : k8 ≤ 5) (x : Int32) : Met l yX7_few wsX7_few ({ frames := 5, cells := 0, slots := 0, locals := 113 } : Room) (va_Pc [.ref (a), .int (x)] (fun U => va_P (dC, dI) vwCl (xW cI cP a o f g pa tv n pd pk pv) U.heap ∧ va_K (dC, dI) vwCl [(cI, .int), (cP, .object RX4)] U ∧ xN U)) (vp_Si (fun r => r = xFew f g n k8 pk pv x)) 0 0 (fun _ => False) := by
  refine Met.ofW (cc := cX7_few) (maxL := 3) (ret := (some .int)) (by decide) rfl ?_
  intro p_ e_ s m args below meth c_0 s₁ B hml hv
  obtain ⟨rfl, hP, hK, hN⟩ := hv
  have hx := B.exec
  have hb := B.bytes
  have hr := B.returns
  have hts := atoms_spec (ws := wsX7_few) B.pre
  have hown : s.vm.findClass RX7 = some m.cls := findClass_of_methodNamed B.named
  have hlocks := B.notSynchronized
  have hP : va_P (dC, dI) vwCl (xW cI cP a o f g pa tv n pd pk pv) s.heap := hP
  have hl := lv_entry ([.ref (a), .int (x)]) (n := 3) (Nat.le_of_ble_eq_true rfl)
  rw [lg_entry_eq]
  generalize (lg_sl ([.ref (a), .int (x)]) ++ List.replicate (3 - (lg_sl ([.ref (a), .int (x)])).length) Slot.unset).toArray = ls at hl ⊢
  have hl : lv_has ls 3 [(0, .ref (a)), (1, .int (x))] := hl
  have hin7 : ∀ w ∈ wsX70, w ∈ wsX7_few := fun _ h => List.mem_cons_of_mem _ (List.mem_append_left _ (List.mem_append_left _ (List.mem_append_left _ (List.mem_append_left _ (List.mem_append_left _ (List.mem_append_right _ h))))))
  have hW0 := hts (.fieldLink RX7 39 "EachEye" "theSign" "I") (by decide +kernel)
  refine lv_iload_n hx hb dX7_few_0 rfl (lv_at hl 1 rfl) ?_
  refine lv_if_lt (tgt := 9) hx hb dX7_few_1 (by decide) (fun c_1 => ?_) (fun c_1 => ?_)
  · skip
    rw [lti, show (0 : Int32).toInt = 0 from rfl] at c_1
    refine lv_bipush (v := (-102)) hx hb dX7_few_9 (by decide +kernel) ?_
    exact W.iret (v := (-102)) hx hb hr (fun t ht hW => ⟨(-102), rfl, (by show (-102) = xFew f g n k8 pk pv x; first | (simp only [xFew, if_pos c_1]; done) | (simp only [xFew, if_pos c_1]; rfl) | rfl | (simp [xFew, if_pos c_1]; done)), ht⟩) (fun _ h => by cases h) dX7_few_11
  · skip
    rw [lti, show (0 : Int32).toInt = 0 from rfl] at c_1
    refine lv_iload_n hx hb dX7_few_4 rfl (lv_at hl 1 rfl) ?_
    refine lv_iconst (v := nI (1)) hx hb dX7_few_5 (by decide +kernel) ?_
    refine lv_icmp_le (tgt := 12) hx hb dX7_few_6 (by decide) (fun c_2 => ?_) (fun c_2 => ?_)
    · skip
      rw [lei, tn (n := 1) (by omega)] at c_2
      refine lv_aload_n hx hb dX7_few_12 rfl (lv_at hl 0 rfl) ?_
      refine va_get (D := (dC, dI)) (ci := 7) (v := .int (f 6)) (C := RX7) (T := TX7) (N := 16) hx hb hts hin7 hown hK hP 0 rfl rfl 6 (by decide) hW0 (fun _ h9 => h9) rfl dX7_few_13 ?_
      refine lv_iconst (v := (-1)) hx hb dX7_few_16 (by decide +kernel) ?_
      refine lv_icmp_ne (tgt := 23) hx hb dX7_few_17 (by decide) (fun c_3 => ?_) (fun c_3 => ?_)
      · skip
        refine lv_aload_n hx hb dX7_few_23 rfl (lv_at hl 0 rfl) ?_
        refine vp_callSi (va_Run.run (va_runV (As := []) (rest := []) ⟨hx, hb, hml, hown, hts⟩ (c7_fewestInks l dC dI cI cP a o f g pa tv n pd pk pv e7 (by omega) hpa hpk e8 (by omega)  ) (cwV 0 hts gX7_few_X7_fewestInks rfl rfl rfl (by decide +kernel) ⟨Nat.le_of_ble_eq_true rfl, Nat.le_of_ble_eq_true rfl⟩) ⟨fun a U g mk q => ⟨q.1, q.2.1, va_K.moved (u := U) (U := U.calling g mk a) (Vm.Alike.refl U.vm) q.2.2.1, xN.same (u := U) (U := U.calling g mk a) rfl q.2.2.2⟩, va_recv hK hP (ci := 7) (q0 := 0) rfl rfl, fun U hU hW => ⟨rfl, by rw [hU]; exact hP, va_K.moved hW.alike hK, xN.warm hW hN⟩⟩ rfl rfl hl.1 rfl (lv_room (Nat.le_of_ble_eq_true rfl)) dX7_few_24 ⟨Nat.le_of_ble_eq_true rfl, Nat.le_of_ble_eq_true rfl⟩)) (fun r hrc => ?_)
        have hrc : r = xBest (f) (g) n (k8) pk pv := hrc
        subst hrc
        refine lv_istore_n (lv' := [(2, .int (xBest (f) (g) n (k8) pk pv)), (0, .ref (a)), (1, .int (x))]) hx hb dX7_few_27 rfl hl (by decide) rfl (fun ls hl => ?_)
        refine lv_iload_n hx hb dX7_few_28 rfl (lv_at hl 0 rfl) ?_
        refine lv_iconst (v := (-1)) hx hb dX7_few_29 (by decide +kernel) ?_
        refine lv_icmp_ne (tgt := 35) hx hb dX7_few_30 (by decide) (fun c_4 => ?_) (fun c_4 => ?_)
        · skip
          refine lv_iload_n hx hb dX7_few_35 rfl (lv_at hl 2 rfl) ?_
          refine lv_if_ne (tgt := 46) hx hb dX7_few_36 (by decide) (fun c_5 => ?_) (fun c_5 => ?_)
          · skip
            have c_5 : ¬ (x) = nI 0 := c_5
            refine lv_iload_n hx hb dX7_few_46 rfl (lv_at hl 0 rfl) ?_
            exact W.iret (v := xBest (f) (g) n (k8) pk pv) hx hb hr (fun t ht hW => ⟨xBest (f) (g) n (k8) pk pv, rfl, (by show xBest (f) (g) n (k8) pk pv = xFew f g n k8 pk pv x; first | (simp only [xFew, if_neg c_1, if_pos c_2, if_neg c_3, if_neg c_4, if_neg c_5]; done) | (simp only [xFew, if_neg c_1, if_pos c_2, if_neg c_3, if_neg c_4, if_neg c_5]; rfl) | rfl | (simp [xFew, if_neg c_1, if_pos c_2, if_neg c_3, if_neg c_4, if_neg c_5]; done)), ht⟩) (fun _ h => by cases h) dX7_few_47
          · skip
            have c_5 : (x) = nI 0 := c_5
            refine lv_iload_n hx hb dX7_few_39 rfl (lv_at hl 0 rfl) ?_
            refine vp_callSi (va_Run.run (va_runS (As := [.int (xBest (f) (g) n (k8) pk pv)]) (rest := []) ⟨hx, hb, hml, hown, hts⟩ (c99_bitCount l (xBest (f) (g) n (k8) pk pv)) (va_cwS 1 hts gX7_few_J6_bitCount_0f7a4 rfl rfl rfl (by decide +kernel) ⟨Nat.le_of_ble_eq_true rfl, Nat.le_of_ble_eq_true rfl⟩) ⟨fun _ _ _ _ q => q, fun U hU hW => ⟨rfl, trivial⟩⟩ rfl rfl hl.1 rfl (lv_room (Nat.le_of_ble_eq_true rfl)) dX7_few_40 ⟨Nat.le_of_ble_eq_true rfl, Nat.le_of_ble_eq_true rfl⟩)) (fun r hrc => ?_)
            have hrc : r = xbc (xBest (f) (g) n (k8) pk pv) := hrc
            subst hrc
            refine lv_goto (tgt := 47) hx hb dX7_few_43 (by decide) ?_
            exact W.iret (v := xbc (xBest (f) (g) n (k8) pk pv)) hx hb hr (fun t ht hW => ⟨xbc (xBest (f) (g) n (k8) pk pv), rfl, (by show xbc (xBest (f) (g) n (k8) pk pv) = xFew f g n k8 pk pv x; first | (simp only [xFew, if_neg c_1, if_pos c_2, if_neg c_3, if_neg c_4, if_pos c_5]; done) | (simp only [xFew, if_neg c_1, if_pos c_2, if_neg c_3, if_neg c_4, if_pos c_5]; rfl) | rfl | (simp [xFew, if_neg c_1, if_pos c_2, if_neg c_3, if_neg c_4, if_pos c_5]; done)), ht⟩) (fun _ h => by cases h) dX7_few_47
        · skip
          refine lv_iconst (v := (-1)) hx hb dX7_few_33 (by decide +kernel) ?_
          exact W.iret (v := (-1)) hx hb hr (fun t ht hW => ⟨(-1), rfl, (by show (-1) = xFew f g n k8 pk pv x; first | (simp only [xFew, if_neg c_1, if_pos c_2, if_neg c_3, if_pos c_4]; done) | (simp only [xFew, if_neg c_1, if_pos c_2, if_neg c_3, if_pos c_4]; rfl) | rfl | (simp [xFew, if_neg c_1, if_pos c_2, if_neg c_3, if_pos c_4]; done)), ht⟩) (fun _ h => by cases h) dX7_few_34
      · skip
        refine lv_bipush (v := (-103)) hx hb dX7_few_20 (by decide +kernel) ?_
        exact W.iret (v := (-103)) hx hb hr (fun t ht hW => ⟨(-103), rfl, (by show (-103) = xFew f g n k8 pk pv x; first | (simp only [xFew, if_neg c_1, if_pos c_2, if_pos c_3]; done) | (simp only [xFew, if_neg c_1, if_pos c_2, if_pos c_3]; rfl) | rfl | (simp [xFew, if_neg c_1, if_pos c_2, if_pos c_3]; done)), ht⟩) (fun _ h => by cases h) dX7_few_22
    · skip
      rw [lei, tn (n := 1) (by omega)] at c_2
      refine lv_bipush (v := (-102)) hx hb dX7_few_9 (by decide +kernel) ?_
      exact W.iret (v := (-102)) hx hb hr (fun t ht hW => ⟨(-102), rfl, (by show (-102) = xFew f g n k8 pk pv x; first | (simp only [xFew, if_neg c_1, if_neg c_2]; done) | (simp only [xFew, if_neg c_1, if_neg c_2]; rfl) | rfl | (simp [xFew, if_neg c_1, if_neg c_2]; done)), ht⟩) (fun _ h => by cases h) dX7_few_11
