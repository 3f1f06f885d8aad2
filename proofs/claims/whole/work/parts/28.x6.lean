def xSee (pk : Nat → Nat) (pv : Nat → Nat → Int32) (i : Nat) (x : Int32) : Int32 := see (nI (pk i)) (pv i 0) (pv i 1) x
def xHue (y x : Int32) : Int32 := if y = (-1) then (-101) else if x.toInt < 0 then (-101) else if x.toInt < ((6 : Nat) : Int) then xHa y x.toInt.toNat else (-101)
abbrev xOk (x : Int32) (n : Nat) : Prop := 0 ≤ x.toInt ∧ x.toInt < (n : Int)
def xAs (n : Nat) (pk : Nat → Nat) (x y : Int32) : Int32 := if xOk x n then (if 0 ≤ y.toInt ∧ y.toInt ≤ 4 then (if xIs (pk x.toInt.toNat) y = nI 0 then (-1) else x) else (-102)) else (-101)
def xSees (n : Nat) (pk : Nat → Nat) (pv : Nat → Nat → Int32) (x y : Int32) : Int32 := if xOk x n then (if 0 ≤ y.toInt ∧ y.toInt ≤ 7 then xSee pk pv x.toInt.toNat y else (-102)) else (-101)
def xInkOf (g : Nat → Nat → Int32) (n : Nat) (x : Int32) : Int32 := if xOk x n then g 1 x.toInt.toNat else (-101)
def xDfB (f : Nat → Int32) (pk : Nat → Nat) (pv : Nat → Nat → Int32) (i j : Nat) (c : Nat) : Bool := decide (xSee pk pv i (xHa (f 6) c) = xSee pk pv j (xHa (f 6) c))
def xDf (f : Nat → Int32) (pk : Nat → Nat) (pv : Nat → Nat → Int32) (i j : Nat) : Int32 := if fst1 (fun c => !xDfB f pk pv i j c) 6 < 6 then nI (fst1 (fun c => !xDfB f pk pv i j c) 6) else (-1)
def xDiffer (f : Nat → Int32) (n : Nat) (pk : Nat → Nat) (pv : Nat → Nat → Int32) (x y : Int32) : Int32 := if xOk x n then (if xOk y n then xDf f pk pv x.toInt.toNat y.toInt.toNat else (-101)) else (-101)
def xAl (pk : Nat → Nat) (pv : Nat → Nat → Int32) (i j : Nat) : Int32 := sm (fun q9 => b2i (xSee pk pv i (nI q9) = xSee pk pv j (nI q9))) 8
def xAlike (n : Nat) (pk : Nat → Nat) (pv : Nat → Nat → Int32) (x y : Int32) : Int32 := if xOk x n then (if xOk y n then xAl pk pv x.toInt.toNat y.toInt.toNat else (-101)) else (-101)
def xAb3 (pk : Nat → Nat) (pv : Nat → Nat → Int32) (i : Nat) (y : Int32) : Int32 := if y.toInt = 0 then nI (pk i) else if y.toInt = 1 then pv i 0 else if y.toInt = 2 then pv i 1 else if y.toInt = 3 then xTrue (pk i) (pv i 0) (pv i 1) 8 else (-102)
def xAb (f : Nat → Int32) (pk : Nat → Nat) (pv : Nat → Nat → Int32) (i : Nat) (y : Int32) : Int32 := if 10 ≤ y.toInt ∧ y.toInt < 16 then xSee pk pv i (xHa (f 6) (y.toInt.toNat - 10)) else if 20 ≤ y.toInt ∧ y.toInt < 26 then (if pv i 2 = (-1) then (-1) else xHa (pv i 2) (y.toInt.toNat - 20)) else xAb3 pk pv i y
def xAbout (f : Nat → Int32) (n : Nat) (pk : Nat → Nat) (pv : Nat → Nat → Int32) (x y : Int32) : Int32 := if xOk x n then xAb f pk pv x.toInt.toNat y else (-101)
def xLetter (f : Nat → Int32) (g : Nat → Nat → Int32) (k : Nat) (x : Int32) : Int32 × (Nat → Int32) × (Nat → Nat → Int32) := if x.toInt < ((1 : Nat) : Int) then ((-102), f, g) else if x.toInt ≤ ((126 : Nat) : Int) then (if k < 10 then (nI (k + 1), su f 16 (nI (k + 1)), su g 0 (su (g 0) k x)) else ((-104), f, g)) else ((-102), f, g)
def xInkM (f : Nat → Int32) (g : Nat → Nat → Int32) (k : Nat) (x : Int32) : Int32 × (Nat → Int32) × (Nat → Nat → Int32) := if 0 ≤ x.toInt ∧ x.toInt ≤ 7 then (if x = nI 0 then ((-102), f, g) else if f 6 = (-1) then ((-103), f, g) else if k < 5 then (nI (k + 1 - 1), su f 8 (nI (k + 1)), su g 1 (su (g 1) k x)) else ((-104), f, g)) else ((-102), f, g)
def xCard (f : Nat → Int32) (g : Nat → Nat → Int32) (k : Nat) (x y : Int32) : Int32 × (Nat → Int32) × (Nat → Nat → Int32) := if 0 ≤ x.toInt ∧ x.toInt ≤ 7 then (if 0 ≤ y.toInt ∧ y.toInt ≤ 7 then (if k < 8 then (nI (k + 1), su f 17 (nI (k + 1)), su (su g 2 (su (g 2) k x)) 3 (su (g 3) k y)) else ((-104), f, g)) else ((-102), f, g)) else ((-102), f, g)
def xp3 (z : Int32 × (Nat → Int32) × (Nat → Nat → Int32)) (pa : Nat → Option Nat) (tv : Nat → Nat → Int32) (n : Nat) (pd pk : Nat → Nat) (pv : Nat → Nat → Int32) : Int32 × XSt := (z.1, z.2.1, z.2.2, pa, tv, n, pd, pk, pv)
def xEye (pv : Nat → Nat → Int32) (n : Nat) (x y z : Int32) : Int32 × (Nat → Nat → Int32) := if xOk x n then (if y.toInt < 0 then ((-102), pv) else if ((1 : Nat) : Int) < y.toInt then ((-102), pv) else if 0 ≤ z.toInt ∧ z.toInt ≤ 7 then (if y = nI 0 then (pv x.toInt.toNat 0, su pv x.toInt.toNat (su (pv x.toInt.toNat) 0 z)) else (pv x.toInt.toNat 1, su pv x.toInt.toNat (su (pv x.toInt.toNat) 1 z))) else ((-102), pv)) else ((-101), pv)
def xUnword (pv : Nat → Nat → Int32) (n : Nat) (x : Int32) : Int32 × (Nat → Nat → Int32) := if xOk x n then (if pv x.toInt.toNat 2 = (-1) then nI 0 else nI 1, su pv x.toInt.toNat (su (pv x.toInt.toNat) 2 (-1))) else ((-101), pv)
def xWord (f : Nat → Int32) (g : Nat → Nat → Int32) (pa : Nat → Option Nat) (tv : Nat → Nat → Int32) (n : Nat) (pd pk : Nat → Nat) (pv : Nat → Nat → Int32) (k : Nat) (x : Int32) : Int32 × XSt := if xOk x n then (if xText g k = (-1) then ((-103), f, g, pa, tv, n, pd, pk, pv) else (sm (fun q9 => b2i (¬ (su pv x.toInt.toNat (su (pv x.toInt.toNat) 2 (xText g k))) q9 2 = (-1))) n, su f 16 (nI 0), g, pa, tv, n, pd, pk, su pv x.toInt.toNat (su (pv x.toInt.toNat) 2 (xText g k)))) else ((-101), f, g, pa, tv, n, pd, pk, pv)
set_option maxHeartbeats 1200000 in
set_option maxRecDepth 100000 in
theorem c7_hue (l : Launch) (dC : Nat → ClassId) (dI : Nat → Nat → Nat) (cI cP : ClassId) (a : Nat) (o : Nat → Nat) (f : Nat → Int32) (g : Nat → Nat → Int32) (pa : Nat → Option Nat) (tv : Nat → Nat → Int32) (n : Nat) (pd pk : Nat → Nat) (pv : Nat → Nat → Int32) (x : Int32) : Met l yX7_hue wsX7_hue ({ frames := 1, cells := 0, slots := 0, locals := 21 } : Room) (va_Pc [.ref (a), .int (x)] (fun U => va_P (dC, dI) vwCl (xW cI cP a o f g pa tv n pd pk pv) U.heap ∧ va_K (dC, dI) vwCl [(cI, .int), (cP, .object RX4)] U ∧ xN U)) (vp_Si (fun r => r = xHue (f 6) x)) 0 0 (fun _ => False) := by
  refine Met.ofW (cc := cX7_hue) (maxL := 2) (ret := (some .int)) (by decide) rfl ?_
  intro p_ e_ s m args below meth c_0 s₁ B hml hv
  obtain ⟨rfl, hP, hK, hN⟩ := hv
  have hx := B.exec
  have hb := B.bytes
  have hr := B.returns
  have hts := atoms_spec (ws := wsX7_hue) B.pre
  have hown : s.vm.findClass RX7 = some m.cls := findClass_of_methodNamed B.named
  have hlocks := B.notSynchronized
  have hP : va_P (dC, dI) vwCl (xW cI cP a o f g pa tv n pd pk pv) s.heap := hP
  have hl := lv_entry ([.ref (a), .int (x)]) (n := 2) (Nat.le_of_ble_eq_true rfl)
  rw [lg_entry_eq]
  generalize (lg_sl ([.ref (a), .int (x)]) ++ List.replicate (2 - (lg_sl ([.ref (a), .int (x)])).length) Slot.unset).toArray = ls at hl ⊢
  have hl : lv_has ls 2 [(0, .ref (a)), (1, .int (x))] := hl
  have hin7 : ∀ w ∈ wsX70, w ∈ wsX7_hue := fun _ h => List.mem_cons_of_mem _ (List.mem_append_right _ h)
  have hW0 := hts (.fieldLink RX7 39 "EachEye" "theSign" "I") (by decide +kernel)
  refine lv_aload_n hx hb dX7_hue_0 rfl (lv_at hl 0 rfl) ?_
  refine va_get (D := (dC, dI)) (ci := 7) (v := .int (f 6)) (C := RX7) (T := TX7) (N := 16) hx hb hts hin7 hown hK hP 0 rfl rfl 6 (by decide) hW0 (fun _ h9 => h9) rfl dX7_hue_1 ?_
  refine lv_iconst (v := (-1)) hx hb dX7_hue_4 (by decide +kernel) ?_
  refine lv_icmp_eq (tgt := 18) hx hb dX7_hue_5 (by decide) (fun c_1 => ?_) (fun c_1 => ?_)
  · skip
    refine lv_bipush (v := (-101)) hx hb dX7_hue_18 (by decide +kernel) ?_
    exact W.iret (v := (-101)) hx hb hr (fun t ht hW => ⟨(-101), rfl, (by show (-101) = xHue (f 6) x; first | (simp only [xHue, if_pos c_1]; done) | (simp only [xHue, if_pos c_1]; rfl) | rfl | (simp [xHue, if_pos c_1]; done)), ht⟩) (fun _ h => by cases h) dX7_hue_20
  · skip
    refine lv_iload_n hx hb dX7_hue_8 rfl (lv_at hl 1 rfl) ?_
    refine lv_if_lt (tgt := 18) hx hb dX7_hue_9 (by decide) (fun c_2 => ?_) (fun c_2 => ?_)
    · skip
      rw [lti, show (0 : Int32).toInt = 0 from rfl] at c_2
      refine lv_bipush (v := (-101)) hx hb dX7_hue_18 (by decide +kernel) ?_
      exact W.iret (v := (-101)) hx hb hr (fun t ht hW => ⟨(-101), rfl, (by show (-101) = xHue (f 6) x; first | (simp only [xHue, if_neg c_1, if_pos c_2]; done) | (simp only [xHue, if_neg c_1, if_pos c_2]; rfl) | rfl | (simp [xHue, if_neg c_1, if_pos c_2]; done)), ht⟩) (fun _ h => by cases h) dX7_hue_20
    · skip
      rw [lti, show (0 : Int32).toInt = 0 from rfl] at c_2
      refine lv_iload_n hx hb dX7_hue_12 rfl (lv_at hl 1 rfl) ?_
      refine lv_bipush (v := nI (6)) hx hb dX7_hue_13 (by decide +kernel) ?_
      refine lv_icmp_lt (tgt := 21) hx hb dX7_hue_15 (by decide) (fun c_3 => ?_) (fun c_3 => ?_)
      · skip
        rw [lti, tn (n := 6) (by omega)] at c_3
        refine lv_aload_n hx hb dX7_hue_21 rfl (lv_at hl 0 rfl) ?_
        refine va_get (D := (dC, dI)) (ci := 7) (v := .int (f 6)) (C := RX7) (T := TX7) (N := 16) hx hb hts hin7 hown hK hP 0 rfl rfl 6 (by decide) hW0 (fun _ h9 => h9) rfl dX7_hue_22 ?_
        refine lv_iload_n hx hb dX7_hue_25 rfl (lv_at hl 1 rfl) ?_
        refine tq (ix_int (by omega)) ?_
        refine vp_callSi (va_Run.run (va_runS (As := [.int (f 6), .int (nI (x.toInt.toNat))]) (rest := []) ⟨hx, hb, hml, hown, hts⟩ (c7_hueAt l (f 6) (x.toInt.toNat)) (va_cwS 2 hts gX7_hue_X7_hueAt rfl rfl rfl (by decide +kernel) ⟨Nat.le_of_ble_eq_true rfl, Nat.le_of_ble_eq_true rfl⟩) ⟨fun _ _ _ _ q => q, fun U hU hW => ⟨rfl, trivial⟩⟩ rfl rfl hl.1 rfl (lv_room (Nat.le_of_ble_eq_true rfl)) dX7_hue_26 ⟨Nat.le_of_ble_eq_true rfl, Nat.le_of_ble_eq_true rfl⟩)) (fun r hrc => ?_)
        have hrc : r = xHa (f 6) (x.toInt.toNat) := hrc
        subst hrc
        exact W.iret (v := xHa (f 6) (x.toInt.toNat)) hx hb hr (fun t ht hW => ⟨xHa (f 6) (x.toInt.toNat), rfl, (by show xHa (f 6) (x.toInt.toNat) = xHue (f 6) x; first | (simp only [xHue, if_neg c_1, if_neg c_2, if_pos c_3]; done) | (simp only [xHue, if_neg c_1, if_neg c_2, if_pos c_3]; rfl) | rfl | (simp [xHue, if_neg c_1, if_neg c_2, if_pos c_3]; done)), ht⟩) (fun _ h => by cases h) dX7_hue_29
      · skip
        rw [lti, tn (n := 6) (by omega)] at c_3
        refine lv_bipush (v := (-101)) hx hb dX7_hue_18 (by decide +kernel) ?_
        exact W.iret (v := (-101)) hx hb hr (fun t ht hW => ⟨(-101), rfl, (by show (-101) = xHue (f 6) x; first | (simp only [xHue, if_neg c_1, if_neg c_2, if_neg c_3]; done) | (simp only [xHue, if_neg c_1, if_neg c_2, if_neg c_3]; rfl) | rfl | (simp [xHue, if_neg c_1, if_neg c_2, if_neg c_3]; done)), ht⟩) (fun _ h => by cases h) dX7_hue_20

set_option maxHeartbeats 1200000 in
set_option maxRecDepth 100000 in
theorem c7_fault (l : Launch) (dC : Nat → ClassId) (dI : Nat → Nat → Nat) (cI cP : ClassId) (a : Nat) (o : Nat → Nat) (f : Nat → Int32) (g : Nat → Nat → Int32) (pa : Nat → Option Nat) (tv : Nat → Nat → Int32) (n : Nat) (pd pk : Nat → Nat) (pv : Nat → Nat → Int32) {k16 : Nat} (e16 : f 16 = nI k16) (b16 : k16 ≤ 10) : Met l yX7_fault wsX7_fault ({ frames := 2, cells := 0, slots := 0, locals := 41 } : Room) (va_Pc [.ref (a)] (fun U => va_P (dC, dI) vwCl (xW cI cP a o f g pa tv n pd pk pv) U.heap ∧ va_K (dC, dI) vwCl [(cI, .int), (cP, .object RX4)] U ∧ xN U)) (vp_Si (fun r => r = nI (xfl g k16))) 0 0 (fun _ => False) := by
  refine Met.ofW (cc := cX7_fault) (maxL := 1) (ret := (some .int)) (by decide) rfl ?_
  intro p_ e_ s m args below meth c_0 s₁ B hml hv
  obtain ⟨rfl, hP, hK, hN⟩ := hv
  have hx := B.exec
  have hb := B.bytes
  have hr := B.returns
  have hts := atoms_spec (ws := wsX7_fault) B.pre
  have hown : s.vm.findClass RX7 = some m.cls := findClass_of_methodNamed B.named
  have hlocks := B.notSynchronized
  have hP : va_P (dC, dI) vwCl (xW cI cP a o f g pa tv n pd pk pv) s.heap := hP
  have hl := lv_entry ([.ref (a)]) (n := 1) (Nat.le_of_ble_eq_true rfl)
  rw [lg_entry_eq]
  generalize (lg_sl ([.ref (a)]) ++ List.replicate (1 - (lg_sl ([.ref (a)])).length) Slot.unset).toArray = ls at hl ⊢
  have hl : lv_has ls 1 [(0, .ref (a))] := hl
  have hin7 : ∀ w ∈ wsX70, w ∈ wsX7_fault := fun _ h => List.mem_cons_of_mem _ (List.mem_append_left _ (List.mem_append_right _ h))
  have hW0 := hts (.fieldLink RX7 12 "EachEye" "page" "LEachEye$Page;") (by decide +kernel)
  refine lv_aload_n hx hb dX7_fault_0 rfl (lv_at hl 0 rfl) ?_
  refine va_get (D := (dC, dI)) (ci := 7) (v := .ref (o 0)) (C := RX7) (T := TX7) (N := 16) hx hb hts hin7 hown hK hP 0 rfl rfl 0 (by decide) hW0 (fun _ h9 => h9) rfl dX7_fault_1 ?_
  refine vp_callSi (va_Run.run (va_runV (As := []) (rest := []) ⟨hx, hb, hml, hown, hts⟩ (c3_soundLetters l dC dI cI cP a o f g pa tv n pd pk pv e16 (by omega)  ) (cwV 0 hts gX7_fault_X3_soundLetters rfl rfl rfl (by decide +kernel) ⟨Nat.le_of_ble_eq_true rfl, Nat.le_of_ble_eq_true rfl⟩) ⟨fun a U g mk q => ⟨q.1, q.2.1, va_K.moved (u := U) (U := U.calling g mk a) (Vm.Alike.refl U.vm) q.2.2.1, xN.same (u := U) (U := U.calling g mk a) rfl q.2.2.2⟩, va_recv hK hP (ci := 3) (q0 := 1) rfl rfl, fun U hU hW => ⟨rfl, by rw [hU]; exact hP, va_K.moved hW.alike hK, xN.warm hW hN⟩⟩ rfl rfl hl.1 rfl (lv_room (Nat.le_of_ble_eq_true rfl)) dX7_fault_4 ⟨Nat.le_of_ble_eq_true rfl, Nat.le_of_ble_eq_true rfl⟩)) (fun r hrc => ?_)
  have hrc : r = nI (xfl (g) (k16)) := hrc
  subst hrc
  exact W.iret (v := nI (xfl (g) (k16))) hx hb hr (fun t ht hW => ⟨nI (xfl (g) (k16)), rfl, (by show nI (xfl (g) (k16)) = nI (xfl g k16); rfl), ht⟩) (fun _ h => by cases h) dX7_fault_7

set_option maxHeartbeats 1200000 in
set_option maxRecDepth 100000 in
theorem c7_as (l : Launch) (dC : Nat → ClassId) (dI : Nat → Nat → Nat) (cI cP : ClassId) (a : Nat) (o : Nat → Nat) (f : Nat → Int32) (g : Nat → Nat → Int32) (pa : Nat → Option Nat) (tv : Nat → Nat → Int32) (n : Nat) (pd pk : Nat → Nat) (pv : Nat → Nat → Int32) (e7 : f 7 = nI n) (b7 : n ≤ 4) (hpa : ∀ i, i < n → pa i = some (pd i)) (hpk : ∀ i, i < n → pk i < 5) (x : Int32) (y : Int32) : Met l yX7_as wsX7_as ({ frames := 1, cells := 0, slots := 0, locals := 21 } : Room) (va_Pc [.ref (a), .int (x), .int (y)] (fun U => va_P (dC, dI) vwCl (xW cI cP a o f g pa tv n pd pk pv) U.heap ∧ va_K (dC, dI) vwCl [(cI, .int), (cP, .object RX4)] U ∧ xN U)) (vp_Si (fun r => r = xAs n pk x y)) 0 0 (fun _ => False) := by
  refine Met.ofW (cc := cX7_as) (maxL := 4) (ret := (some .int)) (by decide) rfl ?_
  intro p_ e_ s m args below meth c_0 s₁ B hml hv
  obtain ⟨rfl, hP, hK, hN⟩ := hv
  have hx := B.exec
  have hb := B.bytes
  have hr := B.returns
  have hts := atoms_spec (ws := wsX7_as) B.pre
  have hown : s.vm.findClass RX7 = some m.cls := findClass_of_methodNamed B.named
  have hlocks := B.notSynchronized
  have hP : va_P (dC, dI) vwCl (xW cI cP a o f g pa tv n pd pk pv) s.heap := hP
  have hl := lv_entry ([.ref (a), .int (x), .int (y)]) (n := 4) (Nat.le_of_ble_eq_true rfl)
  rw [lg_entry_eq]
  generalize (lg_sl ([.ref (a), .int (x), .int (y)]) ++ List.replicate (4 - (lg_sl ([.ref (a), .int (x), .int (y)])).length) Slot.unset).toArray = ls at hl ⊢
  have hl : lv_has ls 4 [(0, .ref (a)), (1, .int (x)), (2, .int (y))] := hl
  refine lv_aload_n hx hb dX7_as_0 rfl (lv_at hl 0 rfl) ?_
  refine lv_iload_n hx hb dX7_as_1 rfl (lv_at hl 1 rfl) ?_
  refine va_csq (va_Run.run (va_runV (As := [.int (x)]) (rest := []) ⟨hx, hb, hml, hown, hts⟩ (c7_known l dC dI cI cP a o f g pa tv n pd pk pv e7 (by omega) hpa hpk (x) ) (cwV 1 hts gX7_as_X7_known rfl rfl rfl (by decide +kernel) ⟨Nat.le_of_ble_eq_true rfl, Nat.le_of_ble_eq_true rfl⟩) ⟨fun a U g mk q => ⟨q.1, q.2.1, va_K.moved (u := U) (U := U.calling g mk a) (Vm.Alike.refl U.vm) q.2.2.1, xN.same (u := U) (U := U.calling g mk a) rfl q.2.2.2⟩, va_recv hK hP (ci := 7) (q0 := 0) rfl rfl, fun U hU hW => ⟨rfl, by rw [hU]; exact hP, va_K.moved hW.alike hK, xN.warm hW hN⟩⟩ rfl rfl hl.1 rfl (lv_room (Nat.le_of_ble_eq_true rfl)) dX7_as_2 ⟨Nat.le_of_ble_eq_true rfl, Nat.le_of_ble_eq_true rfl⟩)) (fun r hrc => ?_)
  have hrc : r = xKn n pd (x) := hrc
  subst hrc
  by_cases h_1 : 0 ≤ (x).toInt ∧ (x).toInt < (n : Int)
  · skip
    refine rf_s (xKn_s h_1) ?_
    refine lv_astore_n (lv' := [(3, .ref (pd (x.toInt.toNat))), (0, .ref (a)), (1, .int (x)), (2, .int (y))]) hx hb dX7_as_5 rfl hl (by decide) rfl (fun ls hl => ?_)
    refine lv_aload_n hx hb dX7_as_6 rfl (lv_at hl 0 rfl) ?_
    refine lv_ifnonnull (tgt := 13) hx hb dX7_as_7 (by decide) ?_
    refine lv_iload_n hx hb dX7_as_13 rfl (lv_at hl 3 rfl) ?_
    refine vp_callSi (va_Run.run (va_runS (As := [.int (y)]) (rest := []) ⟨hx, hb, hml, hown, hts⟩ (c7_isKind l (y)) (va_cwS 1 hts gX7_as_X7_isKind rfl rfl rfl (by decide +kernel) ⟨Nat.le_of_ble_eq_true rfl, Nat.le_of_ble_eq_true rfl⟩) ⟨fun _ _ _ _ q => q, fun U hU hW => ⟨rfl, trivial⟩⟩ rfl rfl hl.1 rfl (lv_room (Nat.le_of_ble_eq_true rfl)) dX7_as_14 ⟨Nat.le_of_ble_eq_true rfl, Nat.le_of_ble_eq_true rfl⟩)) (fun r hrc => ?_)
    have hrc : r = b2i (0 ≤ (y).toInt ∧ (y).toInt ≤ 4) := hrc
    subst hrc
    refine lv_if_ne (tgt := 23) hx hb dX7_as_17 (by decide) (fun c_2 => ?_) (fun c_2 => ?_)
    · skip
      have c_2 := b2i_1 c_2
      refine lv_aload_n hx hb dX7_as_23 rfl (lv_at hl 0 rfl) ?_
      refine lv_iload_n hx hb dX7_as_24 rfl (lv_at hl 3 rfl) ?_
      refine vp_callSi (va_Run.run (va_runS (As := [.ref (pd (x.toInt.toNat)), .int (y)]) (rest := []) ⟨hx, hb, hml, hown, hts⟩ (c7_isOf l dC dI [(cI, .int), (cP, .object RX4)] (xW cI cP a o f g pa tv n pd pk pv) (17 + (x.toInt.toNat)) (pd (x.toInt.toNat)) (hpk _ (by omega)) (pv (x.toInt.toNat)) (xw_p (by omega)) (y)) (va_cwS 2 hts gX7_as_X7_isOf rfl rfl rfl (by decide +kernel) ⟨Nat.le_of_ble_eq_true rfl, Nat.le_of_ble_eq_true rfl⟩) ⟨fun a U g mk q => ⟨q.1, q.2.1, va_K.moved (u := U) (U := U.calling g mk a) (Vm.Alike.refl U.vm) q.2.2.1, xN.same (u := U) (U := U.calling g mk a) rfl q.2.2.2⟩, fun U hU hW => ⟨rfl, by rw [hU]; exact hP, va_K.moved hW.alike hK, xN.warm hW hN⟩⟩ rfl rfl hl.1 rfl (lv_room (Nat.le_of_ble_eq_true rfl)) dX7_as_25 ⟨Nat.le_of_ble_eq_true rfl, Nat.le_of_ble_eq_true rfl⟩)) (fun r hrc => ?_)
      have hrc : r = xIs (pk (x.toInt.toNat)) (y) := hrc
      subst hrc
      refine lv_if_eq (tgt := 35) hx hb dX7_as_28 (by decide) (fun c_3 => ?_) (fun c_3 => ?_)
      · skip
        have c_3 : (xIs (pk (x.toInt.toNat)) (y)) = nI 0 := c_3
        refine lv_iconst (v := (-1)) hx hb dX7_as_35 (by decide +kernel) ?_
        exact W.iret (v := (-1)) hx hb hr (fun t ht hW => ⟨(-1), rfl, (by show (-1) = xAs n pk x y; first | (simp only [xAs, xOk, if_pos h_1, if_pos c_2, if_pos c_3]; done) | (simp only [xAs, xOk, if_pos h_1, if_pos c_2, if_pos c_3]; rfl) | rfl | (simp [xAs, xOk, if_pos h_1, if_pos c_2, if_pos c_3]; done)), ht⟩) (fun _ h => by cases h) dX7_as_36
      · skip
        have c_3 : ¬ (xIs (pk (x.toInt.toNat)) (y)) = nI 0 := c_3
        refine lv_iload_n hx hb dX7_as_31 rfl (lv_at hl 2 rfl) ?_
        refine lv_goto (tgt := 36) hx hb dX7_as_32 (by decide) ?_
        exact W.iret (v := x) hx hb hr (fun t ht hW => ⟨x, rfl, (by show x = xAs n pk x y; first | (simp only [xAs, xOk, if_pos h_1, if_pos c_2, if_neg c_3]; done) | (simp only [xAs, xOk, if_pos h_1, if_pos c_2, if_neg c_3]; rfl) | rfl | (simp [xAs, xOk, if_pos h_1, if_pos c_2, if_neg c_3]; done)), ht⟩) (fun _ h => by cases h) dX7_as_36
    · skip
      have c_2 := b2i_0 c_2
      refine lv_bipush (v := (-102)) hx hb dX7_as_20 (by decide +kernel) ?_
      exact W.iret (v := (-102)) hx hb hr (fun t ht hW => ⟨(-102), rfl, (by show (-102) = xAs n pk x y; first | (simp only [xAs, xOk, if_pos h_1, if_neg c_2]; done) | (simp only [xAs, xOk, if_pos h_1, if_neg c_2]; rfl) | rfl | (simp [xAs, xOk, if_pos h_1, if_neg c_2]; done)), ht⟩) (fun _ h => by cases h) dX7_as_22
  · skip
    refine rf_n (xKn_n h_1) ?_
    refine lv_astore_nN (lv' := [(3, .null), (0, .ref (a)), (1, .int (x)), (2, .int (y))]) hx hb dX7_as_5 rfl hl (by decide) rfl (fun ls hl => ?_)
    refine lv_aload_nN hx hb dX7_as_6 rfl (lv_at hl 0 rfl) ?_
    refine lv_ifnonnullN hx hb dX7_as_7 ?_
    refine lv_bipush (v := (-101)) hx hb dX7_as_10 (by decide +kernel) ?_
    exact W.iret (v := (-101)) hx hb hr (fun t ht hW => ⟨(-101), rfl, (by show (-101) = xAs n pk x y; first | (simp only [xAs, xOk, if_neg h_1]; done) | (simp only [xAs, xOk, if_neg h_1]; rfl) | rfl | (simp [xAs, xOk, if_neg h_1]; done)), ht⟩) (fun _ h => by cases h) dX7_as_12

set_option maxHeartbeats 1200000 in
set_option maxRecDepth 100000 in
theorem c7_sees (l : Launch) (dC : Nat → ClassId) (dI : Nat → Nat → Nat) (cI cP : ClassId) (a : Nat) (o : Nat → Nat) (f : Nat → Int32) (g : Nat → Nat → Int32) (pa : Nat → Option Nat) (tv : Nat → Nat → Int32) (n : Nat) (pd pk : Nat → Nat) (pv : Nat → Nat → Int32) (e7 : f 7 = nI n) (b7 : n ≤ 4) (hpa : ∀ i, i < n → pa i = some (pd i)) (hpk : ∀ i, i < n → pk i < 5) (x : Int32) (y : Int32) : Met l yX7_sees wsX7_sees ({ frames := 1, cells := 0, slots := 0, locals := 22 } : Room) (va_Pc [.ref (a), .int (x), .int (y)] (fun U => va_P (dC, dI) vwCl (xW cI cP a o f g pa tv n pd pk pv) U.heap ∧ va_K (dC, dI) vwCl [(cI, .int), (cP, .object RX4)] U ∧ xN U)) (vp_Si (fun r => r = xSees n pk pv x y)) 0 0 (fun _ => False) := by
  refine Met.ofW (cc := cX7_sees) (maxL := 4) (ret := (some .int)) (by decide) rfl ?_
  intro p_ e_ s m args below meth c_0 s₁ B hml hv
  obtain ⟨rfl, hP, hK, hN⟩ := hv
  have hx := B.exec
  have hb := B.bytes
  have hr := B.returns
  have hts := atoms_spec (ws := wsX7_sees) B.pre
  have hown : s.vm.findClass RX7 = some m.cls := findClass_of_methodNamed B.named
  have hlocks := B.notSynchronized
  have hP : va_P (dC, dI) vwCl (xW cI cP a o f g pa tv n pd pk pv) s.heap := hP
  have hl := lv_entry ([.ref (a), .int (x), .int (y)]) (n := 4) (Nat.le_of_ble_eq_true rfl)
  rw [lg_entry_eq]
  generalize (lg_sl ([.ref (a), .int (x), .int (y)]) ++ List.replicate (4 - (lg_sl ([.ref (a), .int (x), .int (y)])).length) Slot.unset).toArray = ls at hl ⊢
  have hl : lv_has ls 4 [(0, .ref (a)), (1, .int (x)), (2, .int (y))] := hl
  refine lv_aload_n hx hb dX7_sees_0 rfl (lv_at hl 0 rfl) ?_
  refine lv_iload_n hx hb dX7_sees_1 rfl (lv_at hl 1 rfl) ?_
  refine va_csq (va_Run.run (va_runV (As := [.int (x)]) (rest := []) ⟨hx, hb, hml, hown, hts⟩ (c7_known l dC dI cI cP a o f g pa tv n pd pk pv e7 (by omega) hpa hpk (x) ) (cwV 1 hts gX7_sees_X7_known rfl rfl rfl (by decide +kernel) ⟨Nat.le_of_ble_eq_true rfl, Nat.le_of_ble_eq_true rfl⟩) ⟨fun a U g mk q => ⟨q.1, q.2.1, va_K.moved (u := U) (U := U.calling g mk a) (Vm.Alike.refl U.vm) q.2.2.1, xN.same (u := U) (U := U.calling g mk a) rfl q.2.2.2⟩, va_recv hK hP (ci := 7) (q0 := 0) rfl rfl, fun U hU hW => ⟨rfl, by rw [hU]; exact hP, va_K.moved hW.alike hK, xN.warm hW hN⟩⟩ rfl rfl hl.1 rfl (lv_room (Nat.le_of_ble_eq_true rfl)) dX7_sees_2 ⟨Nat.le_of_ble_eq_true rfl, Nat.le_of_ble_eq_true rfl⟩)) (fun r hrc => ?_)
  have hrc : r = xKn n pd (x) := hrc
  subst hrc
  by_cases h_1 : 0 ≤ (x).toInt ∧ (x).toInt < (n : Int)
  · skip
    refine rf_s (xKn_s h_1) ?_
    refine lv_astore_n (lv' := [(3, .ref (pd (x.toInt.toNat))), (0, .ref (a)), (1, .int (x)), (2, .int (y))]) hx hb dX7_sees_5 rfl hl (by decide) rfl (fun ls hl => ?_)
    refine lv_aload_n hx hb dX7_sees_6 rfl (lv_at hl 0 rfl) ?_
    refine lv_ifnonnull (tgt := 13) hx hb dX7_sees_7 (by decide) ?_
    refine lv_iload_n hx hb dX7_sees_13 rfl (lv_at hl 3 rfl) ?_
    refine vp_callSi (va_Run.run (va_runS (As := [.int (y)]) (rest := []) ⟨hx, hb, hml, hown, hts⟩ (c7_isHue l (y)) (va_cwS 1 hts gX7_sees_X7_isHue rfl rfl rfl (by decide +kernel) ⟨Nat.le_of_ble_eq_true rfl, Nat.le_of_ble_eq_true rfl⟩) ⟨fun _ _ _ _ q => q, fun U hU hW => ⟨rfl, trivial⟩⟩ rfl rfl hl.1 rfl (lv_room (Nat.le_of_ble_eq_true rfl)) dX7_sees_14 ⟨Nat.le_of_ble_eq_true rfl, Nat.le_of_ble_eq_true rfl⟩)) (fun r hrc => ?_)
    have hrc : r = b2i (0 ≤ (y).toInt ∧ (y).toInt ≤ 7) := hrc
    subst hrc
    refine lv_if_ne (tgt := 23) hx hb dX7_sees_17 (by decide) (fun c_2 => ?_) (fun c_2 => ?_)
    · skip
      have c_2 := b2i_1 c_2
      refine lv_aload_n hx hb dX7_sees_23 rfl (lv_at hl 0 rfl) ?_
      refine lv_iload_n hx hb dX7_sees_24 rfl (lv_at hl 3 rfl) ?_
      refine cg_glimpse ⟨hx, hb, hml, hown, hts⟩ hts gX7_sees_X0_glimpse_u116X0 gX7_sees_X2_glimpse_u116X2 gX7_sees_X4_glimpse gX7_sees_X5_glimpse_u116X5 gX7_sees_X6_glimpse_u116X6 hK hP (17 + (x.toInt.toNat)) (hpk _ (by omega)) (xw_p (by omega)) hl.1 (Nat.le_of_ble_eq_true rfl) ⟨Nat.le_of_ble_eq_true rfl, Nat.le_of_ble_eq_true rfl⟩ ⟨Nat.le_of_ble_eq_true rfl, Nat.le_of_ble_eq_true rfl⟩ dX7_sees_25 ?_
      exact W.iret (v := see (nI (pk (x.toInt.toNat))) (pv (x.toInt.toNat) 0) (pv (x.toInt.toNat) 1) (y)) hx hb hr (fun t ht hW => ⟨see (nI (pk (x.toInt.toNat))) (pv (x.toInt.toNat) 0) (pv (x.toInt.toNat) 1) (y), rfl, (by show see (nI (pk (x.toInt.toNat))) (pv (x.toInt.toNat) 0) (pv (x.toInt.toNat) 1) (y) = xSees n pk pv x y; first | (simp only [xSees, xSee, xOk, if_pos h_1, if_pos c_2]; done) | (simp only [xSees, xSee, xOk, if_pos h_1, if_pos c_2]; rfl) | rfl | (simp [xSees, xSee, xOk, if_pos h_1, if_pos c_2]; done)), ht⟩) (fun _ h => by cases h) dX7_sees_28
    · skip
      have c_2 := b2i_0 c_2
      refine lv_bipush (v := (-102)) hx hb dX7_sees_20 (by decide +kernel) ?_
      exact W.iret (v := (-102)) hx hb hr (fun t ht hW => ⟨(-102), rfl, (by show (-102) = xSees n pk pv x y; first | (simp only [xSees, xSee, xOk, if_pos h_1, if_neg c_2]; done) | (simp only [xSees, xSee, xOk, if_pos h_1, if_neg c_2]; rfl) | rfl | (simp [xSees, xSee, xOk, if_pos h_1, if_neg c_2]; done)), ht⟩) (fun _ h => by cases h) dX7_sees_22
  · skip
    refine rf_n (xKn_n h_1) ?_
    refine lv_astore_nN (lv' := [(3, .null), (0, .ref (a)), (1, .int (x)), (2, .int (y))]) hx hb dX7_sees_5 rfl hl (by decide) rfl (fun ls hl => ?_)
    refine lv_aload_nN hx hb dX7_sees_6 rfl (lv_at hl 0 rfl) ?_
    refine lv_ifnonnullN hx hb dX7_sees_7 ?_
    refine lv_bipush (v := (-101)) hx hb dX7_sees_10 (by decide +kernel) ?_
    exact W.iret (v := (-101)) hx hb hr (fun t ht hW => ⟨(-101), rfl, (by show (-101) = xSees n pk pv x y; first | (simp only [xSees, xSee, xOk, if_neg h_1]; done) | (simp only [xSees, xSee, xOk, if_neg h_1]; rfl) | rfl | (simp [xSees, xSee, xOk, if_neg h_1]; done)), ht⟩) (fun _ h => by cases h) dX7_sees_12

set_option maxHeartbeats 1200000 in
set_option maxRecDepth 100000 in
theorem c7_inkOf (l : Launch) (dC : Nat → ClassId) (dI : Nat → Nat → Nat) (cI cP : ClassId) (a : Nat) (o : Nat → Nat) (f : Nat → Int32) (g : Nat → Nat → Int32) (pa : Nat → Option Nat) (tv : Nat → Nat → Int32) (n : Nat) (pd pk : Nat → Nat) (pv : Nat → Nat → Int32) {k8 : Nat} (e8 : f 8 = nI k8) (b8 : k8 ≤ 5) (x : Int32) : Met l yX7_inkOf wsX7_inkOf ({ frames := 1, cells := 0, slots := 0, locals := 21 } : Room) (va_Pc [.ref (a), .int (x)] (fun U => va_P (dC, dI) vwCl (xW cI cP a o f g pa tv n pd pk pv) U.heap ∧ va_K (dC, dI) vwCl [(cI, .int), (cP, .object RX4)] U ∧ xN U)) (vp_Si (fun r => r = xInkOf g k8 x)) 0 0 (fun _ => False) := by
  refine Met.ofW (cc := cX7_inkOf) (maxL := 2) (ret := (some .int)) (by decide) rfl ?_
  intro p_ e_ s m args below meth c_0 s₁ B hml hv
  obtain ⟨rfl, hP, hK, hN⟩ := hv
  have hx := B.exec
  have hb := B.bytes
  have hr := B.returns
  have hts := atoms_spec (ws := wsX7_inkOf) B.pre
  have hown : s.vm.findClass RX7 = some m.cls := findClass_of_methodNamed B.named
  have hlocks := B.notSynchronized
  have hP : va_P (dC, dI) vwCl (xW cI cP a o f g pa tv n pd pk pv) s.heap := hP
  have hl := lv_entry ([.ref (a), .int (x)]) (n := 2) (Nat.le_of_ble_eq_true rfl)
  rw [lg_entry_eq]
  generalize (lg_sl ([.ref (a), .int (x)]) ++ List.replicate (2 - (lg_sl ([.ref (a), .int (x)])).length) Slot.unset).toArray = ls at hl ⊢
  have hl : lv_has ls 2 [(0, .ref (a)), (1, .int (x))] := hl
  have hin7 : ∀ w ∈ wsX70, w ∈ wsX7_inkOf := fun _ h => List.mem_cons_of_mem _ (List.mem_append_right _ h)
  have hW0 := hts (.fieldLink RX7 22 "EachEye" "inks" "[I") (by decide +kernel)
  refine lv_aload_n hx hb dX7_inkOf_0 rfl (lv_at hl 0 rfl) ?_
  refine lv_iload_n hx hb dX7_inkOf_1 rfl (lv_at hl 1 rfl) ?_
  refine vp_callSi (va_Run.run (va_runV (As := [.int (x)]) (rest := []) ⟨hx, hb, hml, hown, hts⟩ (c7_isInk l dC dI cI cP a o f g pa tv n pd pk pv e8 (by omega) (x) ) (cwV 1 hts gX7_inkOf_X7_isInk rfl rfl rfl (by decide +kernel) ⟨Nat.le_of_ble_eq_true rfl, Nat.le_of_ble_eq_true rfl⟩) ⟨fun a U g mk q => ⟨q.1, q.2.1, va_K.moved (u := U) (U := U.calling g mk a) (Vm.Alike.refl U.vm) q.2.2.1, xN.same (u := U) (U := U.calling g mk a) rfl q.2.2.2⟩, va_recv hK hP (ci := 7) (q0 := 0) rfl rfl, fun U hU hW => ⟨rfl, by rw [hU]; exact hP, va_K.moved hW.alike hK, xN.warm hW hN⟩⟩ rfl rfl hl.1 rfl (lv_room (Nat.le_of_ble_eq_true rfl)) dX7_inkOf_2 ⟨Nat.le_of_ble_eq_true rfl, Nat.le_of_ble_eq_true rfl⟩)) (fun r hrc => ?_)
  have hrc : r = b2i (0 ≤ (x).toInt ∧ (x).toInt < (k8 : Int)) := hrc
  subst hrc
  refine lv_if_eq (tgt := 17) hx hb dX7_inkOf_5 (by decide) (fun c_1 => ?_) (fun c_1 => ?_)
  · skip
    have c_1 := b2i_0 c_1
    refine lv_bipush (v := (-101)) hx hb dX7_inkOf_17 (by decide +kernel) ?_
    exact W.iret (v := (-101)) hx hb hr (fun t ht hW => ⟨(-101), rfl, (by show (-101) = xInkOf g k8 x; first | (simp only [xInkOf, xOk, if_neg c_1]; done) | (simp only [xInkOf, xOk, if_neg c_1]; rfl) | rfl | (simp [xInkOf, xOk, if_neg c_1]; done)), ht⟩) (fun _ h => by cases h) dX7_inkOf_19
  · skip
    have c_1 := b2i_1 c_1
    refine lv_aload_n hx hb dX7_inkOf_8 rfl (lv_at hl 0 rfl) ?_
    refine va_get (D := (dC, dI)) (ci := 7) (v := .ref (o 2)) (C := RX7) (T := TX7) (N := 16) hx hb hts hin7 hown hK hP 0 rfl rfl 2 (by decide) hW0 (fun _ h9 => h9) rfl dX7_inkOf_9 ?_
    refine lv_iload_n hx hb dX7_inkOf_12 rfl (lv_at hl 1 rfl) ?_
    refine tq (ix_int (by omega)) ?_
    refine ald hx hb hK hP (f := g 1) (k := x.toInt.toNat) 4 0 rfl rfl rfl (by omega) (by decide) dX7_inkOf_13 ?_
    refine lv_goto (tgt := 19) hx hb dX7_inkOf_14 (by decide) ?_
    exact W.iret (v := g 1 (x.toInt.toNat)) hx hb hr (fun t ht hW => ⟨g 1 (x.toInt.toNat), rfl, (by show g 1 (x.toInt.toNat) = xInkOf g k8 x; first | (simp only [xInkOf, xOk, if_pos c_1]; done) | (simp only [xInkOf, xOk, if_pos c_1]; rfl) | rfl | (simp [xInkOf, xOk, if_pos c_1]; done)), ht⟩) (fun _ h => by cases h) dX7_inkOf_19

set_option maxHeartbeats 1200000 in
set_option maxRecDepth 100000 in
theorem c7_differ (l : Launch) (dC : Nat → ClassId) (dI : Nat → Nat → Nat) (cI cP : ClassId) (a : Nat) (o : Nat → Nat) (f : Nat → Int32) (g : Nat → Nat → Int32) (pa : Nat → Option Nat) (tv : Nat → Nat → Int32) (n : Nat) (pd pk : Nat → Nat) (pv : Nat → Nat → Int32) (e7 : f 7 = nI n) (b7 : n ≤ 4) (hpa : ∀ i, i < n → pa i = some (pd i)) (hpk : ∀ i, i < n → pk i < 5) (x : Int32) (y : Int32) : Met l yX7_differ wsX7_differ ({ frames := 1, cells := 0, slots := 0, locals := 22 } : Room) (va_Pc [.ref (a), .int (x), .int (y)] (fun U => va_P (dC, dI) vwCl (xW cI cP a o f g pa tv n pd pk pv) U.heap ∧ va_K (dC, dI) vwCl [(cI, .int), (cP, .object RX4)] U ∧ xN U)) (vp_Si (fun r => r = xDiffer f n pk pv x y)) 0 0 (fun _ => False) := by
  refine Met.ofW (cc := cX7_differ) (maxL := 7) (ret := (some .int)) (by decide) rfl ?_
  intro p_ e_ s m args below meth c_0 s₁ B hml hv
  obtain ⟨rfl, hP, hK, hN⟩ := hv
  have hx := B.exec
  have hb := B.bytes
  have hr := B.returns
  have hts := atoms_spec (ws := wsX7_differ) B.pre
  have hown : s.vm.findClass RX7 = some m.cls := findClass_of_methodNamed B.named
  have hlocks := B.notSynchronized
  have hP : va_P (dC, dI) vwCl (xW cI cP a o f g pa tv n pd pk pv) s.heap := hP
  have hl := lv_entry ([.ref (a), .int (x), .int (y)]) (n := 7) (Nat.le_of_ble_eq_true rfl)
  rw [lg_entry_eq]
  generalize (lg_sl ([.ref (a), .int (x), .int (y)]) ++ List.replicate (7 - (lg_sl ([.ref (a), .int (x), .int (y)])).length) Slot.unset).toArray = ls at hl ⊢
  have hl : lv_has ls 7 [(0, .ref (a)), (1, .int (x)), (2, .int (y))] := hl
  have hin7 : ∀ w ∈ wsX70, w ∈ wsX7_differ := fun _ h => List.mem_cons_of_mem _ (List.mem_append_left _ (List.mem_append_left _ (List.mem_append_left _ (List.mem_append_left _ (List.mem_append_left _ (List.mem_append_right _ h))))))
  have hW0 := hts (.fieldLink RX7 39 "EachEye" "theSign" "I") (by decide +kernel)
  refine lv_aload_n hx hb dX7_differ_0 rfl (lv_at hl 0 rfl) ?_
  refine lv_iload_n hx hb dX7_differ_1 rfl (lv_at hl 1 rfl) ?_
  refine va_csq (va_Run.run (va_runV (As := [.int (x)]) (rest := []) ⟨hx, hb, hml, hown, hts⟩ (c7_known l dC dI cI cP a o f g pa tv n pd pk pv e7 (by omega) hpa hpk (x) ) (cwV 1 hts gX7_differ_X7_known rfl rfl rfl (by decide +kernel) ⟨Nat.le_of_ble_eq_true rfl, Nat.le_of_ble_eq_true rfl⟩) ⟨fun a U g mk q => ⟨q.1, q.2.1, va_K.moved (u := U) (U := U.calling g mk a) (Vm.Alike.refl U.vm) q.2.2.1, xN.same (u := U) (U := U.calling g mk a) rfl q.2.2.2⟩, va_recv hK hP (ci := 7) (q0 := 0) rfl rfl, fun U hU hW => ⟨rfl, by rw [hU]; exact hP, va_K.moved hW.alike hK, xN.warm hW hN⟩⟩ rfl rfl hl.1 rfl (lv_room (Nat.le_of_ble_eq_true rfl)) dX7_differ_2 ⟨Nat.le_of_ble_eq_true rfl, Nat.le_of_ble_eq_true rfl⟩)) (fun r hrc => ?_)
  have hrc : r = xKn n pd (x) := hrc
  subst hrc
  by_cases h_1 : 0 ≤ (x).toInt ∧ (x).toInt < (n : Int)
  · skip
    refine rf_s (xKn_s h_1) ?_
    refine lv_astore_n (lv' := [(3, .ref (pd (x.toInt.toNat))), (0, .ref (a)), (1, .int (x)), (2, .int (y))]) hx hb dX7_differ_5 rfl hl (by decide) rfl (fun ls hl => ?_)
    refine lv_aload_n hx hb dX7_differ_6 rfl (lv_at hl 1 rfl) ?_
    refine lv_iload_n hx hb dX7_differ_7 rfl (lv_at hl 3 rfl) ?_
    refine va_csq (va_Run.run (va_runV (As := [.int (y)]) (rest := []) ⟨hx, hb, hml, hown, hts⟩ (c7_known l dC dI cI cP a o f g pa tv n pd pk pv e7 (by omega) hpa hpk (y) ) (cwV 1 hts gX7_differ_X7_known rfl rfl rfl (by decide +kernel) ⟨Nat.le_of_ble_eq_true rfl, Nat.le_of_ble_eq_true rfl⟩) ⟨fun a U g mk q => ⟨q.1, q.2.1, va_K.moved (u := U) (U := U.calling g mk a) (Vm.Alike.refl U.vm) q.2.2.1, xN.same (u := U) (U := U.calling g mk a) rfl q.2.2.2⟩, va_recv hK hP (ci := 7) (q0 := 0) rfl rfl, fun U hU hW => ⟨rfl, by rw [hU]; exact hP, va_K.moved hW.alike hK, xN.warm hW hN⟩⟩ rfl rfl hl.1 rfl (lv_room (Nat.le_of_ble_eq_true rfl)) dX7_differ_8 ⟨Nat.le_of_ble_eq_true rfl, Nat.le_of_ble_eq_true rfl⟩)) (fun r hrc => ?_)
    have hrc : r = xKn n pd (y) := hrc
    subst hrc
    by_cases h_2 : 0 ≤ (y).toInt ∧ (y).toInt < (n : Int)
    · skip
      refine rf_s (xKn_s h_2) ?_
      refine lv_astore (lv' := [(4, .ref (pd (y.toInt.toNat))), (3, .ref (pd (x.toInt.toNat))), (0, .ref (a)), (1, .int (x)), (2, .int (y))]) hx hb dX7_differ_11 hl (by decide) rfl (fun ls hl => ?_)
      refine lv_aload_n hx hb dX7_differ_13 rfl (lv_at hl 1 rfl) ?_
      refine lv_ifnull hx hb dX7_differ_14 ?_
      refine lv_aload hx hb dX7_differ_17 (lv_at hl 0 rfl) ?_
      refine lv_ifnonnull (tgt := 25) hx hb dX7_differ_19 (by decide) ?_
      refine lv_iconst (v := nI (0)) hx hb dX7_differ_25 (by decide +kernel) ?_
      refine lv_istore (lv' := [(5, .int (nI (0))), (4, .ref (pd (y.toInt.toNat))), (3, .ref (pd (x.toInt.toNat))), (0, .ref (a)), (1, .int (x)), (2, .int (y))]) hx hb dX7_differ_26 hl (by decide) rfl (fun ls hl => ?_)
      refine lp_ro (fun j : Nat => 6 - j) (fun j : Nat => j ≤ 6 ∧ ∀ i, i < j → xDfB f pk pv x.toInt.toNat y.toInt.toNat i = true) (fun j : Nat => [(0, .ref (a)), (1, .int (x)), (2, .int (y)), (3, .ref (pd (x.toInt.toNat))), (4, .ref (pd (y.toInt.toNat))), (5, .int (nI (j)))]) (0) ⟨by omega, fun j h => absurd h (Nat.not_lt_zero _)⟩ (by show lv_has ls 7 [(0, .ref (a)), (1, .int (x)), (2, .int (y)), (3, .ref (pd (x.toInt.toNat))), (4, .ref (pd (y.toInt.toNat))), (5, .int (nI (0)))]; exact lv_sub hl [3, 4, 5, 2, 1, 0] rfl) (fun j hI ih_28 ls hl => ?_)
      have hI : j ≤ 6 ∧ ∀ i, i < j → xDfB f pk pv x.toInt.toNat y.toInt.toNat i = true := hI
      have hl : lv_has ls 7 [(0, .ref (a)), (1, .int (x)), (2, .int (y)), (3, .ref (pd (x.toInt.toNat))), (4, .ref (pd (y.toInt.toNat))), (5, .int (nI (j)))] := hl
      have hI1 := hI.1
      refine lv_iload hx hb dX7_differ_28 (lv_at hl 5 rfl) ?_
      refine lv_bipush (v := nI (6)) hx hb dX7_differ_30 (by decide +kernel) ?_
      refine lv_icmp_ge (tgt := 71) hx hb dX7_differ_32 (by decide) (fun c_3 => ?_) (fun c_3 => ?_)
      · skip
        rw [nI_leI (a := 6) (b := j) (by omega) (by omega)] at c_3
        refine lv_iconst (v := (-1)) hx hb dX7_differ_71 (by decide +kernel) ?_
        exact W.iret (v := (-1)) hx hb hr (fun t ht hW => ⟨(-1), rfl, (by show (-1) = xDiffer f n pk pv x y; rw [xDiffer, if_pos h_1, if_pos h_2, xDf, fst1_no (n := 6) (fun j hj => by rw [hI.2 j (by omega)]; rfl), if_neg (by omega)]), ht⟩) (fun _ h => by cases h) dX7_differ_72
      · skip
        rw [nI_leI (a := 6) (b := j) (by omega) (by omega)] at c_3
        refine lv_aload_n hx hb dX7_differ_35 rfl (lv_at hl 0 rfl) ?_
        refine va_get (D := (dC, dI)) (ci := 7) (v := .int (f 6)) (C := RX7) (T := TX7) (N := 16) hx hb hts hin7 hown hK hP 0 rfl rfl 6 (by decide) hW0 (fun _ h9 => h9) rfl dX7_differ_36 ?_
        refine lv_iload hx hb dX7_differ_39 (lv_at hl 5 rfl) ?_
        refine vp_callSi (va_Run.run (va_runS (As := [.int (f 6), .int (nI (j))]) (rest := []) ⟨hx, hb, hml, hown, hts⟩ (c7_hueAt l (f 6) (j)) (va_cwS 2 hts gX7_differ_X7_hueAt rfl rfl rfl (by decide +kernel) ⟨Nat.le_of_ble_eq_true rfl, Nat.le_of_ble_eq_true rfl⟩) ⟨fun _ _ _ _ q => q, fun U hU hW => ⟨rfl, trivial⟩⟩ rfl rfl hl.1 rfl (lv_room (Nat.le_of_ble_eq_true rfl)) dX7_differ_41 ⟨Nat.le_of_ble_eq_true rfl, Nat.le_of_ble_eq_true rfl⟩)) (fun r hrc => ?_)
        have hrc : r = xHa (f 6) (j) := hrc
        subst hrc
        refine lv_istore (lv' := [(6, .int (xHa (f 6) (j))), (0, .ref (a)), (1, .int (x)), (2, .int (y)), (3, .ref (pd (x.toInt.toNat))), (4, .ref (pd (y.toInt.toNat))), (5, .int (nI (j)))]) hx hb dX7_differ_44 hl (by decide) rfl (fun ls hl => ?_)
        refine lv_aload_n hx hb dX7_differ_46 rfl (lv_at hl 4 rfl) ?_
        refine lv_iload hx hb dX7_differ_47 (lv_at hl 0 rfl) ?_
        refine cg_glimpse ⟨hx, hb, hml, hown, hts⟩ hts gX7_differ_X0_glimpse_u116X0 gX7_differ_X2_glimpse_u116X2 gX7_differ_X4_glimpse gX7_differ_X5_glimpse_u116X5 gX7_differ_X6_glimpse_u116X6 hK hP (17 + (x.toInt.toNat)) (hpk _ (by omega)) (xw_p (by omega)) hl.1 (Nat.le_of_ble_eq_true rfl) ⟨Nat.le_of_ble_eq_true rfl, Nat.le_of_ble_eq_true rfl⟩ ⟨Nat.le_of_ble_eq_true rfl, Nat.le_of_ble_eq_true rfl⟩ dX7_differ_49 ?_
        refine lv_aload hx hb dX7_differ_52 (lv_at hl 5 rfl) ?_
        refine lv_iload hx hb dX7_differ_54 (lv_at hl 0 rfl) ?_
        refine cg_glimpse ⟨hx, hb, hml, hown, hts⟩ hts gX7_differ_X0_glimpse_u116X0 gX7_differ_X2_glimpse_u116X2 gX7_differ_X4_glimpse gX7_differ_X5_glimpse_u116X5 gX7_differ_X6_glimpse_u116X6 hK hP (17 + (y.toInt.toNat)) (hpk _ (by omega)) (xw_p (by omega)) hl.1 (Nat.le_of_ble_eq_true rfl) ⟨Nat.le_of_ble_eq_true rfl, Nat.le_of_ble_eq_true rfl⟩ ⟨Nat.le_of_ble_eq_true rfl, Nat.le_of_ble_eq_true rfl⟩ dX7_differ_56 ?_
        refine lv_icmp_eq (tgt := 65) hx hb dX7_differ_59 (by decide) (fun c_4 => ?_) (fun c_4 => ?_)
        · skip
          refine lv_iinc (v := nI (j + 1)) (lv' := [(5, .int (nI (j + 1))), (6, .int (xHa (f 6) (j))), (0, .ref (a)), (1, .int (x)), (2, .int (y)), (3, .ref (pd (x.toInt.toNat))), (4, .ref (pd (y.toInt.toNat)))]) hx hb dX7_differ_65 hl (k := 6) rfl (nI_1 _) (by decide) rfl (fun ls hl => ?_)
          refine lv_goto (tgt := 28) hx hb dX7_differ_68 (by decide) ?_
          exact ih_28 (j + 1) ls (by show _ < _; omega) ⟨by omega, lt_s hI.2 (by rw [xDfB]; exact decide_eq_true c_4)⟩ (by show lv_has ls 7 [(0, .ref (a)), (1, .int (x)), (2, .int (y)), (3, .ref (pd (x.toInt.toNat))), (4, .ref (pd (y.toInt.toNat))), (5, .int (nI ((j + 1))))]; exact lv_sub hl [2, 3, 4, 5, 6, 0] rfl)
        · skip
          refine lv_iload hx hb dX7_differ_62 (lv_at hl 6 rfl) ?_
          exact W.iret (v := nI (j)) hx hb hr (fun t ht hW => ⟨nI (j), rfl, (by show nI (j) = xDiffer f n pk pv x y; rw [xDiffer, if_pos h_1, if_pos h_2, xDf, fst1_at (k := j) (n := 6) (by omega) (fun i hi => by rw [hI.2 i hi]; rfl) (by have h9 : xDfB f pk pv x.toInt.toNat y.toInt.toNat j = false := decide_eq_false c_4; rw [h9]; rfl), if_pos (by omega)]), ht⟩) (fun _ h => by cases h) dX7_differ_64
    · skip
      refine rf_n (xKn_n h_2) ?_
      refine lv_astoreN (lv' := [(4, .null), (3, .ref (pd (x.toInt.toNat))), (0, .ref (a)), (1, .int (x)), (2, .int (y))]) hx hb dX7_differ_11 hl (by decide) rfl (fun ls hl => ?_)
      refine lv_aload_n hx hb dX7_differ_13 rfl (lv_at hl 1 rfl) ?_
      refine lv_ifnull hx hb dX7_differ_14 ?_
      refine lv_aloadN hx hb dX7_differ_17 (lv_at hl 0 rfl) ?_
      refine lv_ifnonnullN hx hb dX7_differ_19 ?_
      refine lv_bipush (v := (-101)) hx hb dX7_differ_22 (by decide +kernel) ?_
      exact W.iret (v := (-101)) hx hb hr (fun t ht hW => ⟨(-101), rfl, (by show (-101) = xDiffer f n pk pv x y; first | (simp only [xDiffer, xOk, if_pos h_1, if_neg h_2]; done) | (simp only [xDiffer, xOk, if_pos h_1, if_neg h_2]; rfl) | rfl | (simp [xDiffer, xOk, if_pos h_1, if_neg h_2]; done)), ht⟩) (fun _ h => by cases h) dX7_differ_24
  · skip
    refine rf_n (xKn_n h_1) ?_
    refine lv_astore_nN (lv' := [(3, .null), (0, .ref (a)), (1, .int (x)), (2, .int (y))]) hx hb dX7_differ_5 rfl hl (by decide) rfl (fun ls hl => ?_)
    refine lv_aload_n hx hb dX7_differ_6 rfl (lv_at hl 1 rfl) ?_
    refine lv_iload_n hx hb dX7_differ_7 rfl (lv_at hl 3 rfl) ?_
    refine va_csq (va_Run.run (va_runV (As := [.int (y)]) (rest := []) ⟨hx, hb, hml, hown, hts⟩ (c7_known l dC dI cI cP a o f g pa tv n pd pk pv e7 (by omega) hpa hpk (y) ) (cwV 1 hts gX7_differ_X7_known rfl rfl rfl (by decide +kernel) ⟨Nat.le_of_ble_eq_true rfl, Nat.le_of_ble_eq_true rfl⟩) ⟨fun a U g mk q => ⟨q.1, q.2.1, va_K.moved (u := U) (U := U.calling g mk a) (Vm.Alike.refl U.vm) q.2.2.1, xN.same (u := U) (U := U.calling g mk a) rfl q.2.2.2⟩, va_recv hK hP (ci := 7) (q0 := 0) rfl rfl, fun U hU hW => ⟨rfl, by rw [hU]; exact hP, va_K.moved hW.alike hK, xN.warm hW hN⟩⟩ rfl rfl hl.1 rfl (lv_room (Nat.le_of_ble_eq_true rfl)) dX7_differ_8 ⟨Nat.le_of_ble_eq_true rfl, Nat.le_of_ble_eq_true rfl⟩)) (fun r hrc => ?_)
    have hrc : r = xKn n pd (y) := hrc
    subst hrc
    by_cases h_5 : 0 ≤ (y).toInt ∧ (y).toInt < (n : Int)
    · skip
      refine rf_s (xKn_s h_5) ?_
      refine lv_astore (lv' := [(4, .ref (pd (y.toInt.toNat))), (3, .null), (0, .ref (a)), (1, .int (x)), (2, .int (y))]) hx hb dX7_differ_11 hl (by decide) rfl (fun ls hl => ?_)
      refine lv_aload_nN hx hb dX7_differ_13 rfl (lv_at hl 1 rfl) ?_
      refine lv_ifnullN (tgt := 22) hx hb dX7_differ_14 (by decide) ?_
      refine lv_bipush (v := (-101)) hx hb dX7_differ_22 (by decide +kernel) ?_
      exact W.iret (v := (-101)) hx hb hr (fun t ht hW => ⟨(-101), rfl, (by show (-101) = xDiffer f n pk pv x y; first | (simp only [xDiffer, xOk, if_neg h_1, if_pos h_5]; done) | (simp only [xDiffer, xOk, if_neg h_1, if_pos h_5]; rfl) | rfl | (simp [xDiffer, xOk, if_neg h_1, if_pos h_5]; done)), ht⟩) (fun _ h => by cases h) dX7_differ_24
    · skip
      refine rf_n (xKn_n h_5) ?_
      refine lv_astoreN (lv' := [(4, .null), (3, .null), (0, .ref (a)), (1, .int (x)), (2, .int (y))]) hx hb dX7_differ_11 hl (by decide) rfl (fun ls hl => ?_)
      refine lv_aload_nN hx hb dX7_differ_13 rfl (lv_at hl 1 rfl) ?_
      refine lv_ifnullN (tgt := 22) hx hb dX7_differ_14 (by decide) ?_
      refine lv_bipush (v := (-101)) hx hb dX7_differ_22 (by decide +kernel) ?_
      exact W.iret (v := (-101)) hx hb hr (fun t ht hW => ⟨(-101), rfl, (by show (-101) = xDiffer f n pk pv x y; first | (simp only [xDiffer, xOk, if_neg h_1, if_neg h_5]; done) | (simp only [xDiffer, xOk, if_neg h_1, if_neg h_5]; rfl) | rfl | (simp [xDiffer, xOk, if_neg h_1, if_neg h_5]; done)), ht⟩) (fun _ h => by cases h) dX7_differ_24

set_option maxHeartbeats 1200000 in
set_option maxRecDepth 100000 in
theorem c7_alike (l : Launch) (dC : Nat → ClassId) (dI : Nat → Nat → Nat) (cI cP : ClassId) (a : Nat) (o : Nat → Nat) (f : Nat → Int32) (g : Nat → Nat → Int32) (pa : Nat → Option Nat) (tv : Nat → Nat → Int32) (n : Nat) (pd pk : Nat → Nat) (pv : Nat → Nat → Int32) (e7 : f 7 = nI n) (b7 : n ≤ 4) (hpa : ∀ i, i < n → pa i = some (pd i)) (hpk : ∀ i, i < n → pk i < 5) (x : Int32) (y : Int32) : Met l yX7_alike wsX7_alike ({ frames := 1, cells := 0, slots := 0, locals := 22 } : Room) (va_Pc [.ref (a), .int (x), .int (y)] (fun U => va_P (dC, dI) vwCl (xW cI cP a o f g pa tv n pd pk pv) U.heap ∧ va_K (dC, dI) vwCl [(cI, .int), (cP, .object RX4)] U ∧ xN U)) (vp_Si (fun r => r = xAlike n pk pv x y)) 0 0 (fun _ => False) := by
  refine Met.ofW (cc := cX7_alike) (maxL := 7) (ret := (some .int)) (by decide) rfl ?_
  intro p_ e_ s m args below meth c_0 s₁ B hml hv
  obtain ⟨rfl, hP, hK, hN⟩ := hv
  have hx := B.exec
  have hb := B.bytes
  have hr := B.returns
  have hts := atoms_spec (ws := wsX7_alike) B.pre
  have hown : s.vm.findClass RX7 = some m.cls := findClass_of_methodNamed B.named
  have hlocks := B.notSynchronized
  have hP : va_P (dC, dI) vwCl (xW cI cP a o f g pa tv n pd pk pv) s.heap := hP
  have hl := lv_entry ([.ref (a), .int (x), .int (y)]) (n := 7) (Nat.le_of_ble_eq_true rfl)
  rw [lg_entry_eq]
  generalize (lg_sl ([.ref (a), .int (x), .int (y)]) ++ List.replicate (7 - (lg_sl ([.ref (a), .int (x), .int (y)])).length) Slot.unset).toArray = ls at hl ⊢
  have hl : lv_has ls 7 [(0, .ref (a)), (1, .int (x)), (2, .int (y))] := hl
  refine lv_aload_n hx hb dX7_alike_0 rfl (lv_at hl 0 rfl) ?_
  refine lv_iload_n hx hb dX7_alike_1 rfl (lv_at hl 1 rfl) ?_
  refine va_csq (va_Run.run (va_runV (As := [.int (x)]) (rest := []) ⟨hx, hb, hml, hown, hts⟩ (c7_known l dC dI cI cP a o f g pa tv n pd pk pv e7 (by omega) hpa hpk (x) ) (cwV 1 hts gX7_alike_X7_known rfl rfl rfl (by decide +kernel) ⟨Nat.le_of_ble_eq_true rfl, Nat.le_of_ble_eq_true rfl⟩) ⟨fun a U g mk q => ⟨q.1, q.2.1, va_K.moved (u := U) (U := U.calling g mk a) (Vm.Alike.refl U.vm) q.2.2.1, xN.same (u := U) (U := U.calling g mk a) rfl q.2.2.2⟩, va_recv hK hP (ci := 7) (q0 := 0) rfl rfl, fun U hU hW => ⟨rfl, by rw [hU]; exact hP, va_K.moved hW.alike hK, xN.warm hW hN⟩⟩ rfl rfl hl.1 rfl (lv_room (Nat.le_of_ble_eq_true rfl)) dX7_alike_2 ⟨Nat.le_of_ble_eq_true rfl, Nat.le_of_ble_eq_true rfl⟩)) (fun r hrc => ?_)
  have hrc : r = xKn n pd (x) := hrc
  subst hrc
  by_cases h_1 : 0 ≤ (x).toInt ∧ (x).toInt < (n : Int)
  · skip
    refine rf_s (xKn_s h_1) ?_
    refine lv_astore_n (lv' := [(3, .ref (pd (x.toInt.toNat))), (0, .ref (a)), (1, .int (x)), (2, .int (y))]) hx hb dX7_alike_5 rfl hl (by decide) rfl (fun ls hl => ?_)
    refine lv_aload_n hx hb dX7_alike_6 rfl (lv_at hl 1 rfl) ?_
    refine lv_iload_n hx hb dX7_alike_7 rfl (lv_at hl 3 rfl) ?_
    refine va_csq (va_Run.run (va_runV (As := [.int (y)]) (rest := []) ⟨hx, hb, hml, hown, hts⟩ (c7_known l dC dI cI cP a o f g pa tv n pd pk pv e7 (by omega) hpa hpk (y) ) (cwV 1 hts gX7_alike_X7_known rfl rfl rfl (by decide +kernel) ⟨Nat.le_of_ble_eq_true rfl, Nat.le_of_ble_eq_true rfl⟩) ⟨fun a U g mk q => ⟨q.1, q.2.1, va_K.moved (u := U) (U := U.calling g mk a) (Vm.Alike.refl U.vm) q.2.2.1, xN.same (u := U) (U := U.calling g mk a) rfl q.2.2.2⟩, va_recv hK hP (ci := 7) (q0 := 0) rfl rfl, fun U hU hW => ⟨rfl, by rw [hU]; exact hP, va_K.moved hW.alike hK, xN.warm hW hN⟩⟩ rfl rfl hl.1 rfl (lv_room (Nat.le_of_ble_eq_true rfl)) dX7_alike_8 ⟨Nat.le_of_ble_eq_true rfl, Nat.le_of_ble_eq_true rfl⟩)) (fun r hrc => ?_)
    have hrc : r = xKn n pd (y) := hrc
    subst hrc
    by_cases h_2 : 0 ≤ (y).toInt ∧ (y).toInt < (n : Int)
    · skip
      refine rf_s (xKn_s h_2) ?_
      refine lv_astore (lv' := [(4, .ref (pd (y.toInt.toNat))), (3, .ref (pd (x.toInt.toNat))), (0, .ref (a)), (1, .int (x)), (2, .int (y))]) hx hb dX7_alike_11 hl (by decide) rfl (fun ls hl => ?_)
      refine lv_aload_n hx hb dX7_alike_13 rfl (lv_at hl 1 rfl) ?_
      refine lv_ifnull hx hb dX7_alike_14 ?_
      refine lv_aload hx hb dX7_alike_17 (lv_at hl 0 rfl) ?_
      refine lv_ifnonnull (tgt := 25) hx hb dX7_alike_19 (by decide) ?_
      refine lv_iconst (v := nI (0)) hx hb dX7_alike_25 (by decide +kernel) ?_
      refine lv_istore (lv' := [(5, .int (nI (0))), (4, .ref (pd (y.toInt.toNat))), (3, .ref (pd (x.toInt.toNat))), (0, .ref (a)), (1, .int (x)), (2, .int (y))]) hx hb dX7_alike_26 hl (by decide) rfl (fun ls hl => ?_)
      refine lv_iconst (v := nI (0)) hx hb dX7_alike_28 (by decide +kernel) ?_
      refine lv_istore (lv' := [(6, .int (nI (0))), (5, .int (nI (0))), (4, .ref (pd (y.toInt.toNat))), (3, .ref (pd (x.toInt.toNat))), (0, .ref (a)), (1, .int (x)), (2, .int (y))]) hx hb dX7_alike_29 hl (by decide) rfl (fun ls hl => ?_)
      have e0_5 : (nI (0)) = sm (fun q9 => b2i (xSee pk pv x.toInt.toNat (nI q9) = xSee pk pv y.toInt.toNat (nI q9))) 0 := rfl
      refine lp_ro (fun j : Nat => 8 - j) (fun j : Nat => j ≤ 8) (fun j : Nat => [(0, .ref (a)), (1, .int (x)), (2, .int (y)), (3, .ref (pd (x.toInt.toNat))), (4, .ref (pd (y.toInt.toNat))), (5, .int (sm (fun q9 => b2i (xSee pk pv x.toInt.toNat (nI q9) = xSee pk pv y.toInt.toNat (nI q9))) j)), (6, .int (nI (j)))]) (0) (by omega) (by show lv_has ls 7 [(0, .ref (a)), (1, .int (x)), (2, .int (y)), (3, .ref (pd (x.toInt.toNat))), (4, .ref (pd (y.toInt.toNat))), (5, .int (sm (fun q9 => b2i (xSee pk pv x.toInt.toNat (nI q9) = xSee pk pv y.toInt.toNat (nI q9))) 0)), (6, .int (nI (0)))]; rw [← e0_5]; exact lv_sub hl [4, 5, 6, 3, 2, 1, 0] rfl) (fun j hI ih_31 ls hl => ?_)
      have hI : j ≤ 8 := hI
      have hl : lv_has ls 7 [(0, .ref (a)), (1, .int (x)), (2, .int (y)), (3, .ref (pd (x.toInt.toNat))), (4, .ref (pd (y.toInt.toNat))), (5, .int (sm (fun q9 => b2i (xSee pk pv x.toInt.toNat (nI q9) = xSee pk pv y.toInt.toNat (nI q9))) j)), (6, .int (nI (j)))] := hl
      refine lv_iload hx hb dX7_alike_31 (lv_at hl 6 rfl) ?_
      refine lv_bipush (v := nI (8)) hx hb dX7_alike_33 (by decide +kernel) ?_
      refine lv_icmp_ge (tgt := 63) hx hb dX7_alike_35 (by decide) (fun c_3 => ?_) (fun c_3 => ?_)
      · skip
        rw [nI_leI (a := 8) (b := j) (by omega) (by omega)] at c_3
        have hE : 8 = j := by omega
        subst hE
        refine lv_iload hx hb dX7_alike_63 (lv_at hl 5 rfl) ?_
        exact W.iret (v := sm (fun q9 => b2i (xSee pk pv x.toInt.toNat (nI q9) = xSee pk pv y.toInt.toNat (nI q9))) 8) hx hb hr (fun t ht hW => ⟨sm (fun q9 => b2i (xSee pk pv x.toInt.toNat (nI q9) = xSee pk pv y.toInt.toNat (nI q9))) 8, rfl, (by show sm (fun q9 => b2i (xSee pk pv x.toInt.toNat (nI q9) = xSee pk pv y.toInt.toNat (nI q9))) 8 = xAlike n pk pv x y; first | (simp only [xAlike, xAl, xOk, if_pos h_1, if_pos h_2, if_pos c_3]; done) | (simp only [xAlike, xAl, xOk, if_pos h_1, if_pos h_2, if_pos c_3]; rfl) | rfl | (simp [xAlike, xAl, xOk, if_pos h_1, if_pos h_2, if_pos c_3]; done)), ht⟩) (fun _ h => by cases h) dX7_alike_65
      · skip
        rw [nI_leI (a := 8) (b := j) (by omega) (by omega)] at c_3
        refine lv_aload_n hx hb dX7_alike_38 rfl (lv_at hl 3 rfl) ?_
        refine lv_iload hx hb dX7_alike_39 (lv_at hl 6 rfl) ?_
        refine cg_glimpse ⟨hx, hb, hml, hown, hts⟩ hts gX7_alike_X0_glimpse_u116X0 gX7_alike_X2_glimpse_u116X2 gX7_alike_X4_glimpse gX7_alike_X5_glimpse_u116X5 gX7_alike_X6_glimpse_u116X6 hK hP (17 + (x.toInt.toNat)) (hpk _ (by omega)) (xw_p (by omega)) hl.1 (Nat.le_of_ble_eq_true rfl) ⟨Nat.le_of_ble_eq_true rfl, Nat.le_of_ble_eq_true rfl⟩ ⟨Nat.le_of_ble_eq_true rfl, Nat.le_of_ble_eq_true rfl⟩ dX7_alike_41 ?_
        refine lv_aload hx hb dX7_alike_44 (lv_at hl 4 rfl) ?_
        refine lv_iload hx hb dX7_alike_46 (lv_at hl 6 rfl) ?_
        refine cg_glimpse ⟨hx, hb, hml, hown, hts⟩ hts gX7_alike_X0_glimpse_u116X0 gX7_alike_X2_glimpse_u116X2 gX7_alike_X4_glimpse gX7_alike_X5_glimpse_u116X5 gX7_alike_X6_glimpse_u116X6 hK hP (17 + (y.toInt.toNat)) (hpk _ (by omega)) (xw_p (by omega)) hl.1 (Nat.le_of_ble_eq_true rfl) ⟨Nat.le_of_ble_eq_true rfl, Nat.le_of_ble_eq_true rfl⟩ ⟨Nat.le_of_ble_eq_true rfl, Nat.le_of_ble_eq_true rfl⟩ dX7_alike_48 ?_
        refine lv_icmp_ne (tgt := 57) hx hb dX7_alike_51 (by decide) (fun c_4 => ?_) (fun c_4 => ?_)
        · skip
          refine lv_iinc (v := nI (j + 1)) (lv' := [(6, .int (nI (j + 1))), (0, .ref (a)), (1, .int (x)), (2, .int (y)), (3, .ref (pd (x.toInt.toNat))), (4, .ref (pd (y.toInt.toNat))), (5, .int (sm (fun q9 => b2i (xSee pk pv x.toInt.toNat (nI q9) = xSee pk pv y.toInt.toNat (nI q9))) j))]) hx hb dX7_alike_57 hl (k := 6) rfl (nI_1 _) (by decide) rfl (fun ls hl => ?_)
          refine lv_goto (tgt := 31) hx hb dX7_alike_60 (by decide) ?_
          have e1_5 : (sm (fun q9 => b2i (xSee pk pv x.toInt.toNat (nI q9) = xSee pk pv y.toInt.toNat (nI q9))) j) = sm (fun q9 => b2i (xSee pk pv x.toInt.toNat (nI q9) = xSee pk pv y.toInt.toNat (nI q9))) (j + 1) := by show _ = sm _ j + b2i _; rw [b2i, if_neg (show ¬ xSee pk pv x.toInt.toNat (nI j) = xSee pk pv y.toInt.toNat (nI j) from c_4), Int32.add_zero]
          exact ih_31 (j + 1) ls (by show _ < _; omega) (by show _; omega) (by show lv_has ls 7 [(0, .ref (a)), (1, .int (x)), (2, .int (y)), (3, .ref (pd (x.toInt.toNat))), (4, .ref (pd (y.toInt.toNat))), (5, .int (sm (fun q9 => b2i (xSee pk pv x.toInt.toNat (nI q9) = xSee pk pv y.toInt.toNat (nI q9))) (j + 1))), (6, .int (nI ((j + 1))))]; rw [← e1_5]; exact lv_sub hl [1, 2, 3, 4, 5, 6, 0] rfl)
        · skip
          refine lv_iinc (v := sm (fun q9 => b2i (xSee pk pv x.toInt.toNat (nI q9) = xSee pk pv y.toInt.toNat (nI q9))) j + 1) (lv' := [(5, .int (sm (fun q9 => b2i (xSee pk pv x.toInt.toNat (nI q9) = xSee pk pv y.toInt.toNat (nI q9))) j + 1)), (0, .ref (a)), (1, .int (x)), (2, .int (y)), (3, .ref (pd (x.toInt.toNat))), (4, .ref (pd (y.toInt.toNat))), (6, .int (nI (j)))]) hx hb dX7_alike_54 hl (k := 5) rfl rfl (by decide) rfl (fun ls hl => ?_)
          refine lv_iinc (v := nI (j + 1)) (lv' := [(6, .int (nI (j + 1))), (5, .int (sm (fun q9 => b2i (xSee pk pv x.toInt.toNat (nI q9) = xSee pk pv y.toInt.toNat (nI q9))) j + 1)), (0, .ref (a)), (1, .int (x)), (2, .int (y)), (3, .ref (pd (x.toInt.toNat))), (4, .ref (pd (y.toInt.toNat)))]) hx hb dX7_alike_57 hl (k := 6) rfl (nI_1 _) (by decide) rfl (fun ls hl => ?_)
          refine lv_goto (tgt := 31) hx hb dX7_alike_60 (by decide) ?_
          have e1_5 : (sm (fun q9 => b2i (xSee pk pv x.toInt.toNat (nI q9) = xSee pk pv y.toInt.toNat (nI q9))) j + 1) = sm (fun q9 => b2i (xSee pk pv x.toInt.toNat (nI q9) = xSee pk pv y.toInt.toNat (nI q9))) (j + 1) := by show _ = sm _ j + b2i _; rw [b2i, if_pos (show xSee pk pv x.toInt.toNat (nI j) = xSee pk pv y.toInt.toNat (nI j) from c_4)]
          exact ih_31 (j + 1) ls (by show _ < _; omega) (by show _; omega) (by show lv_has ls 7 [(0, .ref (a)), (1, .int (x)), (2, .int (y)), (3, .ref (pd (x.toInt.toNat))), (4, .ref (pd (y.toInt.toNat))), (5, .int (sm (fun q9 => b2i (xSee pk pv x.toInt.toNat (nI q9) = xSee pk pv y.toInt.toNat (nI q9))) (j + 1))), (6, .int (nI ((j + 1))))]; rw [← e1_5]; exact lv_sub hl [2, 3, 4, 5, 6, 1, 0] rfl)
    · skip
      refine rf_n (xKn_n h_2) ?_
      refine lv_astoreN (lv' := [(4, .null), (3, .ref (pd (x.toInt.toNat))), (0, .ref (a)), (1, .int (x)), (2, .int (y))]) hx hb dX7_alike_11 hl (by decide) rfl (fun ls hl => ?_)
      refine lv_aload_n hx hb dX7_alike_13 rfl (lv_at hl 1 rfl) ?_
      refine lv_ifnull hx hb dX7_alike_14 ?_
      refine lv_aloadN hx hb dX7_alike_17 (lv_at hl 0 rfl) ?_
      refine lv_ifnonnullN hx hb dX7_alike_19 ?_
      refine lv_bipush (v := (-101)) hx hb dX7_alike_22 (by decide +kernel) ?_
      exact W.iret (v := (-101)) hx hb hr (fun t ht hW => ⟨(-101), rfl, (by show (-101) = xAlike n pk pv x y; first | (simp only [xAlike, xAl, xOk, if_pos h_1, if_neg h_2]; done) | (simp only [xAlike, xAl, xOk, if_pos h_1, if_neg h_2]; rfl) | rfl | (simp [xAlike, xAl, xOk, if_pos h_1, if_neg h_2]; done)), ht⟩) (fun _ h => by cases h) dX7_alike_24
  · skip
    refine rf_n (xKn_n h_1) ?_
    refine lv_astore_nN (lv' := [(3, .null), (0, .ref (a)), (1, .int (x)), (2, .int (y))]) hx hb dX7_alike_5 rfl hl (by decide) rfl (fun ls hl => ?_)
    refine lv_aload_n hx hb dX7_alike_6 rfl (lv_at hl 1 rfl) ?_
    refine lv_iload_n hx hb dX7_alike_7 rfl (lv_at hl 3 rfl) ?_
    refine va_csq (va_Run.run (va_runV (As := [.int (y)]) (rest := []) ⟨hx, hb, hml, hown, hts⟩ (c7_known l dC dI cI cP a o f g pa tv n pd pk pv e7 (by omega) hpa hpk (y) ) (cwV 1 hts gX7_alike_X7_known rfl rfl rfl (by decide +kernel) ⟨Nat.le_of_ble_eq_true rfl, Nat.le_of_ble_eq_true rfl⟩) ⟨fun a U g mk q => ⟨q.1, q.2.1, va_K.moved (u := U) (U := U.calling g mk a) (Vm.Alike.refl U.vm) q.2.2.1, xN.same (u := U) (U := U.calling g mk a) rfl q.2.2.2⟩, va_recv hK hP (ci := 7) (q0 := 0) rfl rfl, fun U hU hW => ⟨rfl, by rw [hU]; exact hP, va_K.moved hW.alike hK, xN.warm hW hN⟩⟩ rfl rfl hl.1 rfl (lv_room (Nat.le_of_ble_eq_true rfl)) dX7_alike_8 ⟨Nat.le_of_ble_eq_true rfl, Nat.le_of_ble_eq_true rfl⟩)) (fun r hrc => ?_)
    have hrc : r = xKn n pd (y) := hrc
    subst hrc
    by_cases h_5 : 0 ≤ (y).toInt ∧ (y).toInt < (n : Int)
    · skip
      refine rf_s (xKn_s h_5) ?_
      refine lv_astore (lv' := [(4, .ref (pd (y.toInt.toNat))), (3, .null), (0, .ref (a)), (1, .int (x)), (2, .int (y))]) hx hb dX7_alike_11 hl (by decide) rfl (fun ls hl => ?_)
      refine lv_aload_nN hx hb dX7_alike_13 rfl (lv_at hl 1 rfl) ?_
      refine lv_ifnullN (tgt := 22) hx hb dX7_alike_14 (by decide) ?_
      refine lv_bipush (v := (-101)) hx hb dX7_alike_22 (by decide +kernel) ?_
      exact W.iret (v := (-101)) hx hb hr (fun t ht hW => ⟨(-101), rfl, (by show (-101) = xAlike n pk pv x y; first | (simp only [xAlike, xAl, xOk, if_neg h_1, if_pos h_5]; done) | (simp only [xAlike, xAl, xOk, if_neg h_1, if_pos h_5]; rfl) | rfl | (simp [xAlike, xAl, xOk, if_neg h_1, if_pos h_5]; done)), ht⟩) (fun _ h => by cases h) dX7_alike_24
    · skip
      refine rf_n (xKn_n h_5) ?_
      refine lv_astoreN (lv' := [(4, .null), (3, .null), (0, .ref (a)), (1, .int (x)), (2, .int (y))]) hx hb dX7_alike_11 hl (by decide) rfl (fun ls hl => ?_)
      refine lv_aload_nN hx hb dX7_alike_13 rfl (lv_at hl 1 rfl) ?_
      refine lv_ifnullN (tgt := 22) hx hb dX7_alike_14 (by decide) ?_
      refine lv_bipush (v := (-101)) hx hb dX7_alike_22 (by decide +kernel) ?_
      exact W.iret (v := (-101)) hx hb hr (fun t ht hW => ⟨(-101), rfl, (by show (-101) = xAlike n pk pv x y; first | (simp only [xAlike, xAl, xOk, if_neg h_1, if_neg h_5]; done) | (simp only [xAlike, xAl, xOk, if_neg h_1, if_neg h_5]; rfl) | rfl | (simp [xAlike, xAl, xOk, if_neg h_1, if_neg h_5]; done)), ht⟩) (fun _ h => by cases h) dX7_alike_24

set_option maxHeartbeats 1200000 in
set_option maxRecDepth 100000 in
theorem c7_letter (l : Launch) (dC : Nat → ClassId) (dI : Nat → Nat → Nat) (cI cP : ClassId) (a : Nat) (o : Nat → Nat) (f : Nat → Int32) (g : Nat → Nat → Int32) (pa : Nat → Option Nat) (tv : Nat → Nat → Int32) (n : Nat) (pd pk : Nat → Nat) (pv : Nat → Nat → Int32) (sz : Nat) {k16 : Nat} (e16 : f 16 = nI k16) (b16 : k16 ≤ 10) (x : Int32) : Met l yX7_letter wsX7_letter ({ frames := 1, cells := 0, slots := 0, locals := 21 } : Room) (va_Pc [.ref (a), .int (x)] (fun U => U.heap.size = sz ∧ va_P (dC, dI) vwCl (xW cI cP a o f g pa tv n pd pk pv) U.heap ∧ va_K (dC, dI) vwCl [(cI, .int), (cP, .object RX4)] U ∧ xN U ∧ va_D (fun _ => True) (xW cI cP a o f g pa tv n pd pk pv))) (va_Qi (fun (r : Int32) (u : XSt) => (r, u) = xp3 (xLetter f g k16 x) pa tv n pd pk pv) (xB dC dI cI cP a o (va_A (xW cI cP a o f g pa tv n pd pk pv) sz)) (va_A (xW cI cP a o f g pa tv n pd pk pv) sz)) 0 0 (va_A (xW cI cP a o f g pa tv n pd pk pv) sz) := by
  refine Met.ofW (cc := cX7_letter) (maxL := 2) (ret := (some .int)) (by decide) rfl ?_
  intro p_ e_ s m args below meth c_0 s₁ B hml hv
  obtain ⟨rfl, hsz, hP, hK, hN, hD0⟩ := hv
  have hx := B.exec
  have hb := B.bytes
  have hr := B.returns
  have hts := atoms_spec (ws := wsX7_letter) B.pre
  have hown : s.vm.findClass RX7 = some m.cls := findClass_of_methodNamed B.named
  have hlocks := B.notSynchronized
  subst hsz
  have hD := hD0.self (sz := s.heap.size)
  generalize hAe : va_A (xW cI cP a o f g pa tv n pd pk pv) s.heap.size = A at hD ⊢
  have hA : ∀ q : Nat, s.heap.size ≤ q → A q := fun q h => by rw [← hAe]; exact Or.inr h
  obtain ⟨H, hHe⟩ : ∃ H : Heap, H = s.heap := ⟨_, rfl⟩
  have hS : va_S A s.heap H [] := by rw [hHe]; exact va_S.rf
  rw [← hHe] at hP ⊢
  have hP : va_P (dC, dI) vwCl (xW cI cP a o f g pa tv n pd pk pv) H := hP
  have hl := lv_entry ([.ref (a), .int (x)]) (n := 2) (Nat.le_of_ble_eq_true rfl)
  rw [lg_entry_eq]
  generalize (lg_sl ([.ref (a), .int (x)]) ++ List.replicate (2 - (lg_sl ([.ref (a), .int (x)])).length) Slot.unset).toArray = ls at hl ⊢
  have hl : lv_has ls 2 [(0, .ref (a)), (1, .int (x))] := hl
  have hin3 : ∀ w ∈ wsX30, w ∈ wsX7_letter := fun _ h => List.mem_cons_of_mem _ (List.mem_append_right _ h)
  have hin7 : ∀ w ∈ wsX70, w ∈ wsX7_letter := fun _ h => List.mem_cons_of_mem _ (List.mem_append_left _ (List.mem_append_right _ h))
  have hW0 := hts (.fieldLink RX7 12 "EachEye" "page" "LEachEye$Page;") (by decide +kernel)
  refine lv_iload_n hx hb dX7_letter_0 rfl (lv_at hl 1 rfl) ?_
  refine lv_iconst (v := nI (1)) hx hb dX7_letter_1 (by decide +kernel) ?_
  refine lv_icmp_lt (tgt := 11) hx hb dX7_letter_2 (by decide) (fun c_1 => ?_) (fun c_1 => ?_)
  · skip
    rw [lti, tn (n := 1) (by omega)] at c_1
    refine lv_bipush (v := (-102)) hx hb dX7_letter_11 (by decide +kernel) ?_
    have hP9 : va_P (dC, dI) vwCl (xW cI cP a o f g pa tv n pd pk pv) H := hP
    exact W.iret (v := (-102)) hx hb hr (fun t ht hW => ⟨⟨(-102), (f, g, pa, tv, n, pd, pk, pv), rfl, (by show (((-102), (f, g, pa, tv, n, pd, pk, pv)) : _ × XSt) = xp3 (xLetter f g k16 x) pa tv n pd pk pv; first | (simp only [xp3, xLetter, if_pos c_1]; done) | (simp only [xp3, xLetter, if_pos c_1]; rfl) | rfl | (simp [xp3, xLetter, if_pos c_1]; done)), by rw [ht]; exact hP9, va_K.moved hW.alike hK, hD⟩, hS.F ht⟩) hS.2.2 dX7_letter_13
  · skip
    rw [lti, tn (n := 1) (by omega)] at c_1
    refine lv_iload_n hx hb dX7_letter_5 rfl (lv_at hl 1 rfl) ?_
    refine lv_bipush (v := nI (126)) hx hb dX7_letter_6 (by decide +kernel) ?_
    refine lv_icmp_le (tgt := 14) hx hb dX7_letter_8 (by decide) (fun c_2 => ?_) (fun c_2 => ?_)
    · skip
      rw [lei, tn (n := 126) (by omega)] at c_2
      refine lv_aload_n hx hb dX7_letter_14 rfl (lv_at hl 0 rfl) ?_
      refine va_get (D := (dC, dI)) (ci := 7) (v := .ref (o 0)) (C := RX7) (T := TX7) (N := 16) hx hb hts hin7 hown hK hP 0 rfl rfl 0 (by decide) hW0 (fun _ h9 => h9) rfl dX7_letter_15 ?_
      refine va_getN (D := (dC, dI)) (ci := 3) (v := .int (nI (k16))) (C := RX3) (T := TX3) (N := 2) hx hb hts hin3 hown hK hP 1 rfl rfl 1 (by decide) (va_Nw.use rfl (hN.1 _ (List.mem_of_getElem? (i := 2) rfl))) (fun _ h9 => h9) (congrArg (fun z => some (Value.int z)) e16) dX7_letter_18 ?_
      refine lv_bipush (v := nI (10)) hx hb dX7_letter_21 (by decide +kernel) ?_
      refine lv_icmp_lt (tgt := 29) hx hb dX7_letter_23 (by decide) (fun c_3 => ?_) (fun c_3 => ?_)
      · skip
        rw [nI_ltI (a := k16) (b := 10) (by omega) (by omega)] at c_3
        refine lv_aload_n hx hb dX7_letter_29 rfl (lv_at hl 0 rfl) ?_
        refine va_get (D := (dC, dI)) (ci := 7) (v := .ref (o 0)) (C := RX7) (T := TX7) (N := 16) hx hb hts hin7 hown hK hP 0 rfl rfl 0 (by decide) hW0 (fun _ h9 => h9) rfl dX7_letter_30 ?_
        refine lv_iload_n hx hb dX7_letter_33 rfl (lv_at hl 1 rfl) ?_
        have hFc : ∀ q, va_A (xW cI cP a o f g pa tv n pd pk pv) H.size q → A q := fun q h => h.elim (fun ⟨j, e, hj⟩ => hD.2 j (q, e) hj) (fun h => hA q (Nat.le_trans hS.1 h))
        refine va_callv (va_runV (As := [.int (x)]) (rest := []) ⟨hx, hb, hml, hown, hts⟩ (c3_put l dC dI cI cP a o f g pa tv n pd pk pv H.size e16 (by omega) (x) ) (cwV 1 hts gX7_letter_X3_put rfl rfl rfl (by decide +kernel) ⟨Nat.le_of_ble_eq_true rfl, Nat.le_of_ble_eq_true rfl⟩) ⟨fun a U g mk q => by obtain ⟨q0, q1, qP, qK, qN, qD⟩ := q; exact ⟨q0, q1, qP, va_K.moved (u := U) (U := U.calling g mk a) (Vm.Alike.refl U.vm) qK, xN.same (u := U) (U := U.calling g mk a) rfl qN, qD⟩, va_recv hK hP (ci := 3) (q0 := 1) rfl rfl, fun U hU hW => ⟨rfl, by rw [hU], by rw [hU]; exact hP, va_K.moved hW.alike hK, xN.warm hW hN, hD.weaken (fun _ _ _ _ => trivial)⟩⟩ rfl rfl hl.1 rfl (lv_room (Nat.le_of_ble_eq_true rfl)) dX7_letter_34 ⟨Nat.le_of_ble_eq_true rfl, Nat.le_of_ble_eq_true rfl⟩) hS (fun q _ h => hFc q h) hFc (fun u t H1 locs ht hvm hw hB hz1 hk1 hS => ?_)
        rw [if_pos (by omega)] at hw
        have hw : u = ((su f 16 (nI (k16 + 1)), su g 0 (su (g 0) k16 (x)), pa, tv, n, pd, pk, pv) : XSt) := hw
        subst hw
        obtain ⟨hP1, hK1, hD1⟩ := hB
        rw [ht] at hP1
        have hP : va_P (dC, dI) vwCl (xW cI cP a o (su f 16 (nI (k16 + 1))) (su g 0 (su (g 0) k16 (x))) pa tv n pd pk pv) H1 := hP1
        have hD : va_D A (xW cI cP a o (su f 16 (nI (k16 + 1))) (su g 0 (su (g 0) k16 (x))) pa tv n pd pk pv) := hD1.weaken (fun _ _ _ h => hFc _ h)
        clear hP1 hD1 hK1 hFc hk1 hz1
        generalize H1 = H at hP hS ⊢
        have hP : va_P (dC, dI) vwCl (xW cI cP a o (su f 16 (nI (k16 + 1))) (su g 0 (su (g 0) k16 (x))) pa tv n pd pk pv) H := hP
        have hD : va_D A (xW cI cP a o (su f 16 (nI (k16 + 1))) (su g 0 (su (g 0) k16 (x))) pa tv n pd pk pv) := hD
        refine lv_aload_n hx hb dX7_letter_37 rfl (lv_at hl 0 rfl) ?_
        refine va_get (D := (dC, dI)) (ci := 7) (v := .ref (o 0)) (C := RX7) (T := TX7) (N := 16) hx hb hts hin7 hown hK hP 0 rfl rfl 0 (by decide) hW0 (fun _ h9 => h9) rfl dX7_letter_38 ?_
        refine va_getN (D := (dC, dI)) (ci := 3) (v := .int (nI (k16 + 1))) (C := RX3) (T := TX3) (N := 2) hx hb hts hin3 hown hK hP 1 rfl rfl 1 (by decide) (va_Nw.use rfl (hN.1 _ (List.mem_of_getElem? (i := 2) rfl))) (fun _ h9 => h9) rfl dX7_letter_41 ?_
        have hP9 : va_P (dC, dI) vwCl (xW cI cP a o (su f 16 (nI (k16 + 1))) (su g 0 (su (g 0) k16 (x))) pa tv n pd pk pv) H := hP
        exact W.iret (v := nI (k16 + 1)) hx hb hr (fun t ht hW => ⟨⟨nI (k16 + 1), (su f 16 (nI (k16 + 1)), su g 0 (su (g 0) k16 (x)), pa, tv, n, pd, pk, pv), rfl, (by show ((nI (k16 + 1), (su f 16 (nI (k16 + 1)), su g 0 (su (g 0) k16 (x)), pa, tv, n, pd, pk, pv)) : _ × XSt) = xp3 (xLetter f g k16 x) pa tv n pd pk pv; first | (simp only [xp3, xLetter, if_neg c_1, if_pos c_2, if_pos c_3]; done) | (simp only [xp3, xLetter, if_neg c_1, if_pos c_2, if_pos c_3]; rfl) | rfl | (simp [xp3, xLetter, if_neg c_1, if_pos c_2, if_pos c_3]; done)), by rw [ht]; exact hP9, va_K.moved hW.alike hK, hD⟩, hS.F ht⟩) hS.2.2 dX7_letter_44
      · skip
        rw [nI_ltI (a := k16) (b := 10) (by omega) (by omega)] at c_3
        refine lv_bipush (v := (-104)) hx hb dX7_letter_26 (by decide +kernel) ?_
        have hP9 : va_P (dC, dI) vwCl (xW cI cP a o f g pa tv n pd pk pv) H := hP
        exact W.iret (v := (-104)) hx hb hr (fun t ht hW => ⟨⟨(-104), (f, g, pa, tv, n, pd, pk, pv), rfl, (by show (((-104), (f, g, pa, tv, n, pd, pk, pv)) : _ × XSt) = xp3 (xLetter f g k16 x) pa tv n pd pk pv; first | (simp only [xp3, xLetter, if_neg c_1, if_pos c_2, if_neg c_3]; done) | (simp only [xp3, xLetter, if_neg c_1, if_pos c_2, if_neg c_3]; rfl) | rfl | (simp [xp3, xLetter, if_neg c_1, if_pos c_2, if_neg c_3]; done)), by rw [ht]; exact hP9, va_K.moved hW.alike hK, hD⟩, hS.F ht⟩) hS.2.2 dX7_letter_28
    · skip
      rw [lei, tn (n := 126) (by omega)] at c_2
      refine lv_bipush (v := (-102)) hx hb dX7_letter_11 (by decide +kernel) ?_
      have hP9 : va_P (dC, dI) vwCl (xW cI cP a o f g pa tv n pd pk pv) H := hP
      exact W.iret (v := (-102)) hx hb hr (fun t ht hW => ⟨⟨(-102), (f, g, pa, tv, n, pd, pk, pv), rfl, (by show (((-102), (f, g, pa, tv, n, pd, pk, pv)) : _ × XSt) = xp3 (xLetter f g k16 x) pa tv n pd pk pv; first | (simp only [xp3, xLetter, if_neg c_1, if_neg c_2]; done) | (simp only [xp3, xLetter, if_neg c_1, if_neg c_2]; rfl) | rfl | (simp [xp3, xLetter, if_neg c_1, if_neg c_2]; done)), by rw [ht]; exact hP9, va_K.moved hW.alike hK, hD⟩, hS.F ht⟩) hS.2.2 dX7_letter_13

set_option maxHeartbeats 1200000 in
set_option maxRecDepth 100000 in
theorem c7_blank (l : Launch) (dC : Nat → ClassId) (dI : Nat → Nat → Nat) (cI cP : ClassId) (a : Nat) (o : Nat → Nat) (f : Nat → Int32) (g : Nat → Nat → Int32) (pa : Nat → Option Nat) (tv : Nat → Nat → Int32) (n : Nat) (pd pk : Nat → Nat) (pv : Nat → Nat → Int32) (sz : Nat) {k16 : Nat} (e16 : f 16 = nI k16) (b16 : k16 ≤ 10) : Met l yX7_blank wsX7_blank ({ frames := 1, cells := 0, slots := 0, locals := 20 } : Room) (va_Pc [.ref (a)] (fun U => U.heap.size = sz ∧ va_P (dC, dI) vwCl (xW cI cP a o f g pa tv n pd pk pv) U.heap ∧ va_K (dC, dI) vwCl [(cI, .int), (cP, .object RX4)] U ∧ xN U ∧ va_D (fun _ => True) (xW cI cP a o f g pa tv n pd pk pv))) (va_Qi (fun (r : Int32) (u : XSt) => (r, u) = (nI k16, su f 16 (nI 0), g, pa, tv, n, pd, pk, pv)) (xB dC dI cI cP a o (va_A (xW cI cP a o f g pa tv n pd pk pv) sz)) (va_A (xW cI cP a o f g pa tv n pd pk pv) sz)) 0 0 (va_A (xW cI cP a o f g pa tv n pd pk pv) sz) := by
  refine Met.ofW (cc := cX7_blank) (maxL := 2) (ret := (some .int)) (by decide) rfl ?_
  intro p_ e_ s m args below meth c_0 s₁ B hml hv
  obtain ⟨rfl, hsz, hP, hK, hN, hD0⟩ := hv
  have hx := B.exec
  have hb := B.bytes
  have hr := B.returns
  have hts := atoms_spec (ws := wsX7_blank) B.pre
  have hown : s.vm.findClass RX7 = some m.cls := findClass_of_methodNamed B.named
  have hlocks := B.notSynchronized
  subst hsz
  have hD := hD0.self (sz := s.heap.size)
  generalize hAe : va_A (xW cI cP a o f g pa tv n pd pk pv) s.heap.size = A at hD ⊢
  have hA : ∀ q : Nat, s.heap.size ≤ q → A q := fun q h => by rw [← hAe]; exact Or.inr h
  obtain ⟨H, hHe⟩ : ∃ H : Heap, H = s.heap := ⟨_, rfl⟩
  have hS : va_S A s.heap H [] := by rw [hHe]; exact va_S.rf
  rw [← hHe] at hP ⊢
  have hP : va_P (dC, dI) vwCl (xW cI cP a o f g pa tv n pd pk pv) H := hP
  have hl := lv_entry ([.ref (a)]) (n := 2) (Nat.le_of_ble_eq_true rfl)
  rw [lg_entry_eq]
  generalize (lg_sl ([.ref (a)]) ++ List.replicate (2 - (lg_sl ([.ref (a)])).length) Slot.unset).toArray = ls at hl ⊢
  have hl : lv_has ls 2 [(0, .ref (a))] := hl
  have hin3 : ∀ w ∈ wsX30, w ∈ wsX7_blank := fun _ h => List.mem_cons_of_mem _ (List.mem_append_right _ h)
  have hin7 : ∀ w ∈ wsX70, w ∈ wsX7_blank := fun _ h => List.mem_cons_of_mem _ (List.mem_append_left _ (List.mem_append_right _ h))
  have hW0 := hts (.fieldLink RX7 12 "EachEye" "page" "LEachEye$Page;") (by decide +kernel)
  refine lv_aload_n hx hb dX7_blank_0 rfl (lv_at hl 0 rfl) ?_
  refine va_get (D := (dC, dI)) (ci := 7) (v := .ref (o 0)) (C := RX7) (T := TX7) (N := 16) hx hb hts hin7 hown hK hP 0 rfl rfl 0 (by decide) hW0 (fun _ h9 => h9) rfl dX7_blank_1 ?_
  refine va_getN (D := (dC, dI)) (ci := 3) (v := .int (nI (k16))) (C := RX3) (T := TX3) (N := 2) hx hb hts hin3 hown hK hP 1 rfl rfl 1 (by decide) (va_Nw.use rfl (hN.1 _ (List.mem_of_getElem? (i := 2) rfl))) (fun _ h9 => h9) (congrArg (fun z => some (Value.int z)) e16) dX7_blank_4 ?_
  refine lv_istore_n (lv' := [(1, .int (nI (k16))), (0, .ref (a))]) hx hb dX7_blank_7 rfl hl (by decide) rfl (fun ls hl => ?_)
  refine lv_aload_n hx hb dX7_blank_8 rfl (lv_at hl 1 rfl) ?_
  refine va_get (D := (dC, dI)) (ci := 7) (v := .ref (o 0)) (C := RX7) (T := TX7) (N := 16) hx hb hts hin7 hown hK hP 0 rfl rfl 0 (by decide) hW0 (fun _ h9 => h9) rfl dX7_blank_9 ?_
  have hFc : ∀ q, va_A (xW cI cP a o f g pa tv n pd pk pv) H.size q → A q := fun q h => h.elim (fun ⟨j, e, hj⟩ => hD.2 j (q, e) hj) (fun h => hA q (Nat.le_trans hS.1 h))
  refine va_callv (va_runV (As := []) (rest := []) ⟨hx, hb, hml, hown, hts⟩ (c3_empty l dC dI cI cP a o f g pa tv n pd pk pv H.size   ) (cwV 0 hts gX7_blank_X3_empty rfl rfl rfl (by decide +kernel) ⟨Nat.le_of_ble_eq_true rfl, Nat.le_of_ble_eq_true rfl⟩) ⟨fun a U g mk q => by obtain ⟨q0, q1, qP, qK, qN, qD⟩ := q; exact ⟨q0, q1, qP, va_K.moved (u := U) (U := U.calling g mk a) (Vm.Alike.refl U.vm) qK, xN.same (u := U) (U := U.calling g mk a) rfl qN, qD⟩, va_recv hK hP (ci := 3) (q0 := 1) rfl rfl, fun U hU hW => ⟨rfl, by rw [hU], by rw [hU]; exact hP, va_K.moved hW.alike hK, xN.warm hW hN, hD.weaken (fun _ _ _ _ => trivial)⟩⟩ rfl rfl hl.1 rfl (lv_room (Nat.le_of_ble_eq_true rfl)) dX7_blank_12 ⟨Nat.le_of_ble_eq_true rfl, Nat.le_of_ble_eq_true rfl⟩) hS (fun q _ h => hFc q h) hFc (fun u t H1 locs ht hvm hw hB hz1 hk1 hS => ?_)
  have hw : u = ((su f 16 (nI (0)), g, pa, tv, n, pd, pk, pv) : XSt) := hw
  subst hw
  obtain ⟨hP1, hK1, hD1⟩ := hB
  rw [ht] at hP1
  have hP : va_P (dC, dI) vwCl (xW cI cP a o (su f 16 (nI (0))) g pa tv n pd pk pv) H1 := hP1
  have hD : va_D A (xW cI cP a o (su f 16 (nI (0))) g pa tv n pd pk pv) := hD1.weaken (fun _ _ _ h => hFc _ h)
  clear hP1 hD1 hK1 hFc hk1 hz1
  generalize H1 = H at hP hS ⊢
  have hP : va_P (dC, dI) vwCl (xW cI cP a o (su f 16 (nI (0))) g pa tv n pd pk pv) H := hP
  have hD : va_D A (xW cI cP a o (su f 16 (nI (0))) g pa tv n pd pk pv) := hD
  refine lv_iload_n hx hb dX7_blank_15 rfl (lv_at hl 0 rfl) ?_
  have hP9 : va_P (dC, dI) vwCl (xW cI cP a o (su f 16 (nI (0))) g pa tv n pd pk pv) H := hP
  exact W.iret (v := nI (k16)) hx hb hr (fun t ht hW => ⟨⟨nI (k16), (su f 16 (nI (0)), g, pa, tv, n, pd, pk, pv), rfl, (by show ((nI (k16), (su f 16 (nI (0)), g, pa, tv, n, pd, pk, pv)) : _ × XSt) = (nI k16, su f 16 (nI 0), g, pa, tv, n, pd, pk, pv); rfl), by rw [ht]; exact hP9, va_K.moved hW.alike hK, hD⟩, hS.F ht⟩) hS.2.2 dX7_blank_16

set_option maxHeartbeats 1200000 in
set_option maxRecDepth 100000 in
theorem c7_forget (l : Launch) (dC : Nat → ClassId) (dI : Nat → Nat → Nat) (cI cP : ClassId) (a : Nat) (o : Nat → Nat) (f : Nat → Int32) (g : Nat → Nat → Int32) (pa : Nat → Option Nat) (tv : Nat → Nat → Int32) (n : Nat) (pd pk : Nat → Nat) (pv : Nat → Nat → Int32) (sz : Nat) {k17 : Nat} (e17 : f 17 = nI k17) (b17 : k17 ≤ 8) : Met l yX7_forget wsX7_forget ({ frames := 1, cells := 0, slots := 0, locals := 20 } : Room) (va_Pc [.ref (a)] (fun U => U.heap.size = sz ∧ va_P (dC, dI) vwCl (xW cI cP a o f g pa tv n pd pk pv) U.heap ∧ va_K (dC, dI) vwCl [(cI, .int), (cP, .object RX4)] U ∧ xN U ∧ va_D (fun _ => True) (xW cI cP a o f g pa tv n pd pk pv))) (va_Qi (fun (r : Int32) (u : XSt) => (r, u) = (nI k17, su f 17 (nI 0), g, pa, tv, n, pd, pk, pv)) (xB dC dI cI cP a o (va_A (xW cI cP a o f g pa tv n pd pk pv) sz)) (va_A (xW cI cP a o f g pa tv n pd pk pv) sz)) 0 0 (va_A (xW cI cP a o f g pa tv n pd pk pv) sz) := by
  refine Met.ofW (cc := cX7_forget) (maxL := 2) (ret := (some .int)) (by decide) rfl ?_
  intro p_ e_ s m args below meth c_0 s₁ B hml hv
  obtain ⟨rfl, hsz, hP, hK, hN, hD0⟩ := hv
  have hx := B.exec
  have hb := B.bytes
  have hr := B.returns
  have hts := atoms_spec (ws := wsX7_forget) B.pre
  have hown : s.vm.findClass RX7 = some m.cls := findClass_of_methodNamed B.named
  have hlocks := B.notSynchronized
  subst hsz
  have hD := hD0.self (sz := s.heap.size)
  generalize hAe : va_A (xW cI cP a o f g pa tv n pd pk pv) s.heap.size = A at hD ⊢
  have hA : ∀ q : Nat, s.heap.size ≤ q → A q := fun q h => by rw [← hAe]; exact Or.inr h
  obtain ⟨H, hHe⟩ : ∃ H : Heap, H = s.heap := ⟨_, rfl⟩
  have hS : va_S A s.heap H [] := by rw [hHe]; exact va_S.rf
  rw [← hHe] at hP ⊢
  have hP : va_P (dC, dI) vwCl (xW cI cP a o f g pa tv n pd pk pv) H := hP
  have hl := lv_entry ([.ref (a)]) (n := 2) (Nat.le_of_ble_eq_true rfl)
  rw [lg_entry_eq]
  generalize (lg_sl ([.ref (a)]) ++ List.replicate (2 - (lg_sl ([.ref (a)])).length) Slot.unset).toArray = ls at hl ⊢
  have hl : lv_has ls 2 [(0, .ref (a))] := hl
  have hin1 : ∀ w ∈ wsX10, w ∈ wsX7_forget := fun _ h => List.mem_cons_of_mem _ (List.mem_append_right _ h)
  have hin7 : ∀ w ∈ wsX70, w ∈ wsX7_forget := fun _ h => List.mem_cons_of_mem _ (List.mem_append_left _ (List.mem_append_right _ h))
  have hW0 := hts (.fieldLink RX7 29 "EachEye" "cards" "LEachEye$Cards;") (by decide +kernel)
  refine lv_aload_n hx hb dX7_forget_0 rfl (lv_at hl 0 rfl) ?_
  refine va_get (D := (dC, dI)) (ci := 7) (v := .ref (o 3)) (C := RX7) (T := TX7) (N := 16) hx hb hts hin7 hown hK hP 0 rfl rfl 3 (by decide) hW0 (fun _ h9 => h9) rfl dX7_forget_1 ?_
  refine va_getN (D := (dC, dI)) (ci := 1) (v := .int (nI (k17))) (C := RX1) (T := TX1) (N := 6) hx hb hts hin1 hown hK hP 5 rfl rfl 4 (by decide) (va_Nw.use rfl (hN.1 _ (List.mem_of_getElem? (i := 4) rfl))) (fun _ h9 => h9) (congrArg (fun z => some (Value.int z)) e17) dX7_forget_4 ?_
  refine lv_istore_n (lv' := [(1, .int (nI (k17))), (0, .ref (a))]) hx hb dX7_forget_7 rfl hl (by decide) rfl (fun ls hl => ?_)
  refine lv_aload_n hx hb dX7_forget_8 rfl (lv_at hl 1 rfl) ?_
  refine va_get (D := (dC, dI)) (ci := 7) (v := .ref (o 3)) (C := RX7) (T := TX7) (N := 16) hx hb hts hin7 hown hK hP 0 rfl rfl 3 (by decide) hW0 (fun _ h9 => h9) rfl dX7_forget_9 ?_
  have hFc : ∀ q, va_A (xW cI cP a o f g pa tv n pd pk pv) H.size q → A q := fun q h => h.elim (fun ⟨j, e, hj⟩ => hD.2 j (q, e) hj) (fun h => hA q (Nat.le_trans hS.1 h))
  refine va_callv (va_runV (As := []) (rest := []) ⟨hx, hb, hml, hown, hts⟩ (c1_clear l dC dI cI cP a o f g pa tv n pd pk pv H.size   ) (cwV 0 hts gX7_forget_X1_clear rfl rfl rfl (by decide +kernel) ⟨Nat.le_of_ble_eq_true rfl, Nat.le_of_ble_eq_true rfl⟩) ⟨fun a U g mk q => by obtain ⟨q0, q1, qP, qK, qN, qD⟩ := q; exact ⟨q0, q1, qP, va_K.moved (u := U) (U := U.calling g mk a) (Vm.Alike.refl U.vm) qK, xN.same (u := U) (U := U.calling g mk a) rfl qN, qD⟩, va_recv hK hP (ci := 1) (q0 := 5) rfl rfl, fun U hU hW => ⟨rfl, by rw [hU], by rw [hU]; exact hP, va_K.moved hW.alike hK, xN.warm hW hN, hD.weaken (fun _ _ _ _ => trivial)⟩⟩ rfl rfl hl.1 rfl (lv_room (Nat.le_of_ble_eq_true rfl)) dX7_forget_12 ⟨Nat.le_of_ble_eq_true rfl, Nat.le_of_ble_eq_true rfl⟩) hS (fun q _ h => hFc q h) hFc (fun u t H1 locs ht hvm hw hB hz1 hk1 hS => ?_)
  have hw : u = ((su f 17 (nI (0)), g, pa, tv, n, pd, pk, pv) : XSt) := hw
  subst hw
  obtain ⟨hP1, hK1, hD1⟩ := hB
  rw [ht] at hP1
  have hP : va_P (dC, dI) vwCl (xW cI cP a o (su f 17 (nI (0))) g pa tv n pd pk pv) H1 := hP1
  have hD : va_D A (xW cI cP a o (su f 17 (nI (0))) g pa tv n pd pk pv) := hD1.weaken (fun _ _ _ h => hFc _ h)
  clear hP1 hD1 hK1 hFc hk1 hz1
  generalize H1 = H at hP hS ⊢
  have hP : va_P (dC, dI) vwCl (xW cI cP a o (su f 17 (nI (0))) g pa tv n pd pk pv) H := hP
  have hD : va_D A (xW cI cP a o (su f 17 (nI (0))) g pa tv n pd pk pv) := hD
  refine lv_iload_n hx hb dX7_forget_15 rfl (lv_at hl 0 rfl) ?_
  have hP9 : va_P (dC, dI) vwCl (xW cI cP a o (su f 17 (nI (0))) g pa tv n pd pk pv) H := hP
  exact W.iret (v := nI (k17)) hx hb hr (fun t ht hW => ⟨⟨nI (k17), (su f 17 (nI (0)), g, pa, tv, n, pd, pk, pv), rfl, (by show ((nI (k17), (su f 17 (nI (0)), g, pa, tv, n, pd, pk, pv)) : _ × XSt) = (nI k17, su f 17 (nI 0), g, pa, tv, n, pd, pk, pv); rfl), by rw [ht]; exact hP9, va_K.moved hW.alike hK, hD⟩, hS.F ht⟩) hS.2.2 dX7_forget_16

set_option maxHeartbeats 1200000 in
set_option maxRecDepth 100000 in
theorem c7_card (l : Launch) (dC : Nat → ClassId) (dI : Nat → Nat → Nat) (cI cP : ClassId) (a : Nat) (o : Nat → Nat) (f : Nat → Int32) (g : Nat → Nat → Int32) (pa : Nat → Option Nat) (tv : Nat → Nat → Int32) (n : Nat) (pd pk : Nat → Nat) (pv : Nat → Nat → Int32) (sz : Nat) {k17 : Nat} (e17 : f 17 = nI k17) (b17 : k17 ≤ 8) (x : Int32) (y : Int32) : Met l yX7_card wsX7_card ({ frames := 1, cells := 0, slots := 0, locals := 22 } : Room) (va_Pc [.ref (a), .int (x), .int (y)] (fun U => U.heap.size = sz ∧ va_P (dC, dI) vwCl (xW cI cP a o f g pa tv n pd pk pv) U.heap ∧ va_K (dC, dI) vwCl [(cI, .int), (cP, .object RX4)] U ∧ xN U ∧ va_D (fun _ => True) (xW cI cP a o f g pa tv n pd pk pv))) (va_Qi (fun (r : Int32) (u : XSt) => (r, u) = xp3 (xCard f g k17 x y) pa tv n pd pk pv) (xB dC dI cI cP a o (va_A (xW cI cP a o f g pa tv n pd pk pv) sz)) (va_A (xW cI cP a o f g pa tv n pd pk pv) sz)) 0 0 (va_A (xW cI cP a o f g pa tv n pd pk pv) sz) := by
  refine Met.ofW (cc := cX7_card) (maxL := 3) (ret := (some .int)) (by decide) rfl ?_
  intro p_ e_ s m args below meth c_0 s₁ B hml hv
  obtain ⟨rfl, hsz, hP, hK, hN, hD0⟩ := hv
  have hx := B.exec
  have hb := B.bytes
  have hr := B.returns
  have hts := atoms_spec (ws := wsX7_card) B.pre
  have hown : s.vm.findClass RX7 = some m.cls := findClass_of_methodNamed B.named
  have hlocks := B.notSynchronized
  subst hsz
  have hD := hD0.self (sz := s.heap.size)
  generalize hAe : va_A (xW cI cP a o f g pa tv n pd pk pv) s.heap.size = A at hD ⊢
  have hA : ∀ q : Nat, s.heap.size ≤ q → A q := fun q h => by rw [← hAe]; exact Or.inr h
  obtain ⟨H, hHe⟩ : ∃ H : Heap, H = s.heap := ⟨_, rfl⟩
  have hS : va_S A s.heap H [] := by rw [hHe]; exact va_S.rf
  rw [← hHe] at hP ⊢
  have hP : va_P (dC, dI) vwCl (xW cI cP a o f g pa tv n pd pk pv) H := hP
  have hl := lv_entry ([.ref (a), .int (x), .int (y)]) (n := 3) (Nat.le_of_ble_eq_true rfl)
  rw [lg_entry_eq]
  generalize (lg_sl ([.ref (a), .int (x), .int (y)]) ++ List.replicate (3 - (lg_sl ([.ref (a), .int (x), .int (y)])).length) Slot.unset).toArray = ls at hl ⊢
  have hl : lv_has ls 3 [(0, .ref (a)), (1, .int (x)), (2, .int (y))] := hl
  have hin1 : ∀ w ∈ wsX10, w ∈ wsX7_card := fun _ h => List.mem_cons_of_mem _ (List.mem_append_right _ h)
  have hin7 : ∀ w ∈ wsX70, w ∈ wsX7_card := fun _ h => List.mem_cons_of_mem _ (List.mem_append_left _ (List.mem_append_right _ h))
  have hW0 := hts (.fieldLink RX7 29 "EachEye" "cards" "LEachEye$Cards;") (by decide +kernel)
  refine lv_iload_n hx hb dX7_card_0 rfl (lv_at hl 1 rfl) ?_
  refine vp_callSi (va_Run.run (va_runS (As := [.int (x)]) (rest := []) ⟨hx, hb, hml, hown, hts⟩ (c7_isHue l (x)) (va_cwS 1 hts gX7_card_X7_isHue rfl rfl rfl (by decide +kernel) ⟨Nat.le_of_ble_eq_true rfl, Nat.le_of_ble_eq_true rfl⟩) ⟨fun _ _ _ _ q => q, fun U hU hW => ⟨rfl, trivial⟩⟩ rfl rfl hl.1 rfl (lv_room (Nat.le_of_ble_eq_true rfl)) dX7_card_1 ⟨Nat.le_of_ble_eq_true rfl, Nat.le_of_ble_eq_true rfl⟩)) (fun r hrc => ?_)
  have hrc : r = b2i (0 ≤ (x).toInt ∧ (x).toInt ≤ 7) := hrc
  subst hrc
  refine lv_if_eq (tgt := 14) hx hb dX7_card_4 (by decide) (fun c_1 => ?_) (fun c_1 => ?_)
  · skip
    have c_1 := b2i_0 c_1
    refine lv_bipush (v := (-102)) hx hb dX7_card_14 (by decide +kernel) ?_
    have hP9 : va_P (dC, dI) vwCl (xW cI cP a o f g pa tv n pd pk pv) H := hP
    exact W.iret (v := (-102)) hx hb hr (fun t ht hW => ⟨⟨(-102), (f, g, pa, tv, n, pd, pk, pv), rfl, (by show (((-102), (f, g, pa, tv, n, pd, pk, pv)) : _ × XSt) = xp3 (xCard f g k17 x y) pa tv n pd pk pv; first | (simp only [xp3, xCard, if_neg c_1]; done) | (simp only [xp3, xCard, if_neg c_1]; rfl) | rfl | (simp [xp3, xCard, if_neg c_1]; done)), by rw [ht]; exact hP9, va_K.moved hW.alike hK, hD⟩, hS.F ht⟩) hS.2.2 dX7_card_16
  · skip
    have c_1 := b2i_1 c_1
    refine lv_iload_n hx hb dX7_card_7 rfl (lv_at hl 2 rfl) ?_
    refine vp_callSi (va_Run.run (va_runS (As := [.int (y)]) (rest := []) ⟨hx, hb, hml, hown, hts⟩ (c7_isHue l (y)) (va_cwS 1 hts gX7_card_X7_isHue rfl rfl rfl (by decide +kernel) ⟨Nat.le_of_ble_eq_true rfl, Nat.le_of_ble_eq_true rfl⟩) ⟨fun _ _ _ _ q => q, fun U hU hW => ⟨rfl, trivial⟩⟩ rfl rfl hl.1 rfl (lv_room (Nat.le_of_ble_eq_true rfl)) dX7_card_8 ⟨Nat.le_of_ble_eq_true rfl, Nat.le_of_ble_eq_true rfl⟩)) (fun r hrc => ?_)
    have hrc : r = b2i (0 ≤ (y).toInt ∧ (y).toInt ≤ 7) := hrc
    subst hrc
    refine lv_if_ne (tgt := 17) hx hb dX7_card_11 (by decide) (fun c_2 => ?_) (fun c_2 => ?_)
    · skip
      have c_2 := b2i_1 c_2
      refine lv_aload_n hx hb dX7_card_17 rfl (lv_at hl 0 rfl) ?_
      refine va_get (D := (dC, dI)) (ci := 7) (v := .ref (o 3)) (C := RX7) (T := TX7) (N := 16) hx hb hts hin7 hown hK hP 0 rfl rfl 3 (by decide) hW0 (fun _ h9 => h9) rfl dX7_card_18 ?_
      refine va_getN (D := (dC, dI)) (ci := 1) (v := .int (nI (k17))) (C := RX1) (T := TX1) (N := 6) hx hb hts hin1 hown hK hP 5 rfl rfl 4 (by decide) (va_Nw.use rfl (hN.1 _ (List.mem_of_getElem? (i := 4) rfl))) (fun _ h9 => h9) (congrArg (fun z => some (Value.int z)) e17) dX7_card_21 ?_
      refine lv_bipush (v := nI (8)) hx hb dX7_card_24 (by decide +kernel) ?_
      refine lv_icmp_lt (tgt := 32) hx hb dX7_card_26 (by decide) (fun c_3 => ?_) (fun c_3 => ?_)
      · skip
        rw [nI_ltI (a := k17) (b := 8) (by omega) (by omega)] at c_3
        refine lv_aload_n hx hb dX7_card_32 rfl (lv_at hl 0 rfl) ?_
        refine va_get (D := (dC, dI)) (ci := 7) (v := .ref (o 3)) (C := RX7) (T := TX7) (N := 16) hx hb hts hin7 hown hK hP 0 rfl rfl 3 (by decide) hW0 (fun _ h9 => h9) rfl dX7_card_33 ?_
        refine lv_iload_n hx hb dX7_card_36 rfl (lv_at hl 1 rfl) ?_
        refine lv_iload_n hx hb dX7_card_37 rfl (lv_at hl 2 rfl) ?_
        have hFc : ∀ q, va_A (xW cI cP a o f g pa tv n pd pk pv) H.size q → A q := fun q h => h.elim (fun ⟨j, e, hj⟩ => hD.2 j (q, e) hj) (fun h => hA q (Nat.le_trans hS.1 h))
        refine va_callv (va_runV (As := [.int (x), .int (y)]) (rest := []) ⟨hx, hb, hml, hown, hts⟩ (c1_put l dC dI cI cP a o f g pa tv n pd pk pv H.size e17 (by omega) (x) (y) ) (cwV 2 hts gX7_card_X1_put rfl rfl rfl (by decide +kernel) ⟨Nat.le_of_ble_eq_true rfl, Nat.le_of_ble_eq_true rfl⟩) ⟨fun a U g mk q => by obtain ⟨q0, q1, qP, qK, qN, qD⟩ := q; exact ⟨q0, q1, qP, va_K.moved (u := U) (U := U.calling g mk a) (Vm.Alike.refl U.vm) qK, xN.same (u := U) (U := U.calling g mk a) rfl qN, qD⟩, va_recv hK hP (ci := 1) (q0 := 5) rfl rfl, fun U hU hW => ⟨rfl, by rw [hU], by rw [hU]; exact hP, va_K.moved hW.alike hK, xN.warm hW hN, hD.weaken (fun _ _ _ _ => trivial)⟩⟩ rfl rfl hl.1 rfl (lv_room (Nat.le_of_ble_eq_true rfl)) dX7_card_38 ⟨Nat.le_of_ble_eq_true rfl, Nat.le_of_ble_eq_true rfl⟩) hS (fun q _ h => hFc q h) hFc (fun u t H1 locs ht hvm hw hB hz1 hk1 hS => ?_)
        rw [if_pos (by omega)] at hw
        have hw : u = ((su f 17 (nI (k17 + 1)), su (su g 2 (su (g 2) k17 (x))) 3 (su (g 3) k17 (y)), pa, tv, n, pd, pk, pv) : XSt) := hw
        subst hw
        obtain ⟨hP1, hK1, hD1⟩ := hB
        rw [ht] at hP1
        have hP : va_P (dC, dI) vwCl (xW cI cP a o (su f 17 (nI (k17 + 1))) (su (su g 2 (su (g 2) k17 (x))) 3 (su (g 3) k17 (y))) pa tv n pd pk pv) H1 := hP1
        have hD : va_D A (xW cI cP a o (su f 17 (nI (k17 + 1))) (su (su g 2 (su (g 2) k17 (x))) 3 (su (g 3) k17 (y))) pa tv n pd pk pv) := hD1.weaken (fun _ _ _ h => hFc _ h)
        clear hP1 hD1 hK1 hFc hk1 hz1
        generalize H1 = H at hP hS ⊢
        have hP : va_P (dC, dI) vwCl (xW cI cP a o (su f 17 (nI (k17 + 1))) (su (su g 2 (su (g 2) k17 (x))) 3 (su (g 3) k17 (y))) pa tv n pd pk pv) H := hP
        have hD : va_D A (xW cI cP a o (su f 17 (nI (k17 + 1))) (su (su g 2 (su (g 2) k17 (x))) 3 (su (g 3) k17 (y))) pa tv n pd pk pv) := hD
        refine lv_aload_n hx hb dX7_card_41 rfl (lv_at hl 0 rfl) ?_
        refine va_get (D := (dC, dI)) (ci := 7) (v := .ref (o 3)) (C := RX7) (T := TX7) (N := 16) hx hb hts hin7 hown hK hP 0 rfl rfl 3 (by decide) hW0 (fun _ h9 => h9) rfl dX7_card_42 ?_
        refine va_getN (D := (dC, dI)) (ci := 1) (v := .int (nI (k17 + 1))) (C := RX1) (T := TX1) (N := 6) hx hb hts hin1 hown hK hP 5 rfl rfl 4 (by decide) (va_Nw.use rfl (hN.1 _ (List.mem_of_getElem? (i := 4) rfl))) (fun _ h9 => h9) rfl dX7_card_45 ?_
        have hP9 : va_P (dC, dI) vwCl (xW cI cP a o (su f 17 (nI (k17 + 1))) (su (su g 2 (su (g 2) k17 (x))) 3 (su (g 3) k17 (y))) pa tv n pd pk pv) H := hP
        exact W.iret (v := nI (k17 + 1)) hx hb hr (fun t ht hW => ⟨⟨nI (k17 + 1), (su f 17 (nI (k17 + 1)), su (su g 2 (su (g 2) k17 (x))) 3 (su (g 3) k17 (y)), pa, tv, n, pd, pk, pv), rfl, (by show ((nI (k17 + 1), (su f 17 (nI (k17 + 1)), su (su g 2 (su (g 2) k17 (x))) 3 (su (g 3) k17 (y)), pa, tv, n, pd, pk, pv)) : _ × XSt) = xp3 (xCard f g k17 x y) pa tv n pd pk pv; first | (simp only [xp3, xCard, if_pos c_1, if_pos c_2, if_pos c_3]; done) | (simp only [xp3, xCard, if_pos c_1, if_pos c_2, if_pos c_3]; rfl) | rfl | (simp [xp3, xCard, if_pos c_1, if_pos c_2, if_pos c_3]; done)), by rw [ht]; exact hP9, va_K.moved hW.alike hK, hD⟩, hS.F ht⟩) hS.2.2 dX7_card_48
      · skip
        rw [nI_ltI (a := k17) (b := 8) (by omega) (by omega)] at c_3
        refine lv_bipush (v := (-104)) hx hb dX7_card_29 (by decide +kernel) ?_
        have hP9 : va_P (dC, dI) vwCl (xW cI cP a o f g pa tv n pd pk pv) H := hP
        exact W.iret (v := (-104)) hx hb hr (fun t ht hW => ⟨⟨(-104), (f, g, pa, tv, n, pd, pk, pv), rfl, (by show (((-104), (f, g, pa, tv, n, pd, pk, pv)) : _ × XSt) = xp3 (xCard f g k17 x y) pa tv n pd pk pv; first | (simp only [xp3, xCard, if_pos c_1, if_pos c_2, if_neg c_3]; done) | (simp only [xp3, xCard, if_pos c_1, if_pos c_2, if_neg c_3]; rfl) | rfl | (simp [xp3, xCard, if_pos c_1, if_pos c_2, if_neg c_3]; done)), by rw [ht]; exact hP9, va_K.moved hW.alike hK, hD⟩, hS.F ht⟩) hS.2.2 dX7_card_31
    · skip
      have c_2 := b2i_0 c_2
      refine lv_bipush (v := (-102)) hx hb dX7_card_14 (by decide +kernel) ?_
      have hP9 : va_P (dC, dI) vwCl (xW cI cP a o f g pa tv n pd pk pv) H := hP
      exact W.iret (v := (-102)) hx hb hr (fun t ht hW => ⟨⟨(-102), (f, g, pa, tv, n, pd, pk, pv), rfl, (by show (((-102), (f, g, pa, tv, n, pd, pk, pv)) : _ × XSt) = xp3 (xCard f g k17 x y) pa tv n pd pk pv; first | (simp only [xp3, xCard, if_pos c_1, if_neg c_2]; done) | (simp only [xp3, xCard, if_pos c_1, if_neg c_2]; rfl) | rfl | (simp [xp3, xCard, if_pos c_1, if_neg c_2]; done)), by rw [ht]; exact hP9, va_K.moved hW.alike hK, hD⟩, hS.F ht⟩) hS.2.2 dX7_card_16

set_option maxHeartbeats 1200000 in
set_option maxRecDepth 100000 in
theorem c7_ink (l : Launch) (dC : Nat → ClassId) (dI : Nat → Nat → Nat) (cI cP : ClassId) (a : Nat) (o : Nat → Nat) (f : Nat → Int32) (g : Nat → Nat → Int32) (pa : Nat → Option Nat) (tv : Nat → Nat → Int32) (n : Nat) (pd pk : Nat → Nat) (pv : Nat → Nat → Int32) (sz : Nat) {k8 : Nat} (e8 : f 8 = nI k8) (b8 : k8 ≤ 5) (x : Int32) : Met l yX7_ink wsX7_ink ({ frames := 1, cells := 0, slots := 0, locals := 20 } : Room) (va_Pc [.ref (a), .int (x)] (fun U => U.heap.size = sz ∧ va_P (dC, dI) vwCl (xW cI cP a o f g pa tv n pd pk pv) U.heap ∧ va_K (dC, dI) vwCl [(cI, .int), (cP, .object RX4)] U ∧ xN U ∧ va_D (fun _ => True) (xW cI cP a o f g pa tv n pd pk pv))) (va_Qi (fun (r : Int32) (u : XSt) => (r, u) = xp3 (xInkM f g k8 x) pa tv n pd pk pv) (xB dC dI cI cP a o (va_A (xW cI cP a o f g pa tv n pd pk pv) sz)) (va_A (xW cI cP a o f g pa tv n pd pk pv) sz)) 0 0 (va_A (xW cI cP a o f g pa tv n pd pk pv) sz) := by
  refine Met.ofW (cc := cX7_ink) (maxL := 2) (ret := (some .int)) (by decide) rfl ?_
  intro p_ e_ s m args below meth c_0 s₁ B hml hv
  obtain ⟨rfl, hsz, hP, hK, hN, hD0⟩ := hv
  have hx := B.exec
  have hb := B.bytes
  have hr := B.returns
  have hts := atoms_spec (ws := wsX7_ink) B.pre
  have hown : s.vm.findClass RX7 = some m.cls := findClass_of_methodNamed B.named
  have hlocks := B.notSynchronized
  subst hsz
  have hD := hD0.self (sz := s.heap.size)
  generalize hAe : va_A (xW cI cP a o f g pa tv n pd pk pv) s.heap.size = A at hD ⊢
  have hA : ∀ q : Nat, s.heap.size ≤ q → A q := fun q h => by rw [← hAe]; exact Or.inr h
  obtain ⟨H, hHe⟩ : ∃ H : Heap, H = s.heap := ⟨_, rfl⟩
  have hS : va_S A s.heap H [] := by rw [hHe]; exact va_S.rf
  rw [← hHe] at hP ⊢
  have hP : va_P (dC, dI) vwCl (xW cI cP a o f g pa tv n pd pk pv) H := hP
  have hl := lv_entry ([.ref (a), .int (x)]) (n := 2) (Nat.le_of_ble_eq_true rfl)
  rw [lg_entry_eq]
  generalize (lg_sl ([.ref (a), .int (x)]) ++ List.replicate (2 - (lg_sl ([.ref (a), .int (x)])).length) Slot.unset).toArray = ls at hl ⊢
  have hl : lv_has ls 2 [(0, .ref (a)), (1, .int (x))] := hl
  have hin7 : ∀ w ∈ wsX70, w ∈ wsX7_ink := fun _ h => List.mem_cons_of_mem _ (List.mem_append_right _ h)
  have hW0 := hts (.fieldLink RX7 39 "EachEye" "theSign" "I") (by decide +kernel)
  have hW1 := hts (.fieldLink RX7 70 "EachEye" "inkCount" "I") (by decide +kernel)
  have hW2 := hts (.fieldLink RX7 22 "EachEye" "inks" "[I") (by decide +kernel)
  refine lv_iload_n hx hb dX7_ink_0 rfl (lv_at hl 1 rfl) ?_
  refine vp_callSi (va_Run.run (va_runS (As := [.int (x)]) (rest := []) ⟨hx, hb, hml, hown, hts⟩ (c7_isHue l (x)) (va_cwS 1 hts gX7_ink_X7_isHue rfl rfl rfl (by decide +kernel) ⟨Nat.le_of_ble_eq_true rfl, Nat.le_of_ble_eq_true rfl⟩) ⟨fun _ _ _ _ q => q, fun U hU hW => ⟨rfl, trivial⟩⟩ rfl rfl hl.1 rfl (lv_room (Nat.le_of_ble_eq_true rfl)) dX7_ink_1 ⟨Nat.le_of_ble_eq_true rfl, Nat.le_of_ble_eq_true rfl⟩)) (fun r hrc => ?_)
  have hrc : r = b2i (0 ≤ (x).toInt ∧ (x).toInt ≤ 7) := hrc
  subst hrc
  refine lv_if_eq (tgt := 11) hx hb dX7_ink_4 (by decide) (fun c_1 => ?_) (fun c_1 => ?_)
  · skip
    have c_1 := b2i_0 c_1
    refine lv_bipush (v := (-102)) hx hb dX7_ink_11 (by decide +kernel) ?_
    have hP9 : va_P (dC, dI) vwCl (xW cI cP a o f g pa tv n pd pk pv) H := hP
    exact W.iret (v := (-102)) hx hb hr (fun t ht hW => ⟨⟨(-102), (f, g, pa, tv, n, pd, pk, pv), rfl, (by show (((-102), (f, g, pa, tv, n, pd, pk, pv)) : _ × XSt) = xp3 (xInkM f g k8 x) pa tv n pd pk pv; first | (simp only [xp3, xInkM, if_neg c_1]; done) | (simp only [xp3, xInkM, if_neg c_1]; rfl) | rfl | (simp [xp3, xInkM, if_neg c_1]; done)), by rw [ht]; exact hP9, va_K.moved hW.alike hK, hD⟩, hS.F ht⟩) hS.2.2 dX7_ink_13
  · skip
    have c_1 := b2i_1 c_1
    refine lv_iload_n hx hb dX7_ink_7 rfl (lv_at hl 1 rfl) ?_
    refine lv_if_ne (tgt := 14) hx hb dX7_ink_8 (by decide) (fun c_2 => ?_) (fun c_2 => ?_)
    · skip
      have c_2 : ¬ (x) = nI 0 := c_2
      refine lv_aload_n hx hb dX7_ink_14 rfl (lv_at hl 0 rfl) ?_
      refine va_get (D := (dC, dI)) (ci := 7) (v := .int (f 6)) (C := RX7) (T := TX7) (N := 16) hx hb hts hin7 hown hK hP 0 rfl rfl 6 (by decide) hW0 (fun _ h9 => h9) rfl dX7_ink_15 ?_
      refine lv_iconst (v := (-1)) hx hb dX7_ink_18 (by decide +kernel) ?_
      refine lv_icmp_ne (tgt := 25) hx hb dX7_ink_19 (by decide) (fun c_3 => ?_) (fun c_3 => ?_)
      · skip
        refine lv_aload_n hx hb dX7_ink_25 rfl (lv_at hl 0 rfl) ?_
        refine va_get (D := (dC, dI)) (ci := 7) (v := .int (nI (k8))) (C := RX7) (T := TX7) (N := 16) hx hb hts hin7 hown hK hP 0 rfl rfl 8 (by decide) hW1 (fun _ h9 => h9) (congrArg (fun z => some (Value.int z)) e8) dX7_ink_26 ?_
        refine lv_iconst (v := nI (5)) hx hb dX7_ink_29 (by decide +kernel) ?_
        refine lv_icmp_lt (tgt := 36) hx hb dX7_ink_30 (by decide) (fun c_4 => ?_) (fun c_4 => ?_)
        · skip
          rw [nI_ltI (a := k8) (b := 5) (by omega) (by omega)] at c_4
          refine lv_aload_n hx hb dX7_ink_36 rfl (lv_at hl 0 rfl) ?_
          refine va_get (D := (dC, dI)) (ci := 7) (v := .ref (o 2)) (C := RX7) (T := TX7) (N := 16) hx hb hts hin7 hown hK hP 0 rfl rfl 2 (by decide) hW2 (fun _ h9 => h9) rfl dX7_ink_37 ?_
          refine lv_aload_n hx hb dX7_ink_40 rfl (lv_at hl 0 rfl) ?_
          refine va_get (D := (dC, dI)) (ci := 7) (v := .int (nI (k8))) (C := RX7) (T := TX7) (N := 16) hx hb hts hin7 hown hK hP 0 rfl rfl 8 (by decide) hW1 (fun _ h9 => h9) (congrArg (fun z => some (Value.int z)) e8) dX7_ink_41 ?_
          refine lv_iload_n hx hb dX7_ink_44 rfl (lv_at hl 1 rfl) ?_
          refine ast hx hb hK hP hD hS (f := g 1) (k := k8) 4 0 rfl rfl rfl (by omega) (by decide) dX7_ink_45 (fun H locs hP hD hS => ?_)
          have hP : va_P (dC, dI) vwCl (xW cI cP a o f (su g 1 (su (g 1) (k8) (x))) pa tv n pd pk pv) H := hP
          have hD : va_D A (xW cI cP a o f (su g 1 (su (g 1) (k8) (x))) pa tv n pd pk pv) := hD
          refine lv_aload_n hx hb dX7_ink_46 rfl (lv_at hl 0 rfl) ?_
          refine lv_dup hx hb dX7_ink_47 rfl ?_
          refine va_get (D := (dC, dI)) (ci := 7) (v := .int (nI (k8))) (C := RX7) (T := TX7) (N := 16) hx hb hts hin7 hown hK hP 0 rfl rfl 8 (by decide) hW1 (fun _ h9 => h9) (congrArg (fun z => some (Value.int z)) e8) dX7_ink_48 ?_
          refine lv_iconst (v := nI (1)) hx hb dX7_ink_51 (by decide +kernel) ?_
          refine lv_iadd hx hb dX7_ink_52 ?_
          refine tq (nI_add (k8) (1)) ?_
          refine va_put (D := (dC, dI)) (ci := 7) (v := .int (nI (k8 + 1))) (ty := .int) (C := RX7) (T := TX7) (N := 16) hx hb hts hin7 tyX7 tyX7_ok nmX7 hown hK hP hD hS 0 rfl rfl 8 (by decide) hW1 (fun _ h9 => h9) rfl (by decide +kernel) rfl rfl (Nat.le_of_ble_eq_true rfl) dX7_ink_53 (fun H locs hP hD hS => ?_)
          have hP : va_P (dC, dI) vwCl (xW cI cP a o (su f 8 (nI (k8 + 1))) (su g 1 (su (g 1) (k8) (x))) pa tv n pd pk pv) H := hP
          have hD : va_D A (xW cI cP a o (su f 8 (nI (k8 + 1))) (su g 1 (su (g 1) (k8) (x))) pa tv n pd pk pv) := hD
          refine lv_aload_n hx hb dX7_ink_56 rfl (lv_at hl 0 rfl) ?_
          refine va_get (D := (dC, dI)) (ci := 7) (v := .int (nI (k8 + 1))) (C := RX7) (T := TX7) (N := 16) hx hb hts hin7 hown hK hP 0 rfl rfl 8 (by decide) hW1 (fun _ h9 => h9) rfl dX7_ink_57 ?_
          refine lv_iconst (v := nI (1)) hx hb dX7_ink_60 (by decide +kernel) ?_
          refine lv_isub hx hb dX7_ink_61 ?_
          refine tq (pk_sub (a := k8 + 1) (b := 1) (by omega)) ?_
          have hP9 : va_P (dC, dI) vwCl (xW cI cP a o (su f 8 (nI (k8 + 1))) (su g 1 (su (g 1) (k8) (x))) pa tv n pd pk pv) H := hP
          exact W.iret (v := nI ((k8 + 1) - 1)) hx hb hr (fun t ht hW => ⟨⟨nI ((k8 + 1) - 1), (su f 8 (nI (k8 + 1)), su g 1 (su (g 1) (k8) (x)), pa, tv, n, pd, pk, pv), rfl, (by show ((nI ((k8 + 1) - 1), (su f 8 (nI (k8 + 1)), su g 1 (su (g 1) (k8) (x)), pa, tv, n, pd, pk, pv)) : _ × XSt) = xp3 (xInkM f g k8 x) pa tv n pd pk pv; first | (simp only [xp3, xInkM, if_pos c_1, if_neg c_2, if_neg c_3, if_pos c_4]; done) | (simp only [xp3, xInkM, if_pos c_1, if_neg c_2, if_neg c_3, if_pos c_4]; rfl) | rfl | (simp [xp3, xInkM, if_pos c_1, if_neg c_2, if_neg c_3, if_pos c_4]; done)), by rw [ht]; exact hP9, va_K.moved hW.alike hK, hD⟩, hS.F ht⟩) hS.2.2 dX7_ink_62
        · skip
          rw [nI_ltI (a := k8) (b := 5) (by omega) (by omega)] at c_4
          refine lv_bipush (v := (-104)) hx hb dX7_ink_33 (by decide +kernel) ?_
          have hP9 : va_P (dC, dI) vwCl (xW cI cP a o f g pa tv n pd pk pv) H := hP
          exact W.iret (v := (-104)) hx hb hr (fun t ht hW => ⟨⟨(-104), (f, g, pa, tv, n, pd, pk, pv), rfl, (by show (((-104), (f, g, pa, tv, n, pd, pk, pv)) : _ × XSt) = xp3 (xInkM f g k8 x) pa tv n pd pk pv; first | (simp only [xp3, xInkM, if_pos c_1, if_neg c_2, if_neg c_3, if_neg c_4]; done) | (simp only [xp3, xInkM, if_pos c_1, if_neg c_2, if_neg c_3, if_neg c_4]; rfl) | rfl | (simp [xp3, xInkM, if_pos c_1, if_neg c_2, if_neg c_3, if_neg c_4]; done)), by rw [ht]; exact hP9, va_K.moved hW.alike hK, hD⟩, hS.F ht⟩) hS.2.2 dX7_ink_35
      · skip
        refine lv_bipush (v := (-103)) hx hb dX7_ink_22 (by decide +kernel) ?_
        have hP9 : va_P (dC, dI) vwCl (xW cI cP a o f g pa tv n pd pk pv) H := hP
        exact W.iret (v := (-103)) hx hb hr (fun t ht hW => ⟨⟨(-103), (f, g, pa, tv, n, pd, pk, pv), rfl, (by show (((-103), (f, g, pa, tv, n, pd, pk, pv)) : _ × XSt) = xp3 (xInkM f g k8 x) pa tv n pd pk pv; first | (simp only [xp3, xInkM, if_pos c_1, if_neg c_2, if_pos c_3]; done) | (simp only [xp3, xInkM, if_pos c_1, if_neg c_2, if_pos c_3]; rfl) | rfl | (simp [xp3, xInkM, if_pos c_1, if_neg c_2, if_pos c_3]; done)), by rw [ht]; exact hP9, va_K.moved hW.alike hK, hD⟩, hS.F ht⟩) hS.2.2 dX7_ink_24
    · skip
      have c_2 : (x) = nI 0 := c_2
      refine lv_bipush (v := (-102)) hx hb dX7_ink_11 (by decide +kernel) ?_
      have hP9 : va_P (dC, dI) vwCl (xW cI cP a o f g pa tv n pd pk pv) H := hP
      exact W.iret (v := (-102)) hx hb hr (fun t ht hW => ⟨⟨(-102), (f, g, pa, tv, n, pd, pk, pv), rfl, (by show (((-102), (f, g, pa, tv, n, pd, pk, pv)) : _ × XSt) = xp3 (xInkM f g k8 x) pa tv n pd pk pv; first | (simp only [xp3, xInkM, if_pos c_1, if_pos c_2]; done) | (simp only [xp3, xInkM, if_pos c_1, if_pos c_2]; rfl) | rfl | (simp [xp3, xInkM, if_pos c_1, if_pos c_2]; done)), by rw [ht]; exact hP9, va_K.moved hW.alike hK, hD⟩, hS.F ht⟩) hS.2.2 dX7_ink_13

set_option maxHeartbeats 1200000 in
set_option maxRecDepth 100000 in
theorem c7_eye (l : Launch) (dC : Nat → ClassId) (dI : Nat → Nat → Nat) (cI cP : ClassId) (a : Nat) (o : Nat → Nat) (f : Nat → Int32) (g : Nat → Nat → Int32) (pa : Nat → Option Nat) (tv : Nat → Nat → Int32) (n : Nat) (pd pk : Nat → Nat) (pv : Nat → Nat → Int32) (sz : Nat) (e7 : f 7 = nI n) (b7 : n ≤ 4) (hpa : ∀ i, i < n → pa i = some (pd i)) (hpk : ∀ i, i < n → pk i < 5) (x : Int32) (y : Int32) (z : Int32) : Met l yX7_eye wsX7_eye ({ frames := 1, cells := 0, slots := 0, locals := 21 } : Room) (va_Pc [.ref (a), .int (x), .int (y), .int (z)] (fun U => U.heap.size = sz ∧ va_P (dC, dI) vwCl (xW cI cP a o f g pa tv n pd pk pv) U.heap ∧ va_K (dC, dI) vwCl [(cI, .int), (cP, .object RX4)] U ∧ xN U ∧ va_D (fun _ => True) (xW cI cP a o f g pa tv n pd pk pv))) (va_Qi (fun (r : Int32) (u : XSt) => (r, u) = ((xEye pv n x y z).1, f, g, pa, tv, n, pd, pk, (xEye pv n x y z).2)) (xB dC dI cI cP a o (va_A (xW cI cP a o f g pa tv n pd pk pv) sz)) (va_A (xW cI cP a o f g pa tv n pd pk pv) sz)) 0 0 (va_A (xW cI cP a o f g pa tv n pd pk pv) sz) := by
  refine Met.ofW (cc := cX7_eye) (maxL := 6) (ret := (some .int)) (by decide) rfl ?_
  intro p_ e_ s m args below meth c_0 s₁ B hml hv
  obtain ⟨rfl, hsz, hP, hK, hN, hD0⟩ := hv
  have hx := B.exec
  have hb := B.bytes
  have hr := B.returns
  have hts := atoms_spec (ws := wsX7_eye) B.pre
  have hown : s.vm.findClass RX7 = some m.cls := findClass_of_methodNamed B.named
  have hlocks := B.notSynchronized
  subst hsz
  have hD := hD0.self (sz := s.heap.size)
  generalize hAe : va_A (xW cI cP a o f g pa tv n pd pk pv) s.heap.size = A at hD ⊢
  have hA : ∀ q : Nat, s.heap.size ≤ q → A q := fun q h => by rw [← hAe]; exact Or.inr h
  obtain ⟨H, hHe⟩ : ∃ H : Heap, H = s.heap := ⟨_, rfl⟩
  have hS : va_S A s.heap H [] := by rw [hHe]; exact va_S.rf
  rw [← hHe] at hP ⊢
  have hP : va_P (dC, dI) vwCl (xW cI cP a o f g pa tv n pd pk pv) H := hP
  have hl := lv_entry ([.ref (a), .int (x), .int (y), .int (z)]) (n := 6) (Nat.le_of_ble_eq_true rfl)
  rw [lg_entry_eq]
  generalize (lg_sl ([.ref (a), .int (x), .int (y), .int (z)]) ++ List.replicate (6 - (lg_sl ([.ref (a), .int (x), .int (y), .int (z)])).length) Slot.unset).toArray = ls at hl ⊢
  have hl : lv_has ls 6 [(0, .ref (a)), (1, .int (x)), (2, .int (y)), (3, .int (z))] := hl
  have hin0 : ∀ w ∈ wsX00, w ∈ wsX7_eye := fun _ h => List.mem_cons_of_mem _ (List.mem_append_left _ (List.mem_append_left _ (List.mem_append_left _ (List.mem_append_left _ (List.mem_append_left _ (List.mem_append_right _ h))))))
  have hin2 : ∀ w ∈ wsX20, w ∈ wsX7_eye := fun _ h => List.mem_cons_of_mem _ (List.mem_append_left _ (List.mem_append_left _ (List.mem_append_left _ (List.mem_append_left _ (List.mem_append_right _ h)))))
  have hin4 : ∀ w ∈ wsX40, w ∈ wsX7_eye := fun _ h => List.mem_cons_of_mem _ (List.mem_append_left _ (List.mem_append_left _ (List.mem_append_left _ (List.mem_append_right _ h))))
  have hin5 : ∀ w ∈ wsX50, w ∈ wsX7_eye := fun _ h => List.mem_cons_of_mem _ (List.mem_append_left _ (List.mem_append_left _ (List.mem_append_right _ h)))
  have hin6 : ∀ w ∈ wsX60, w ∈ wsX7_eye := fun _ h => List.mem_cons_of_mem _ (List.mem_append_left _ (List.mem_append_right _ h))
  have hW0 := hts (.fieldLink RX7 110 "EachEye$Person" "right" "I") (by decide +kernel)
  have hW1 := hts (.fieldLink RX7 107 "EachEye$Person" "left" "I") (by decide +kernel)
  refine lv_aload_n hx hb dX7_eye_0 rfl (lv_at hl 0 rfl) ?_
  refine lv_iload_n hx hb dX7_eye_1 rfl (lv_at hl 1 rfl) ?_
  refine va_csq (va_Run.run (va_runV (As := [.int (x)]) (rest := []) ⟨hx, hb, hml, hown, hts⟩ (c7_known l dC dI cI cP a o f g pa tv n pd pk pv e7 (by omega) hpa hpk (x) ) (cwV 1 hts gX7_eye_X7_known rfl rfl rfl (by decide +kernel) ⟨Nat.le_of_ble_eq_true rfl, Nat.le_of_ble_eq_true rfl⟩) ⟨fun a U g mk q => ⟨q.1, q.2.1, va_K.moved (u := U) (U := U.calling g mk a) (Vm.Alike.refl U.vm) q.2.2.1, xN.same (u := U) (U := U.calling g mk a) rfl q.2.2.2⟩, va_recv hK hP (ci := 7) (q0 := 0) rfl rfl, fun U hU hW => ⟨rfl, by rw [hU]; exact hP, va_K.moved hW.alike hK, xN.warm hW hN⟩⟩ rfl rfl hl.1 rfl (lv_room (Nat.le_of_ble_eq_true rfl)) dX7_eye_2 ⟨Nat.le_of_ble_eq_true rfl, Nat.le_of_ble_eq_true rfl⟩)) (fun r hrc => ?_)
  have hrc : r = xKn n pd (x) := hrc
  subst hrc
  by_cases h_1 : 0 ≤ (x).toInt ∧ (x).toInt < (n : Int)
  · skip
    refine rf_s (xKn_s h_1) ?_
    refine lv_astore (lv' := [(4, .ref (pd (x.toInt.toNat))), (0, .ref (a)), (1, .int (x)), (2, .int (y)), (3, .int (z))]) hx hb dX7_eye_5 hl (by decide) rfl (fun ls hl => ?_)
    refine lv_aload hx hb dX7_eye_7 (lv_at hl 0 rfl) ?_
    refine lv_ifnonnull (tgt := 15) hx hb dX7_eye_9 (by decide) ?_
    refine lv_iload_n hx hb dX7_eye_15 rfl (lv_at hl 3 rfl) ?_
    refine lv_if_lt (tgt := 31) hx hb dX7_eye_16 (by decide) (fun c_2 => ?_) (fun c_2 => ?_)
    · skip
      rw [lti, show (0 : Int32).toInt = 0 from rfl] at c_2
      refine lv_bipush (v := (-102)) hx hb dX7_eye_31 (by decide +kernel) ?_
      have hP9 : va_P (dC, dI) vwCl (xW cI cP a o f g pa tv n pd pk pv) H := hP
      exact W.iret (v := (-102)) hx hb hr (fun t ht hW => ⟨⟨(-102), (f, g, pa, tv, n, pd, pk, pv), rfl, (by show (((-102), (f, g, pa, tv, n, pd, pk, pv)) : _ × XSt) = ((xEye pv n x y z).1, f, g, pa, tv, n, pd, pk, (xEye pv n x y z).2); first | (simp only [xEye, xOk, if_pos h_1, if_pos c_2]; done) | (simp only [xEye, xOk, if_pos h_1, if_pos c_2]; rfl) | rfl | (simp [xEye, xOk, if_pos h_1, if_pos c_2]; done)), by rw [ht]; exact hP9, va_K.moved hW.alike hK, hD⟩, hS.F ht⟩) hS.2.2 dX7_eye_33
    · skip
      rw [lti, show (0 : Int32).toInt = 0 from rfl] at c_2
      refine lv_iload_n hx hb dX7_eye_19 rfl (lv_at hl 3 rfl) ?_
      refine lv_iconst (v := nI (1)) hx hb dX7_eye_20 (by decide +kernel) ?_
      refine lv_icmp_gt (tgt := 31) hx hb dX7_eye_21 (by decide) (fun c_3 => ?_) (fun c_3 => ?_)
      · skip
        rw [lti, tn (n := 1) (by omega)] at c_3
        refine lv_bipush (v := (-102)) hx hb dX7_eye_31 (by decide +kernel) ?_
        have hP9 : va_P (dC, dI) vwCl (xW cI cP a o f g pa tv n pd pk pv) H := hP
        exact W.iret (v := (-102)) hx hb hr (fun t ht hW => ⟨⟨(-102), (f, g, pa, tv, n, pd, pk, pv), rfl, (by show (((-102), (f, g, pa, tv, n, pd, pk, pv)) : _ × XSt) = ((xEye pv n x y z).1, f, g, pa, tv, n, pd, pk, (xEye pv n x y z).2); first | (simp only [xEye, xOk, if_pos h_1, if_neg c_2, if_pos c_3]; done) | (simp only [xEye, xOk, if_pos h_1, if_neg c_2, if_pos c_3]; rfl) | rfl | (simp [xEye, xOk, if_pos h_1, if_neg c_2, if_pos c_3]; done)), by rw [ht]; exact hP9, va_K.moved hW.alike hK, hD⟩, hS.F ht⟩) hS.2.2 dX7_eye_33
      · skip
        rw [lti, tn (n := 1) (by omega)] at c_3
        refine lv_iload_n hx hb dX7_eye_24 rfl (lv_at hl 4 rfl) ?_
        refine vp_callSi (va_Run.run (va_runS (As := [.int (z)]) (rest := []) ⟨hx, hb, hml, hown, hts⟩ (c7_isHue l (z)) (va_cwS 1 hts gX7_eye_X7_isHue rfl rfl rfl (by decide +kernel) ⟨Nat.le_of_ble_eq_true rfl, Nat.le_of_ble_eq_true rfl⟩) ⟨fun _ _ _ _ q => q, fun U hU hW => ⟨rfl, trivial⟩⟩ rfl rfl hl.1 rfl (lv_room (Nat.le_of_ble_eq_true rfl)) dX7_eye_25 ⟨Nat.le_of_ble_eq_true rfl, Nat.le_of_ble_eq_true rfl⟩)) (fun r hrc => ?_)
        have hrc : r = b2i (0 ≤ (z).toInt ∧ (z).toInt ≤ 7) := hrc
        subst hrc
        refine lv_if_ne (tgt := 34) hx hb dX7_eye_28 (by decide) (fun c_4 => ?_) (fun c_4 => ?_)
        · skip
          have c_4 := b2i_1 c_4
          refine lv_iload_n hx hb dX7_eye_34 rfl (lv_at hl 3 rfl) ?_
          refine lv_if_ne (tgt := 46) hx hb dX7_eye_35 (by decide) (fun c_5 => ?_) (fun c_5 => ?_)
          · skip
            have c_5 : ¬ (y) = nI 0 := c_5
            refine lv_aload hx hb dX7_eye_46 (lv_at hl 0 rfl) ?_
            refine pe_get hx hb hts hin0 hin2 hin4 hin5 hin6 hown hK hP (17 + (x.toInt.toNat)) (hpk _ (by omega)) (xw_p (by omega)) 1 (by decide) hW0 dX7_eye_48 ?_
            refine lv_istore (lv' := [(5, .int (pv (x.toInt.toNat) 1)), (4, .ref (pd (x.toInt.toNat))), (0, .ref (a)), (1, .int (x)), (2, .int (y)), (3, .int (z))]) hx hb dX7_eye_51 hl (by decide) rfl (fun ls hl => ?_)
            refine lv_iload_n hx hb dX7_eye_53 rfl (lv_at hl 4 rfl) ?_
            refine lv_if_ne (tgt := 66) hx hb dX7_eye_54 (by decide) (fun c_6 => ?_) (fun c_6 => ?_)
            · skip
              have c_6 : ¬ (y) = nI 0 := c_6
              refine lv_aload hx hb dX7_eye_66 (lv_at hl 1 rfl) ?_
              refine lv_iload_n hx hb dX7_eye_68 rfl (lv_at hl 5 rfl) ?_
              refine pe_put hx hb hts hin0 hin2 hin4 hin5 hin6 hown hK hP hD hS (17 + (x.toInt.toNat)) (hpk _ (by omega)) (xw_p (by omega)) 1 (by decide) hW0 dX7_eye_69 (fun H locs hP hD hS => ?_)
              rw [xw_setp (by omega)] at hP hD
              have hP : va_P (dC, dI) vwCl (xW cI cP a o f g pa tv n pd pk (su pv (x.toInt.toNat) (su (pv (x.toInt.toNat)) 1 (z)))) H := hP
              have hD : va_D A (xW cI cP a o f g pa tv n pd pk (su pv (x.toInt.toNat) (su (pv (x.toInt.toNat)) 1 (z)))) := hD
              refine lv_iload hx hb dX7_eye_72 (lv_at hl 0 rfl) ?_
              have hP9 : va_P (dC, dI) vwCl (xW cI cP a o f g pa tv n pd pk (su pv (x.toInt.toNat) (su (pv (x.toInt.toNat)) 1 (z)))) H := hP
              exact W.iret (v := pv (x.toInt.toNat) 1) hx hb hr (fun t ht hW => ⟨⟨pv (x.toInt.toNat) 1, (f, g, pa, tv, n, pd, pk, su pv (x.toInt.toNat) (su (pv (x.toInt.toNat)) 1 (z))), rfl, (by show ((pv (x.toInt.toNat) 1, (f, g, pa, tv, n, pd, pk, su pv (x.toInt.toNat) (su (pv (x.toInt.toNat)) 1 (z)))) : _ × XSt) = ((xEye pv n x y z).1, f, g, pa, tv, n, pd, pk, (xEye pv n x y z).2); first | (simp only [xEye, xOk, if_pos h_1, if_neg c_2, if_neg c_3, if_pos c_4, if_neg c_5, if_neg c_6]; done) | (simp only [xEye, xOk, if_pos h_1, if_neg c_2, if_neg c_3, if_pos c_4, if_neg c_5, if_neg c_6]; rfl) | rfl | (simp [xEye, xOk, if_pos h_1, if_neg c_2, if_neg c_3, if_pos c_4, if_neg c_5, if_neg c_6]; done)), by rw [ht]; exact hP9, va_K.moved hW.alike hK, hD⟩, hS.F ht⟩) hS.2.2 dX7_eye_74
            · skip
              have c_6 : (y) = nI 0 := c_6
              exact absurd c_6 c_5
          · skip
            have c_5 : (y) = nI 0 := c_5
            refine lv_aload hx hb dX7_eye_38 (lv_at hl 0 rfl) ?_
            refine pe_get hx hb hts hin0 hin2 hin4 hin5 hin6 hown hK hP (17 + (x.toInt.toNat)) (hpk _ (by omega)) (xw_p (by omega)) 0 (by decide) hW1 dX7_eye_40 ?_
            refine lv_goto (tgt := 51) hx hb dX7_eye_43 (by decide) ?_
            refine lv_istore (lv' := [(5, .int (pv (x.toInt.toNat) 0)), (4, .ref (pd (x.toInt.toNat))), (0, .ref (a)), (1, .int (x)), (2, .int (y)), (3, .int (z))]) hx hb dX7_eye_51 hl (by decide) rfl (fun ls hl => ?_)
            refine lv_iload_n hx hb dX7_eye_53 rfl (lv_at hl 4 rfl) ?_
            refine lv_if_ne (tgt := 66) hx hb dX7_eye_54 (by decide) (fun c_7 => ?_) (fun c_7 => ?_)
            · skip
              have c_7 : ¬ (y) = nI 0 := c_7
              exact absurd c_5 c_7
            · skip
              have c_7 : (y) = nI 0 := c_7
              refine lv_aload hx hb dX7_eye_57 (lv_at hl 1 rfl) ?_
              refine lv_iload_n hx hb dX7_eye_59 rfl (lv_at hl 5 rfl) ?_
              refine pe_put hx hb hts hin0 hin2 hin4 hin5 hin6 hown hK hP hD hS (17 + (x.toInt.toNat)) (hpk _ (by omega)) (xw_p (by omega)) 0 (by decide) hW1 dX7_eye_60 (fun H locs hP hD hS => ?_)
              rw [xw_setp (by omega)] at hP hD
              have hP : va_P (dC, dI) vwCl (xW cI cP a o f g pa tv n pd pk (su pv (x.toInt.toNat) (su (pv (x.toInt.toNat)) 0 (z)))) H := hP
              have hD : va_D A (xW cI cP a o f g pa tv n pd pk (su pv (x.toInt.toNat) (su (pv (x.toInt.toNat)) 0 (z)))) := hD
              refine lv_goto (tgt := 72) hx hb dX7_eye_63 (by decide) ?_
              refine lv_iload hx hb dX7_eye_72 (lv_at hl 0 rfl) ?_
              have hP9 : va_P (dC, dI) vwCl (xW cI cP a o f g pa tv n pd pk (su pv (x.toInt.toNat) (su (pv (x.toInt.toNat)) 0 (z)))) H := hP
              exact W.iret (v := pv (x.toInt.toNat) 0) hx hb hr (fun t ht hW => ⟨⟨pv (x.toInt.toNat) 0, (f, g, pa, tv, n, pd, pk, su pv (x.toInt.toNat) (su (pv (x.toInt.toNat)) 0 (z))), rfl, (by show ((pv (x.toInt.toNat) 0, (f, g, pa, tv, n, pd, pk, su pv (x.toInt.toNat) (su (pv (x.toInt.toNat)) 0 (z)))) : _ × XSt) = ((xEye pv n x y z).1, f, g, pa, tv, n, pd, pk, (xEye pv n x y z).2); first | (simp only [xEye, xOk, if_pos h_1, if_neg c_2, if_neg c_3, if_pos c_4, if_pos c_5, if_pos c_7]; done) | (simp only [xEye, xOk, if_pos h_1, if_neg c_2, if_neg c_3, if_pos c_4, if_pos c_5, if_pos c_7]; rfl) | rfl | (simp [xEye, xOk, if_pos h_1, if_neg c_2, if_neg c_3, if_pos c_4, if_pos c_5, if_pos c_7]; done)), by rw [ht]; exact hP9, va_K.moved hW.alike hK, hD⟩, hS.F ht⟩) hS.2.2 dX7_eye_74
        · skip
          have c_4 := b2i_0 c_4
          refine lv_bipush (v := (-102)) hx hb dX7_eye_31 (by decide +kernel) ?_
          have hP9 : va_P (dC, dI) vwCl (xW cI cP a o f g pa tv n pd pk pv) H := hP
          exact W.iret (v := (-102)) hx hb hr (fun t ht hW => ⟨⟨(-102), (f, g, pa, tv, n, pd, pk, pv), rfl, (by show (((-102), (f, g, pa, tv, n, pd, pk, pv)) : _ × XSt) = ((xEye pv n x y z).1, f, g, pa, tv, n, pd, pk, (xEye pv n x y z).2); first | (simp only [xEye, xOk, if_pos h_1, if_neg c_2, if_neg c_3, if_neg c_4]; done) | (simp only [xEye, xOk, if_pos h_1, if_neg c_2, if_neg c_3, if_neg c_4]; rfl) | rfl | (simp [xEye, xOk, if_pos h_1, if_neg c_2, if_neg c_3, if_neg c_4]; done)), by rw [ht]; exact hP9, va_K.moved hW.alike hK, hD⟩, hS.F ht⟩) hS.2.2 dX7_eye_33
  · skip
    refine rf_n (xKn_n h_1) ?_
    refine lv_astoreN (lv' := [(4, .null), (0, .ref (a)), (1, .int (x)), (2, .int (y)), (3, .int (z))]) hx hb dX7_eye_5 hl (by decide) rfl (fun ls hl => ?_)
    refine lv_aloadN hx hb dX7_eye_7 (lv_at hl 0 rfl) ?_
    refine lv_ifnonnullN hx hb dX7_eye_9 ?_
    refine lv_bipush (v := (-101)) hx hb dX7_eye_12 (by decide +kernel) ?_
    have hP9 : va_P (dC, dI) vwCl (xW cI cP a o f g pa tv n pd pk pv) H := hP
    exact W.iret (v := (-101)) hx hb hr (fun t ht hW => ⟨⟨(-101), (f, g, pa, tv, n, pd, pk, pv), rfl, (by show (((-101), (f, g, pa, tv, n, pd, pk, pv)) : _ × XSt) = ((xEye pv n x y z).1, f, g, pa, tv, n, pd, pk, (xEye pv n x y z).2); first | (simp only [xEye, xOk, if_neg h_1]; done) | (simp only [xEye, xOk, if_neg h_1]; rfl) | rfl | (simp [xEye, xOk, if_neg h_1]; done)), by rw [ht]; exact hP9, va_K.moved hW.alike hK, hD⟩, hS.F ht⟩) hS.2.2 dX7_eye_14

set_option maxHeartbeats 1200000 in
set_option maxRecDepth 100000 in
theorem c7_unword (l : Launch) (dC : Nat → ClassId) (dI : Nat → Nat → Nat) (cI cP : ClassId) (a : Nat) (o : Nat → Nat) (f : Nat → Int32) (g : Nat → Nat → Int32) (pa : Nat → Option Nat) (tv : Nat → Nat → Int32) (n : Nat) (pd pk : Nat → Nat) (pv : Nat → Nat → Int32) (sz : Nat) (e7 : f 7 = nI n) (b7 : n ≤ 4) (hpa : ∀ i, i < n → pa i = some (pd i)) (hpk : ∀ i, i < n → pk i < 5) (x : Int32) : Met l yX7_unword wsX7_unword ({ frames := 1, cells := 0, slots := 0, locals := 21 } : Room) (va_Pc [.ref (a), .int (x)] (fun U => U.heap.size = sz ∧ va_P (dC, dI) vwCl (xW cI cP a o f g pa tv n pd pk pv) U.heap ∧ va_K (dC, dI) vwCl [(cI, .int), (cP, .object RX4)] U ∧ xN U ∧ va_D (fun _ => True) (xW cI cP a o f g pa tv n pd pk pv))) (va_Qi (fun (r : Int32) (u : XSt) => (r, u) = ((xUnword pv n x).1, f, g, pa, tv, n, pd, pk, (xUnword pv n x).2)) (xB dC dI cI cP a o (va_A (xW cI cP a o f g pa tv n pd pk pv) sz)) (va_A (xW cI cP a o f g pa tv n pd pk pv) sz)) 0 0 (va_A (xW cI cP a o f g pa tv n pd pk pv) sz) := by
  refine Met.ofW (cc := cX7_unword) (maxL := 4) (ret := (some .int)) (by decide) rfl ?_
  intro p_ e_ s m args below meth c_0 s₁ B hml hv
  obtain ⟨rfl, hsz, hP, hK, hN, hD0⟩ := hv
  have hx := B.exec
  have hb := B.bytes
  have hr := B.returns
  have hts := atoms_spec (ws := wsX7_unword) B.pre
  have hown : s.vm.findClass RX7 = some m.cls := findClass_of_methodNamed B.named
  have hlocks := B.notSynchronized
  subst hsz
  have hD := hD0.self (sz := s.heap.size)
  generalize hAe : va_A (xW cI cP a o f g pa tv n pd pk pv) s.heap.size = A at hD ⊢
  have hA : ∀ q : Nat, s.heap.size ≤ q → A q := fun q h => by rw [← hAe]; exact Or.inr h
  obtain ⟨H, hHe⟩ : ∃ H : Heap, H = s.heap := ⟨_, rfl⟩
  have hS : va_S A s.heap H [] := by rw [hHe]; exact va_S.rf
  rw [← hHe] at hP ⊢
  have hP : va_P (dC, dI) vwCl (xW cI cP a o f g pa tv n pd pk pv) H := hP
  have hl := lv_entry ([.ref (a), .int (x)]) (n := 4) (Nat.le_of_ble_eq_true rfl)
  rw [lg_entry_eq]
  generalize (lg_sl ([.ref (a), .int (x)]) ++ List.replicate (4 - (lg_sl ([.ref (a), .int (x)])).length) Slot.unset).toArray = ls at hl ⊢
  have hl : lv_has ls 4 [(0, .ref (a)), (1, .int (x))] := hl
  have hin0 : ∀ w ∈ wsX00, w ∈ wsX7_unword := fun _ h => List.mem_cons_of_mem _ (List.mem_append_left _ (List.mem_append_left _ (List.mem_append_left _ (List.mem_append_left _ (List.mem_append_left _ (List.mem_append_right _ h))))))
  have hin2 : ∀ w ∈ wsX20, w ∈ wsX7_unword := fun _ h => List.mem_cons_of_mem _ (List.mem_append_left _ (List.mem_append_left _ (List.mem_append_left _ (List.mem_append_left _ (List.mem_append_right _ h)))))
  have hin4 : ∀ w ∈ wsX40, w ∈ wsX7_unword := fun _ h => List.mem_cons_of_mem _ (List.mem_append_left _ (List.mem_append_left _ (List.mem_append_left _ (List.mem_append_right _ h))))
  have hin5 : ∀ w ∈ wsX50, w ∈ wsX7_unword := fun _ h => List.mem_cons_of_mem _ (List.mem_append_left _ (List.mem_append_left _ (List.mem_append_right _ h)))
  have hin6 : ∀ w ∈ wsX60, w ∈ wsX7_unword := fun _ h => List.mem_cons_of_mem _ (List.mem_append_left _ (List.mem_append_right _ h))
  have hW0 := hts (.fieldLink RX7 120 "EachEye$Person" "told" "I") (by decide +kernel)
  refine lv_aload_n hx hb dX7_unword_0 rfl (lv_at hl 0 rfl) ?_
  refine lv_iload_n hx hb dX7_unword_1 rfl (lv_at hl 1 rfl) ?_
  refine va_csq (va_Run.run (va_runV (As := [.int (x)]) (rest := []) ⟨hx, hb, hml, hown, hts⟩ (c7_known l dC dI cI cP a o f g pa tv n pd pk pv e7 (by omega) hpa hpk (x) ) (cwV 1 hts gX7_unword_X7_known rfl rfl rfl (by decide +kernel) ⟨Nat.le_of_ble_eq_true rfl, Nat.le_of_ble_eq_true rfl⟩) ⟨fun a U g mk q => ⟨q.1, q.2.1, va_K.moved (u := U) (U := U.calling g mk a) (Vm.Alike.refl U.vm) q.2.2.1, xN.same (u := U) (U := U.calling g mk a) rfl q.2.2.2⟩, va_recv hK hP (ci := 7) (q0 := 0) rfl rfl, fun U hU hW => ⟨rfl, by rw [hU]; exact hP, va_K.moved hW.alike hK, xN.warm hW hN⟩⟩ rfl rfl hl.1 rfl (lv_room (Nat.le_of_ble_eq_true rfl)) dX7_unword_2 ⟨Nat.le_of_ble_eq_true rfl, Nat.le_of_ble_eq_true rfl⟩)) (fun r hrc => ?_)
  have hrc : r = xKn n pd (x) := hrc
  subst hrc
  by_cases h_1 : 0 ≤ (x).toInt ∧ (x).toInt < (n : Int)
  · skip
    refine rf_s (xKn_s h_1) ?_
    refine lv_astore_n (lv' := [(2, .ref (pd (x.toInt.toNat))), (0, .ref (a)), (1, .int (x))]) hx hb dX7_unword_5 rfl hl (by decide) rfl (fun ls hl => ?_)
    refine lv_aload_n hx hb dX7_unword_6 rfl (lv_at hl 0 rfl) ?_
    refine lv_ifnonnull (tgt := 13) hx hb dX7_unword_7 (by decide) ?_
    refine lv_aload_n hx hb dX7_unword_13 rfl (lv_at hl 0 rfl) ?_
    refine pe_get hx hb hts hin0 hin2 hin4 hin5 hin6 hown hK hP (17 + (x.toInt.toNat)) (hpk _ (by omega)) (xw_p (by omega)) 2 (by decide) hW0 dX7_unword_14 ?_
    refine lv_iconst (v := (-1)) hx hb dX7_unword_17 (by decide +kernel) ?_
    refine lv_icmp_ne (tgt := 25) hx hb dX7_unword_18 (by decide) (fun c_2 => ?_) (fun c_2 => ?_)
    · skip
      refine lv_iconst (v := nI (1)) hx hb dX7_unword_25 (by decide +kernel) ?_
      refine lv_istore_n (lv' := [(3, .int (nI (1))), (2, .ref (pd (x.toInt.toNat))), (0, .ref (a)), (1, .int (x))]) hx hb dX7_unword_26 rfl hl (by decide) rfl (fun ls hl => ?_)
      refine lv_aload_n hx hb dX7_unword_27 rfl (lv_at hl 1 rfl) ?_
      refine lv_iconst (v := (-1)) hx hb dX7_unword_28 (by decide +kernel) ?_
      refine pe_put hx hb hts hin0 hin2 hin4 hin5 hin6 hown hK hP hD hS (17 + (x.toInt.toNat)) (hpk _ (by omega)) (xw_p (by omega)) 2 (by decide) hW0 dX7_unword_29 (fun H locs hP hD hS => ?_)
      rw [xw_setp (by omega)] at hP hD
      have hP : va_P (dC, dI) vwCl (xW cI cP a o f g pa tv n pd pk (su pv (x.toInt.toNat) (su (pv (x.toInt.toNat)) 2 ((-1))))) H := hP
      have hD : va_D A (xW cI cP a o f g pa tv n pd pk (su pv (x.toInt.toNat) (su (pv (x.toInt.toNat)) 2 ((-1))))) := hD
      refine lv_iload_n hx hb dX7_unword_32 rfl (lv_at hl 0 rfl) ?_
      have hP9 : va_P (dC, dI) vwCl (xW cI cP a o f g pa tv n pd pk (su pv (x.toInt.toNat) (su (pv (x.toInt.toNat)) 2 ((-1))))) H := hP
      exact W.iret (v := nI (1)) hx hb hr (fun t ht hW => ⟨⟨nI (1), (f, g, pa, tv, n, pd, pk, su pv (x.toInt.toNat) (su (pv (x.toInt.toNat)) 2 ((-1)))), rfl, (by show ((nI (1), (f, g, pa, tv, n, pd, pk, su pv (x.toInt.toNat) (su (pv (x.toInt.toNat)) 2 ((-1))))) : _ × XSt) = ((xUnword pv n x).1, f, g, pa, tv, n, pd, pk, (xUnword pv n x).2); first | (simp only [xUnword, xOk, if_pos h_1, if_neg c_2]; done) | (simp only [xUnword, xOk, if_pos h_1, if_neg c_2]; rfl) | rfl | (simp [xUnword, xOk, if_pos h_1, if_neg c_2]; done)), by rw [ht]; exact hP9, va_K.moved hW.alike hK, hD⟩, hS.F ht⟩) hS.2.2 dX7_unword_33
    · skip
      refine lv_iconst (v := nI (0)) hx hb dX7_unword_21 (by decide +kernel) ?_
      refine lv_goto (tgt := 26) hx hb dX7_unword_22 (by decide) ?_
      refine lv_istore_n (lv' := [(3, .int (nI (0))), (2, .ref (pd (x.toInt.toNat))), (0, .ref (a)), (1, .int (x))]) hx hb dX7_unword_26 rfl hl (by decide) rfl (fun ls hl => ?_)
      refine lv_aload_n hx hb dX7_unword_27 rfl (lv_at hl 1 rfl) ?_
      refine lv_iconst (v := (-1)) hx hb dX7_unword_28 (by decide +kernel) ?_
      refine pe_put hx hb hts hin0 hin2 hin4 hin5 hin6 hown hK hP hD hS (17 + (x.toInt.toNat)) (hpk _ (by omega)) (xw_p (by omega)) 2 (by decide) hW0 dX7_unword_29 (fun H locs hP hD hS => ?_)
      rw [xw_setp (by omega)] at hP hD
      have hP : va_P (dC, dI) vwCl (xW cI cP a o f g pa tv n pd pk (su pv (x.toInt.toNat) (su (pv (x.toInt.toNat)) 2 ((-1))))) H := hP
      have hD : va_D A (xW cI cP a o f g pa tv n pd pk (su pv (x.toInt.toNat) (su (pv (x.toInt.toNat)) 2 ((-1))))) := hD
      refine lv_iload_n hx hb dX7_unword_32 rfl (lv_at hl 0 rfl) ?_
      have hP9 : va_P (dC, dI) vwCl (xW cI cP a o f g pa tv n pd pk (su pv (x.toInt.toNat) (su (pv (x.toInt.toNat)) 2 ((-1))))) H := hP
      exact W.iret (v := nI (0)) hx hb hr (fun t ht hW => ⟨⟨nI (0), (f, g, pa, tv, n, pd, pk, su pv (x.toInt.toNat) (su (pv (x.toInt.toNat)) 2 ((-1)))), rfl, (by show ((nI (0), (f, g, pa, tv, n, pd, pk, su pv (x.toInt.toNat) (su (pv (x.toInt.toNat)) 2 ((-1))))) : _ × XSt) = ((xUnword pv n x).1, f, g, pa, tv, n, pd, pk, (xUnword pv n x).2); first | (simp only [xUnword, xOk, if_pos h_1, if_pos c_2]; done) | (simp only [xUnword, xOk, if_pos h_1, if_pos c_2]; rfl) | rfl | (simp [xUnword, xOk, if_pos h_1, if_pos c_2]; done)), by rw [ht]; exact hP9, va_K.moved hW.alike hK, hD⟩, hS.F ht⟩) hS.2.2 dX7_unword_33
  · skip
    refine rf_n (xKn_n h_1) ?_
    refine lv_astore_nN (lv' := [(2, .null), (0, .ref (a)), (1, .int (x))]) hx hb dX7_unword_5 rfl hl (by decide) rfl (fun ls hl => ?_)
    refine lv_aload_nN hx hb dX7_unword_6 rfl (lv_at hl 0 rfl) ?_
    refine lv_ifnonnullN hx hb dX7_unword_7 ?_
    refine lv_bipush (v := (-101)) hx hb dX7_unword_10 (by decide +kernel) ?_
    have hP9 : va_P (dC, dI) vwCl (xW cI cP a o f g pa tv n pd pk pv) H := hP
    exact W.iret (v := (-101)) hx hb hr (fun t ht hW => ⟨⟨(-101), (f, g, pa, tv, n, pd, pk, pv), rfl, (by show (((-101), (f, g, pa, tv, n, pd, pk, pv)) : _ × XSt) = ((xUnword pv n x).1, f, g, pa, tv, n, pd, pk, (xUnword pv n x).2); first | (simp only [xUnword, xOk, if_neg h_1]; done) | (simp only [xUnword, xOk, if_neg h_1]; rfl) | rfl | (simp [xUnword, xOk, if_neg h_1]; done)), by rw [ht]; exact hP9, va_K.moved hW.alike hK, hD⟩, hS.F ht⟩) hS.2.2 dX7_unword_12

set_option maxHeartbeats 1200000 in
set_option maxRecDepth 100000 in
theorem c7_word (l : Launch) (dC : Nat → ClassId) (dI : Nat → Nat → Nat) (cI cP : ClassId) (a : Nat) (o : Nat → Nat) (f : Nat → Int32) (g : Nat → Nat → Int32) (pa : Nat → Option Nat) (tv : Nat → Nat → Int32) (n : Nat) (pd pk : Nat → Nat) (pv : Nat → Nat → Int32) (sz : Nat) (e7 : f 7 = nI n) (b7 : n ≤ 4) (hpa : ∀ i, i < n → pa i = some (pd i)) (hpk : ∀ i, i < n → pk i < 5) {k16 : Nat} (e16 : f 16 = nI k16) (b16 : k16 ≤ 10) (x : Int32) : Met l yX7_word wsX7_word ({ frames := 3, cells := 0, slots := 0, locals := 63 } : Room) (va_Pc [.ref (a), .int (x)] (fun U => U.heap.size = sz ∧ va_P (dC, dI) vwCl (xW cI cP a o f g pa tv n pd pk pv) U.heap ∧ va_K (dC, dI) vwCl [(cI, .int), (cP, .object RX4)] U ∧ xN U ∧ va_D (fun _ => True) (xW cI cP a o f g pa tv n pd pk pv))) (va_Qi (fun (r : Int32) (u : XSt) => (r, u) = xWord f g pa tv n pd pk pv k16 x) (xB dC dI cI cP a o (va_A (xW cI cP a o f g pa tv n pd pk pv) sz)) (va_A (xW cI cP a o f g pa tv n pd pk pv) sz)) 0 0 (va_A (xW cI cP a o f g pa tv n pd pk pv) sz) := by
  refine Met.ofW (cc := cX7_word) (maxL := 4) (ret := (some .int)) (by decide) rfl ?_
  intro p_ e_ s m args below meth c_0 s₁ B hml hv
  obtain ⟨rfl, hsz, hP, hK, hN, hD0⟩ := hv
  have hx := B.exec
  have hb := B.bytes
  have hr := B.returns
  have hts := atoms_spec (ws := wsX7_word) B.pre
  have hown : s.vm.findClass RX7 = some m.cls := findClass_of_methodNamed B.named
  have hlocks := B.notSynchronized
  subst hsz
  have hD := hD0.self (sz := s.heap.size)
  generalize hAe : va_A (xW cI cP a o f g pa tv n pd pk pv) s.heap.size = A at hD ⊢
  have hA : ∀ q : Nat, s.heap.size ≤ q → A q := fun q h => by rw [← hAe]; exact Or.inr h
  obtain ⟨H, hHe⟩ : ∃ H : Heap, H = s.heap := ⟨_, rfl⟩
  have hS : va_S A s.heap H [] := by rw [hHe]; exact va_S.rf
  rw [← hHe] at hP ⊢
  have hP : va_P (dC, dI) vwCl (xW cI cP a o f g pa tv n pd pk pv) H := hP
  have hl := lv_entry ([.ref (a), .int (x)]) (n := 4) (Nat.le_of_ble_eq_true rfl)
  rw [lg_entry_eq]
  generalize (lg_sl ([.ref (a), .int (x)]) ++ List.replicate (4 - (lg_sl ([.ref (a), .int (x)])).length) Slot.unset).toArray = ls at hl ⊢
  have hl : lv_has ls 4 [(0, .ref (a)), (1, .int (x))] := hl
  have hin0 : ∀ w ∈ wsX00, w ∈ wsX7_word := fun _ h => List.mem_cons_of_mem _ (List.mem_append_left _ (List.mem_append_left _ (List.mem_append_left _ (List.mem_append_left _ (List.mem_append_left _ (List.mem_append_right _ h))))))
  have hin2 : ∀ w ∈ wsX20, w ∈ wsX7_word := fun _ h => List.mem_cons_of_mem _ (List.mem_append_left _ (List.mem_append_left _ (List.mem_append_left _ (List.mem_append_left _ (List.mem_append_right _ h)))))
  have hin4 : ∀ w ∈ wsX40, w ∈ wsX7_word := fun _ h => List.mem_cons_of_mem _ (List.mem_append_left _ (List.mem_append_left _ (List.mem_append_left _ (List.mem_append_right _ h))))
  have hin5 : ∀ w ∈ wsX50, w ∈ wsX7_word := fun _ h => List.mem_cons_of_mem _ (List.mem_append_left _ (List.mem_append_left _ (List.mem_append_right _ h)))
  have hin6 : ∀ w ∈ wsX60, w ∈ wsX7_word := fun _ h => List.mem_cons_of_mem _ (List.mem_append_left _ (List.mem_append_right _ h))
  have hin7 : ∀ w ∈ wsX70, w ∈ wsX7_word := fun _ h => List.mem_cons_of_mem _ (List.mem_append_left _ (List.mem_append_left _ (List.mem_append_left _ (List.mem_append_left _ (List.mem_append_left _ (List.mem_append_left _ (List.mem_append_right _ h)))))))
  have hW0 := hts (.fieldLink RX7 12 "EachEye" "page" "LEachEye$Page;") (by decide +kernel)
  have hW1 := hts (.fieldLink RX7 120 "EachEye$Person" "told" "I") (by decide +kernel)
  refine lv_aload_n hx hb dX7_word_0 rfl (lv_at hl 0 rfl) ?_
  refine lv_iload_n hx hb dX7_word_1 rfl (lv_at hl 1 rfl) ?_
  refine va_csq (va_Run.run (va_runV (As := [.int (x)]) (rest := []) ⟨hx, hb, hml, hown, hts⟩ (c7_known l dC dI cI cP a o f g pa tv n pd pk pv e7 (by omega) hpa hpk (x) ) (cwV 1 hts gX7_word_X7_known rfl rfl rfl (by decide +kernel) ⟨Nat.le_of_ble_eq_true rfl, Nat.le_of_ble_eq_true rfl⟩) ⟨fun a U g mk q => ⟨q.1, q.2.1, va_K.moved (u := U) (U := U.calling g mk a) (Vm.Alike.refl U.vm) q.2.2.1, xN.same (u := U) (U := U.calling g mk a) rfl q.2.2.2⟩, va_recv hK hP (ci := 7) (q0 := 0) rfl rfl, fun U hU hW => ⟨rfl, by rw [hU]; exact hP, va_K.moved hW.alike hK, xN.warm hW hN⟩⟩ rfl rfl hl.1 rfl (lv_room (Nat.le_of_ble_eq_true rfl)) dX7_word_2 ⟨Nat.le_of_ble_eq_true rfl, Nat.le_of_ble_eq_true rfl⟩)) (fun r hrc => ?_)
  have hrc : r = xKn n pd (x) := hrc
  subst hrc
  by_cases h_1 : 0 ≤ (x).toInt ∧ (x).toInt < (n : Int)
  · skip
    refine rf_s (xKn_s h_1) ?_
    refine lv_astore_n (lv' := [(2, .ref (pd (x.toInt.toNat))), (0, .ref (a)), (1, .int (x))]) hx hb dX7_word_5 rfl hl (by decide) rfl (fun ls hl => ?_)
    refine lv_aload_n hx hb dX7_word_6 rfl (lv_at hl 0 rfl) ?_
    refine lv_ifnonnull (tgt := 13) hx hb dX7_word_7 (by decide) ?_
    refine lv_aload_n hx hb dX7_word_13 rfl (lv_at hl 1 rfl) ?_
    refine va_get (D := (dC, dI)) (ci := 7) (v := .ref (o 0)) (C := RX7) (T := TX7) (N := 16) hx hb hts hin7 hown hK hP 0 rfl rfl 0 (by decide) hW0 (fun _ h9 => h9) rfl dX7_word_14 ?_
    refine vp_callSi (va_Run.run (va_runV (As := []) (rest := []) ⟨hx, hb, hml, hown, hts⟩ (c3_asText l dC dI cI cP a o f g pa tv n pd pk pv e16 (by omega)  ) (cwV 0 hts gX7_word_X3_asText rfl rfl rfl (by decide +kernel) ⟨Nat.le_of_ble_eq_true rfl, Nat.le_of_ble_eq_true rfl⟩) ⟨fun a U g mk q => ⟨q.1, q.2.1, va_K.moved (u := U) (U := U.calling g mk a) (Vm.Alike.refl U.vm) q.2.2.1, xN.same (u := U) (U := U.calling g mk a) rfl q.2.2.2⟩, va_recv hK hP (ci := 3) (q0 := 1) rfl rfl, fun U hU hW => ⟨rfl, by rw [hU]; exact hP, va_K.moved hW.alike hK, xN.warm hW hN⟩⟩ rfl rfl hl.1 rfl (lv_room (Nat.le_of_ble_eq_true rfl)) dX7_word_17 ⟨Nat.le_of_ble_eq_true rfl, Nat.le_of_ble_eq_true rfl⟩)) (fun r hrc => ?_)
    have hrc : r = xText (g) (k16) := hrc
    subst hrc
    refine lv_istore_n (lv' := [(3, .int (xText (g) (k16))), (2, .ref (pd (x.toInt.toNat))), (0, .ref (a)), (1, .int (x))]) hx hb dX7_word_20 rfl hl (by decide) rfl (fun ls hl => ?_)
    refine lv_iload_n hx hb dX7_word_21 rfl (lv_at hl 0 rfl) ?_
    refine lv_iconst (v := (-1)) hx hb dX7_word_22 (by decide +kernel) ?_
    refine lv_icmp_ne (tgt := 29) hx hb dX7_word_23 (by decide) (fun c_2 => ?_) (fun c_2 => ?_)
    · skip
      refine lv_aload_n hx hb dX7_word_29 rfl (lv_at hl 1 rfl) ?_
      refine lv_iload_n hx hb dX7_word_30 rfl (lv_at hl 0 rfl) ?_
      refine pe_put hx hb hts hin0 hin2 hin4 hin5 hin6 hown hK hP hD hS (17 + (x.toInt.toNat)) (hpk _ (by omega)) (xw_p (by omega)) 2 (by decide) hW1 dX7_word_31 (fun H locs hP hD hS => ?_)
      rw [xw_setp (by omega)] at hP hD
      have hP : va_P (dC, dI) vwCl (xW cI cP a o f g pa tv n pd pk (su pv (x.toInt.toNat) (su (pv (x.toInt.toNat)) 2 (xText (g) (k16))))) H := hP
      have hD : va_D A (xW cI cP a o f g pa tv n pd pk (su pv (x.toInt.toNat) (su (pv (x.toInt.toNat)) 2 (xText (g) (k16))))) := hD
      refine lv_aload_n hx hb dX7_word_34 rfl (lv_at hl 2 rfl) ?_
      refine va_get (D := (dC, dI)) (ci := 7) (v := .ref (o 0)) (C := RX7) (T := TX7) (N := 16) hx hb hts hin7 hown hK hP 0 rfl rfl 0 (by decide) hW0 (fun _ h9 => h9) rfl dX7_word_35 ?_
      have hFc : ∀ q, va_A (xW cI cP a o f g pa tv n pd pk (su pv (x.toInt.toNat) (su (pv (x.toInt.toNat)) 2 (xText (g) (k16))))) H.size q → A q := fun q h => h.elim (fun ⟨j, e, hj⟩ => hD.2 j (q, e) hj) (fun h => hA q (Nat.le_trans hS.1 h))
      refine va_callv (va_runV (As := []) (rest := []) ⟨hx, hb, hml, hown, hts⟩ (c3_empty l dC dI cI cP a o f g pa tv n pd pk (su pv (x.toInt.toNat) (su (pv (x.toInt.toNat)) 2 (xText (g) (k16)))) H.size   ) (cwV 0 hts gX7_word_X3_empty rfl rfl rfl (by decide +kernel) ⟨Nat.le_of_ble_eq_true rfl, Nat.le_of_ble_eq_true rfl⟩) ⟨fun a U g mk q => by obtain ⟨q0, q1, qP, qK, qN, qD⟩ := q; exact ⟨q0, q1, qP, va_K.moved (u := U) (U := U.calling g mk a) (Vm.Alike.refl U.vm) qK, xN.same (u := U) (U := U.calling g mk a) rfl qN, qD⟩, va_recv hK hP (ci := 3) (q0 := 1) rfl rfl, fun U hU hW => ⟨rfl, by rw [hU], by rw [hU]; exact hP, va_K.moved hW.alike hK, xN.warm hW hN, hD.weaken (fun _ _ _ _ => trivial)⟩⟩ rfl rfl hl.1 rfl (lv_room (Nat.le_of_ble_eq_true rfl)) dX7_word_38 ⟨Nat.le_of_ble_eq_true rfl, Nat.le_of_ble_eq_true rfl⟩) hS (fun q _ h => hFc q h) hFc (fun u t H1 locs ht hvm hw hB hz1 hk1 hS => ?_)
      have hw : u = ((su f 16 (nI (0)), g, pa, tv, n, pd, pk, su pv (x.toInt.toNat) (su (pv (x.toInt.toNat)) 2 (xText (g) (k16)))) : XSt) := hw
      subst hw
      obtain ⟨hP1, hK1, hD1⟩ := hB
      rw [ht] at hP1
      have hP : va_P (dC, dI) vwCl (xW cI cP a o (su f 16 (nI (0))) g pa tv n pd pk (su pv (x.toInt.toNat) (su (pv (x.toInt.toNat)) 2 (xText (g) (k16))))) H1 := hP1
      have hD : va_D A (xW cI cP a o (su f 16 (nI (0))) g pa tv n pd pk (su pv (x.toInt.toNat) (su (pv (x.toInt.toNat)) 2 (xText (g) (k16))))) := hD1.weaken (fun _ _ _ h => hFc _ h)
      clear hP1 hD1 hK1 hFc hk1 hz1
      generalize H1 = H at hP hS ⊢
      have hP : va_P (dC, dI) vwCl (xW cI cP a o (su f 16 (nI (0))) g pa tv n pd pk (su pv (x.toInt.toNat) (su (pv (x.toInt.toNat)) 2 (xText (g) (k16))))) H := hP
      have hD : va_D A (xW cI cP a o (su f 16 (nI (0))) g pa tv n pd pk (su pv (x.toInt.toNat) (su (pv (x.toInt.toNat)) 2 (xText (g) (k16))))) := hD
      refine lv_aload_n hx hb dX7_word_41 rfl (lv_at hl 2 rfl) ?_
      refine vp_callSi (va_Run.run (va_runV (As := []) (rest := []) ⟨hx, hb, hml, hown, hts⟩ (c7_toldPeople l dC dI cI cP a o (su f 16 (nI (0))) g pa tv n pd pk (su pv (x.toInt.toNat) (su (pv (x.toInt.toNat)) 2 (xText (g) (k16)))) e7 (by omega) hpa hpk  ) (cwV 0 hts gX7_word_X7_toldPeople rfl rfl rfl (by decide +kernel) ⟨Nat.le_of_ble_eq_true rfl, Nat.le_of_ble_eq_true rfl⟩) ⟨fun a U g mk q => ⟨q.1, q.2.1, va_K.moved (u := U) (U := U.calling g mk a) (Vm.Alike.refl U.vm) q.2.2.1, xN.same (u := U) (U := U.calling g mk a) rfl q.2.2.2⟩, va_recv hK hP (ci := 7) (q0 := 0) rfl rfl, fun U hU hW => ⟨rfl, by rw [hU]; exact hP, va_K.moved hW.alike hK, xN.warm hW hN⟩⟩ rfl rfl hl.1 rfl (lv_room (Nat.le_of_ble_eq_true rfl)) dX7_word_42 ⟨Nat.le_of_ble_eq_true rfl, Nat.le_of_ble_eq_true rfl⟩)) (fun r hrc => ?_)
      have hrc : r = sm (fun q9 => b2i (¬ (su pv (x.toInt.toNat) (su (pv (x.toInt.toNat)) 2 (xText (g) (k16)))) q9 2 = (-1))) n := hrc
      subst hrc
      have hP9 : va_P (dC, dI) vwCl (xW cI cP a o (su f 16 (nI (0))) g pa tv n pd pk (su pv (x.toInt.toNat) (su (pv (x.toInt.toNat)) 2 (xText (g) (k16))))) H := hP
      exact W.iret (v := sm (fun q9 => b2i (¬ (su pv (x.toInt.toNat) (su (pv (x.toInt.toNat)) 2 (xText (g) (k16)))) q9 2 = (-1))) n) hx hb hr (fun t ht hW => ⟨⟨sm (fun q9 => b2i (¬ (su pv (x.toInt.toNat) (su (pv (x.toInt.toNat)) 2 (xText (g) (k16)))) q9 2 = (-1))) n, (su f 16 (nI (0)), g, pa, tv, n, pd, pk, su pv (x.toInt.toNat) (su (pv (x.toInt.toNat)) 2 (xText (g) (k16)))), rfl, (by show ((sm (fun q9 => b2i (¬ (su pv (x.toInt.toNat) (su (pv (x.toInt.toNat)) 2 (xText (g) (k16)))) q9 2 = (-1))) n, (su f 16 (nI (0)), g, pa, tv, n, pd, pk, su pv (x.toInt.toNat) (su (pv (x.toInt.toNat)) 2 (xText (g) (k16))))) : _ × XSt) = xWord f g pa tv n pd pk pv k16 x; first | (simp only [xWord, xOk, if_pos h_1, if_neg c_2]; done) | (simp only [xWord, xOk, if_pos h_1, if_neg c_2]; rfl) | rfl | (simp [xWord, xOk, if_pos h_1, if_neg c_2]; done)), by rw [ht]; exact hP9, va_K.moved hW.alike hK, hD⟩, hS.F ht⟩) hS.2.2 dX7_word_45
    · skip
      refine lv_bipush (v := (-103)) hx hb dX7_word_26 (by decide +kernel) ?_
      have hP9 : va_P (dC, dI) vwCl (xW cI cP a o f g pa tv n pd pk pv) H := hP
      exact W.iret (v := (-103)) hx hb hr (fun t ht hW => ⟨⟨(-103), (f, g, pa, tv, n, pd, pk, pv), rfl, (by show (((-103), (f, g, pa, tv, n, pd, pk, pv)) : _ × XSt) = xWord f g pa tv n pd pk pv k16 x; first | (simp only [xWord, xOk, if_pos h_1, if_pos c_2]; done) | (simp only [xWord, xOk, if_pos h_1, if_pos c_2]; rfl) | rfl | (simp [xWord, xOk, if_pos h_1, if_pos c_2]; done)), by rw [ht]; exact hP9, va_K.moved hW.alike hK, hD⟩, hS.F ht⟩) hS.2.2 dX7_word_28
  · skip
    refine rf_n (xKn_n h_1) ?_
    refine lv_astore_nN (lv' := [(2, .null), (0, .ref (a)), (1, .int (x))]) hx hb dX7_word_5 rfl hl (by decide) rfl (fun ls hl => ?_)
    refine lv_aload_nN hx hb dX7_word_6 rfl (lv_at hl 0 rfl) ?_
    refine lv_ifnonnullN hx hb dX7_word_7 ?_
    refine lv_bipush (v := (-101)) hx hb dX7_word_10 (by decide +kernel) ?_
    have hP9 : va_P (dC, dI) vwCl (xW cI cP a o f g pa tv n pd pk pv) H := hP
    exact W.iret (v := (-101)) hx hb hr (fun t ht hW => ⟨⟨(-101), (f, g, pa, tv, n, pd, pk, pv), rfl, (by show (((-101), (f, g, pa, tv, n, pd, pk, pv)) : _ × XSt) = xWord f g pa tv n pd pk pv k16 x; first | (simp only [xWord, xOk, if_neg h_1]; done) | (simp only [xWord, xOk, if_neg h_1]; rfl) | rfl | (simp [xWord, xOk, if_neg h_1]; done)), by rw [ht]; exact hP9, va_K.moved hW.alike hK, hD⟩, hS.F ht⟩) hS.2.2 dX7_word_12
