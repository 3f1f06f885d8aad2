def xTold (n : Nat) (pv : Nat → Nat → Int32) : Int32 := sm (fun q9 => b2i (¬ pv q9 2 = (-1))) n
def xCount (f : Nat → Int32) (n i d k : Nat) (pv : Nat → Nat → Int32) (x : Int32) : Int32 := if x.toInt = 0 then xCol (f 6) else if x.toInt = 1 then nI n else if x.toInt = 2 then nI i else if x.toInt = 3 then f 9 else if x.toInt = 4 then xTold n pv else if x.toInt = 5 then nI d else if x.toInt = 6 then nI k else if x.toInt = 7 then f 10 else if x.toInt = 8 then f 11 else (-102)
def hf (F : Nat → Int32) (h : Int64) : Nat → Int64
  | 0 => h
  | k + 1 => 31 * hf F h k + (F k).toInt64
def xWp3 (f : Nat → Int32) (n : Nat) (pk : Nat → Nat) (pv : Nat → Nat → Int32) (i : Nat) (h : Int64) : Int64 := hf (fun q9 => xAbout f n pk pv (nI i) (nI (20 + q9))) (hf (fun q9 => xAbout f n pk pv (nI i) (nI (10 + q9))) (hf (fun q9 => xAbout f n pk pv (nI i) (nI q9)) h 4) 6) 6
def xWp (f : Nat → Int32) (n : Nat) (pk : Nat → Nat) (pv : Nat → Nat → Int32) (i : Nat) (h : Int64) : Nat → Int64
  | 0 => xWp3 f n pk pv i h
  | k + 1 => 31 * (31 * xWp f n pk pv i h k + (xDiffer f n pk pv (nI i) (nI k)).toInt64) + (xAlike n pk pv (nI i) (nI k)).toInt64
def xD2 (f : Nat → Int32) (g : Nat → Nat → Int32) (n i : Nat) (pk : Nat → Nat) (pv : Nat → Nat → Int32) : Int64 := if f 6 = (-1) then 853 else 31 * (31 * hf (fun q9 => xHa (f 6) q9) 853 6 + (xFew f g n i pk pv (nI 0)).toInt64) + (xFew f g n i pk pv (nI 1)).toInt64
def xD3 (f : Nat → Int32) (g : Nat → Nat → Int32) (n i : Nat) (pk : Nat → Nat) (pv : Nat → Nat → Int32) : Nat → Int64
  | 0 => xD2 f g n i pk pv
  | k + 1 => xWp f n pk pv k (xD3 f g n i pk pv k) n
def xDig (f : Nat → Int32) (g : Nat → Nat → Int32) (n i d k : Nat) (pk : Nat → Nat) (pv : Nat → Nat → Int32) : Int64 := hf (fun q9 => xCount f n i d k pv (nI q9)) (hf (fun q9 => g 0 q9) (hf (fun q9 => g 1 q9) (xD3 f g n i pk pv n) i) k) 9
def xImage (f : Nat → Int32) (g : Nat → Nat → Int32) (pa : Nat → Option Nat) (tv : Nat → Nat → Int32) (n i : Nat) (pd pk : Nat → Nat) (pv : Nat → Nat → Int32) : Int32 × XSt := if f 6 = (-1) then ((-103), f, g, pa, tv, n, pd, pk, pv) else (nI n, su (su (su (su (su f 12 (f 6)) 13 (nI n)) 14 (nI i)) 15 (f 9)) 18 (f 17), su (su g 4 (fil (g 4) (g 2) 8)) 5 (fil (g 5) (g 3) 8), pa, tv, n, pd, pk, fil pv (fun q9 => xKeep (pv q9)) n)
def xRestore (f : Nat → Int32) (g : Nat → Nat → Int32) (pa : Nat → Option Nat) (tv : Nat → Nat → Int32) (n m : Nat) (pd pk : Nat → Nat) (pv : Nat → Nat → Int32) : Int32 × XSt := if f 12 = (-1) then ((-103), f, g, pa, tv, n, pd, pk, pv) else (nI m, su (su (su (su (su f 6 (f 12)) 7 (nI m)) 8 (f 14)) 9 (f 15)) 17 (f 18), su (su g 2 (fil (g 2) (g 4) 8)) 3 (fil (g 3) (g 5) 8), pa, tv, m, pd, pk, fil pv (fun q9 => xBack (pv q9)) m)
set_option maxHeartbeats 1200000 in
set_option maxRecDepth 100000 in
theorem c7_count (l : Launch) (dC : Nat → ClassId) (dI : Nat → Nat → Nat) (cI cP : ClassId) (a : Nat) (o : Nat → Nat) (f : Nat → Int32) (g : Nat → Nat → Int32) (pa : Nat → Option Nat) (tv : Nat → Nat → Int32) (n : Nat) (pd pk : Nat → Nat) (pv : Nat → Nat → Int32) (e7 : f 7 = nI n) (b7 : n ≤ 4) (hpa : ∀ i, i < n → pa i = some (pd i)) (hpk : ∀ i, i < n → pk i < 5) {k8 : Nat} (e8 : f 8 = nI k8) (b8 : k8 ≤ 5) {k16 : Nat} (e16 : f 16 = nI k16) (b16 : k16 ≤ 10) {k17 : Nat} (e17 : f 17 = nI k17) (b17 : k17 ≤ 8) (x : Int32) : Met l yX7_count wsX7_count ({ frames := 2, cells := 0, slots := 0, locals := 44 } : Room) (va_Pc [.ref (a), .int (x)] (fun U => va_P (dC, dI) vwCl (xW cI cP a o f g pa tv n pd pk pv) U.heap ∧ va_K (dC, dI) vwCl [(cI, .int), (cP, .object RX4)] U ∧ xN U)) (vp_Si (fun r => r = xCount f n k8 k17 k16 pv x)) 0 0 (fun _ => False) := by
  refine Met.ofW (cc := cX7_count) (maxL := 2) (ret := (some .int)) (by decide) rfl ?_
  intro p_ e_ s m args below meth c_0 s₁ B hml hv
  obtain ⟨rfl, hP, hK, hN⟩ := hv
  have hx := B.exec
  have hb := B.bytes
  have hr := B.returns
  have hts := atoms_spec (ws := wsX7_count) B.pre
  have hown : s.vm.findClass RX7 = some m.cls := findClass_of_methodNamed B.named
  have hlocks := B.notSynchronized
  have hP : va_P (dC, dI) vwCl (xW cI cP a o f g pa tv n pd pk pv) s.heap := hP
  have hl := lv_entry ([.ref (a), .int (x)]) (n := 2) (Nat.le_of_ble_eq_true rfl)
  rw [lg_entry_eq]
  generalize (lg_sl ([.ref (a), .int (x)]) ++ List.replicate (2 - (lg_sl ([.ref (a), .int (x)])).length) Slot.unset).toArray = ls at hl ⊢
  have hl : lv_has ls 2 [(0, .ref (a)), (1, .int (x))] := hl
  have hin1 : ∀ w ∈ wsX10, w ∈ wsX7_count := fun _ h => List.mem_cons_of_mem _ (List.mem_append_left _ (List.mem_append_left _ (List.mem_append_left _ (List.mem_append_left _ (List.mem_append_left _ (List.mem_append_left _ (List.mem_append_right _ h)))))))
  have hin3 : ∀ w ∈ wsX30, w ∈ wsX7_count := fun _ h => List.mem_cons_of_mem _ (List.mem_append_left _ (List.mem_append_left _ (List.mem_append_left _ (List.mem_append_left _ (List.mem_append_left _ (List.mem_append_right _ h))))))
  have hin7 : ∀ w ∈ wsX70, w ∈ wsX7_count := fun _ h => List.mem_cons_of_mem _ (List.mem_append_left _ (List.mem_append_left _ (List.mem_append_left _ (List.mem_append_left _ (List.mem_append_left _ (List.mem_append_left _ (List.mem_append_left _ (List.mem_append_right _ h))))))))
  have hW0 := hts (.fieldLink RX7 67 "EachEye" "peopleCount" "I") (by decide +kernel)
  have hW1 := hts (.fieldLink RX7 70 "EachEye" "inkCount" "I") (by decide +kernel)
  have hW2 := hts (.fieldLink RX7 73 "EachEye" "layersDone" "I") (by decide +kernel)
  have hW3 := hts (.fieldLink RX7 29 "EachEye" "cards" "LEachEye$Cards;") (by decide +kernel)
  have hW4 := hts (.fieldLink RX7 12 "EachEye" "page" "LEachEye$Page;") (by decide +kernel)
  have hW5 := hts (.fieldLink RX7 79 "EachEye" "signsRead" "I") (by decide +kernel)
  have hW6 := hts (.fieldLink RX7 148 "EachEye" "questionsDone" "I") (by decide +kernel)
  refine lv_iload_n hx hb dX7_count_0 rfl (lv_at hl 1 rfl) ?_
  by_cases c_1 : (x).toInt = 0
  · skip
    refine lv_tableIn (tgt := 52) hx hb dX7_count_1 (by omega) (by omega) (by rw [c_1]; rfl) (by decide) ?_
    refine lv_aload_n hx hb dX7_count_52 rfl (lv_at hl 0 rfl) ?_
    refine vp_callSi (va_Run.run (va_runV (As := []) (rest := []) ⟨hx, hb, hml, hown, hts⟩ (c7_colouredCells l dC dI cI cP a o f g pa tv n pd pk pv   ) (cwV 0 hts gX7_count_X7_colouredCells rfl rfl rfl (by decide +kernel) ⟨Nat.le_of_ble_eq_true rfl, Nat.le_of_ble_eq_true rfl⟩) ⟨fun a U g mk q => ⟨q.1, q.2.1, va_K.moved (u := U) (U := U.calling g mk a) (Vm.Alike.refl U.vm) q.2.2.1, xN.same (u := U) (U := U.calling g mk a) rfl q.2.2.2⟩, va_recv hK hP (ci := 7) (q0 := 0) rfl rfl, fun U hU hW => ⟨rfl, by rw [hU]; exact hP, va_K.moved hW.alike hK, xN.warm hW hN⟩⟩ rfl rfl hl.1 rfl (lv_room (Nat.le_of_ble_eq_true rfl)) dX7_count_53 ⟨Nat.le_of_ble_eq_true rfl, Nat.le_of_ble_eq_true rfl⟩)) (fun r hrc => ?_)
    have hrc : r = xCol (f 6) := hrc
    subst hrc
    exact W.iret (v := xCol (f 6)) hx hb hr (fun t ht hW => ⟨xCol (f 6), rfl, (by show xCol (f 6) = xCount f n k8 k17 k16 pv x; first | (simp only [xCount, xTold, if_pos c_1]; done) | (simp only [xCount, xTold, if_pos c_1]; rfl) | rfl | (simp [xCount, xTold, if_pos c_1]; done)), ht⟩) (fun _ h => by cases h) dX7_count_56
  · skip
    by_cases c_2 : (x).toInt = 1
    · skip
      refine lv_tableIn (tgt := 57) hx hb dX7_count_1 (by omega) (by omega) (by rw [c_2]; rfl) (by decide) ?_
      refine lv_aload_n hx hb dX7_count_57 rfl (lv_at hl 0 rfl) ?_
      refine va_get (D := (dC, dI)) (ci := 7) (v := .int (nI (n))) (C := RX7) (T := TX7) (N := 16) hx hb hts hin7 hown hK hP 0 rfl rfl 7 (by decide) hW0 (fun _ h9 => h9) (congrArg (fun z => some (Value.int z)) e7) dX7_count_58 ?_
      exact W.iret (v := nI (n)) hx hb hr (fun t ht hW => ⟨nI (n), rfl, (by show nI (n) = xCount f n k8 k17 k16 pv x; first | (simp only [xCount, xTold, if_neg c_1, if_pos c_2]; done) | (simp only [xCount, xTold, if_neg c_1, if_pos c_2]; rfl) | rfl | (simp [xCount, xTold, if_neg c_1, if_pos c_2]; done)), ht⟩) (fun _ h => by cases h) dX7_count_61
    · skip
      by_cases c_3 : (x).toInt = 2
      · skip
        refine lv_tableIn (tgt := 62) hx hb dX7_count_1 (by omega) (by omega) (by rw [c_3]; rfl) (by decide) ?_
        refine lv_aload_n hx hb dX7_count_62 rfl (lv_at hl 0 rfl) ?_
        refine va_get (D := (dC, dI)) (ci := 7) (v := .int (nI (k8))) (C := RX7) (T := TX7) (N := 16) hx hb hts hin7 hown hK hP 0 rfl rfl 8 (by decide) hW1 (fun _ h9 => h9) (congrArg (fun z => some (Value.int z)) e8) dX7_count_63 ?_
        exact W.iret (v := nI (k8)) hx hb hr (fun t ht hW => ⟨nI (k8), rfl, (by show nI (k8) = xCount f n k8 k17 k16 pv x; first | (simp only [xCount, xTold, if_neg c_1, if_neg c_2, if_pos c_3]; done) | (simp only [xCount, xTold, if_neg c_1, if_neg c_2, if_pos c_3]; rfl) | rfl | (simp [xCount, xTold, if_neg c_1, if_neg c_2, if_pos c_3]; done)), ht⟩) (fun _ h => by cases h) dX7_count_66
      · skip
        by_cases c_4 : (x).toInt = 3
        · skip
          refine lv_tableIn (tgt := 67) hx hb dX7_count_1 (by omega) (by omega) (by rw [c_4]; rfl) (by decide) ?_
          refine lv_aload_n hx hb dX7_count_67 rfl (lv_at hl 0 rfl) ?_
          refine va_get (D := (dC, dI)) (ci := 7) (v := .int (f 9)) (C := RX7) (T := TX7) (N := 16) hx hb hts hin7 hown hK hP 0 rfl rfl 9 (by decide) hW2 (fun _ h9 => h9) rfl dX7_count_68 ?_
          exact W.iret (v := f 9) hx hb hr (fun t ht hW => ⟨f 9, rfl, (by show f 9 = xCount f n k8 k17 k16 pv x; first | (simp only [xCount, xTold, if_neg c_1, if_neg c_2, if_neg c_3, if_pos c_4]; done) | (simp only [xCount, xTold, if_neg c_1, if_neg c_2, if_neg c_3, if_pos c_4]; rfl) | rfl | (simp [xCount, xTold, if_neg c_1, if_neg c_2, if_neg c_3, if_pos c_4]; done)), ht⟩) (fun _ h => by cases h) dX7_count_71
        · skip
          by_cases c_5 : (x).toInt = 4
          · skip
            refine lv_tableIn (tgt := 72) hx hb dX7_count_1 (by omega) (by omega) (by rw [c_5]; rfl) (by decide) ?_
            refine lv_aload_n hx hb dX7_count_72 rfl (lv_at hl 0 rfl) ?_
            refine vp_callSi (va_Run.run (va_runV (As := []) (rest := []) ⟨hx, hb, hml, hown, hts⟩ (c7_toldPeople l dC dI cI cP a o f g pa tv n pd pk pv e7 (by omega) hpa hpk  ) (cwV 0 hts gX7_count_X7_toldPeople rfl rfl rfl (by decide +kernel) ⟨Nat.le_of_ble_eq_true rfl, Nat.le_of_ble_eq_true rfl⟩) ⟨fun a U g mk q => ⟨q.1, q.2.1, va_K.moved (u := U) (U := U.calling g mk a) (Vm.Alike.refl U.vm) q.2.2.1, xN.same (u := U) (U := U.calling g mk a) rfl q.2.2.2⟩, va_recv hK hP (ci := 7) (q0 := 0) rfl rfl, fun U hU hW => ⟨rfl, by rw [hU]; exact hP, va_K.moved hW.alike hK, xN.warm hW hN⟩⟩ rfl rfl hl.1 rfl (lv_room (Nat.le_of_ble_eq_true rfl)) dX7_count_73 ⟨Nat.le_of_ble_eq_true rfl, Nat.le_of_ble_eq_true rfl⟩)) (fun r hrc => ?_)
            have hrc : r = sm (fun q9 => b2i (¬ pv q9 2 = (-1))) n := hrc
            subst hrc
            exact W.iret (v := sm (fun q9 => b2i (¬ pv q9 2 = (-1))) n) hx hb hr (fun t ht hW => ⟨sm (fun q9 => b2i (¬ pv q9 2 = (-1))) n, rfl, (by show sm (fun q9 => b2i (¬ pv q9 2 = (-1))) n = xCount f n k8 k17 k16 pv x; first | (simp only [xCount, xTold, if_neg c_1, if_neg c_2, if_neg c_3, if_neg c_4, if_pos c_5]; done) | (simp only [xCount, xTold, if_neg c_1, if_neg c_2, if_neg c_3, if_neg c_4, if_pos c_5]; rfl) | rfl | (simp [xCount, xTold, if_neg c_1, if_neg c_2, if_neg c_3, if_neg c_4, if_pos c_5]; done)), ht⟩) (fun _ h => by cases h) dX7_count_76
          · skip
            by_cases c_6 : (x).toInt = 5
            · skip
              refine lv_tableIn (tgt := 77) hx hb dX7_count_1 (by omega) (by omega) (by rw [c_6]; rfl) (by decide) ?_
              refine lv_aload_n hx hb dX7_count_77 rfl (lv_at hl 0 rfl) ?_
              refine va_get (D := (dC, dI)) (ci := 7) (v := .ref (o 3)) (C := RX7) (T := TX7) (N := 16) hx hb hts hin7 hown hK hP 0 rfl rfl 3 (by decide) hW3 (fun _ h9 => h9) rfl dX7_count_78 ?_
              refine va_getN (D := (dC, dI)) (ci := 1) (v := .int (nI (k17))) (C := RX1) (T := TX1) (N := 6) hx hb hts hin1 hown hK hP 5 rfl rfl 4 (by decide) (va_Nw.use rfl (hN.1 _ (List.mem_of_getElem? (i := 4) rfl))) (fun _ h9 => h9) (congrArg (fun z => some (Value.int z)) e17) dX7_count_81 ?_
              exact W.iret (v := nI (k17)) hx hb hr (fun t ht hW => ⟨nI (k17), rfl, (by show nI (k17) = xCount f n k8 k17 k16 pv x; first | (simp only [xCount, xTold, if_neg c_1, if_neg c_2, if_neg c_3, if_neg c_4, if_neg c_5, if_pos c_6]; done) | (simp only [xCount, xTold, if_neg c_1, if_neg c_2, if_neg c_3, if_neg c_4, if_neg c_5, if_pos c_6]; rfl) | rfl | (simp [xCount, xTold, if_neg c_1, if_neg c_2, if_neg c_3, if_neg c_4, if_neg c_5, if_pos c_6]; done)), ht⟩) (fun _ h => by cases h) dX7_count_84
            · skip
              by_cases c_7 : (x).toInt = 6
              · skip
                refine lv_tableIn (tgt := 85) hx hb dX7_count_1 (by omega) (by omega) (by rw [c_7]; rfl) (by decide) ?_
                refine lv_aload_n hx hb dX7_count_85 rfl (lv_at hl 0 rfl) ?_
                refine va_get (D := (dC, dI)) (ci := 7) (v := .ref (o 0)) (C := RX7) (T := TX7) (N := 16) hx hb hts hin7 hown hK hP 0 rfl rfl 0 (by decide) hW4 (fun _ h9 => h9) rfl dX7_count_86 ?_
                refine va_getN (D := (dC, dI)) (ci := 3) (v := .int (nI (k16))) (C := RX3) (T := TX3) (N := 2) hx hb hts hin3 hown hK hP 1 rfl rfl 1 (by decide) (va_Nw.use rfl (hN.1 _ (List.mem_of_getElem? (i := 2) rfl))) (fun _ h9 => h9) (congrArg (fun z => some (Value.int z)) e16) dX7_count_89 ?_
                exact W.iret (v := nI (k16)) hx hb hr (fun t ht hW => ⟨nI (k16), rfl, (by show nI (k16) = xCount f n k8 k17 k16 pv x; first | (simp only [xCount, xTold, if_neg c_1, if_neg c_2, if_neg c_3, if_neg c_4, if_neg c_5, if_neg c_6, if_pos c_7]; done) | (simp only [xCount, xTold, if_neg c_1, if_neg c_2, if_neg c_3, if_neg c_4, if_neg c_5, if_neg c_6, if_pos c_7]; rfl) | rfl | (simp [xCount, xTold, if_neg c_1, if_neg c_2, if_neg c_3, if_neg c_4, if_neg c_5, if_neg c_6, if_pos c_7]; done)), ht⟩) (fun _ h => by cases h) dX7_count_92
              · skip
                by_cases c_8 : (x).toInt = 7
                · skip
                  refine lv_tableIn (tgt := 93) hx hb dX7_count_1 (by omega) (by omega) (by rw [c_8]; rfl) (by decide) ?_
                  refine lv_aload_n hx hb dX7_count_93 rfl (lv_at hl 0 rfl) ?_
                  refine va_get (D := (dC, dI)) (ci := 7) (v := .int (f 10)) (C := RX7) (T := TX7) (N := 16) hx hb hts hin7 hown hK hP 0 rfl rfl 10 (by decide) hW5 (fun _ h9 => h9) rfl dX7_count_94 ?_
                  exact W.iret (v := f 10) hx hb hr (fun t ht hW => ⟨f 10, rfl, (by show f 10 = xCount f n k8 k17 k16 pv x; first | (simp only [xCount, xTold, if_neg c_1, if_neg c_2, if_neg c_3, if_neg c_4, if_neg c_5, if_neg c_6, if_neg c_7, if_pos c_8]; done) | (simp only [xCount, xTold, if_neg c_1, if_neg c_2, if_neg c_3, if_neg c_4, if_neg c_5, if_neg c_6, if_neg c_7, if_pos c_8]; rfl) | rfl | (simp [xCount, xTold, if_neg c_1, if_neg c_2, if_neg c_3, if_neg c_4, if_neg c_5, if_neg c_6, if_neg c_7, if_pos c_8]; done)), ht⟩) (fun _ h => by cases h) dX7_count_97
                · skip
                  by_cases c_9 : (x).toInt = 8
                  · skip
                    refine lv_tableIn (tgt := 98) hx hb dX7_count_1 (by omega) (by omega) (by rw [c_9]; rfl) (by decide) ?_
                    refine lv_aload_n hx hb dX7_count_98 rfl (lv_at hl 0 rfl) ?_
                    refine va_get (D := (dC, dI)) (ci := 7) (v := .int (f 11)) (C := RX7) (T := TX7) (N := 16) hx hb hts hin7 hown hK hP 0 rfl rfl 11 (by decide) hW6 (fun _ h9 => h9) rfl dX7_count_99 ?_
                    exact W.iret (v := f 11) hx hb hr (fun t ht hW => ⟨f 11, rfl, (by show f 11 = xCount f n k8 k17 k16 pv x; first | (simp only [xCount, xTold, if_neg c_1, if_neg c_2, if_neg c_3, if_neg c_4, if_neg c_5, if_neg c_6, if_neg c_7, if_neg c_8, if_pos c_9]; done) | (simp only [xCount, xTold, if_neg c_1, if_neg c_2, if_neg c_3, if_neg c_4, if_neg c_5, if_neg c_6, if_neg c_7, if_neg c_8, if_pos c_9]; rfl) | rfl | (simp [xCount, xTold, if_neg c_1, if_neg c_2, if_neg c_3, if_neg c_4, if_neg c_5, if_neg c_6, if_neg c_7, if_neg c_8, if_pos c_9]; done)), ht⟩) (fun _ h => by cases h) dX7_count_102
                  · skip
                    refine lv_tableOut (tgt := 103) hx hb dX7_count_1 (by omega) (by decide) ?_
                    refine lv_bipush (v := (-102)) hx hb dX7_count_103 (by decide +kernel) ?_
                    exact W.iret (v := (-102)) hx hb hr (fun t ht hW => ⟨(-102), rfl, (by show (-102) = xCount f n k8 k17 k16 pv x; first | (simp only [xCount, xTold, if_neg c_1, if_neg c_2, if_neg c_3, if_neg c_4, if_neg c_5, if_neg c_6, if_neg c_7, if_neg c_8, if_neg c_9]; done) | (simp only [xCount, xTold, if_neg c_1, if_neg c_2, if_neg c_3, if_neg c_4, if_neg c_5, if_neg c_6, if_neg c_7, if_neg c_8, if_neg c_9]; rfl) | rfl | (simp [xCount, xTold, if_neg c_1, if_neg c_2, if_neg c_3, if_neg c_4, if_neg c_5, if_neg c_6, if_neg c_7, if_neg c_8, if_neg c_9]; done)), ht⟩) (fun _ h => by cases h) dX7_count_105

set_option maxHeartbeats 1200000 in
set_option maxRecDepth 100000 in
theorem c7_withPerson (l : Launch) (dC : Nat → ClassId) (dI : Nat → Nat → Nat) (cI cP : ClassId) (a : Nat) (o : Nat → Nat) (f : Nat → Int32) (g : Nat → Nat → Int32) (pa : Nat → Option Nat) (tv : Nat → Nat → Int32) (n : Nat) (pd pk : Nat → Nat) (pv : Nat → Nat → Int32) (e7 : f 7 = nI n) (b7 : n ≤ 4) (hpa : ∀ i, i < n → pa i = some (pd i)) (hpk : ∀ i, i < n → pk i < 5) (h : Int64) (i : Nat) (hi : i < n) : Met l yX7_withPerson wsX7_withPerson ({ frames := 3, cells := 0, slots := 0, locals := 67 } : Room) (va_Pc [.ref (a), .long (h), .int (nI (i))] (fun U => va_P (dC, dI) vwCl (xW cI cP a o f g pa tv n pd pk pv) U.heap ∧ va_K (dC, dI) vwCl [(cI, .int), (cP, .object RX4)] U ∧ xN U)) (vp_Sl (fun r => r = xWp f n pk pv i h n)) 0 0 (fun _ => False) := by
  refine Met.ofW (cc := cX7_withPerson) (maxL := 7) (ret := (some .long)) (by decide) rfl ?_
  intro p_ e_ s m args below meth c_0 s₁ B hml hv
  obtain ⟨rfl, hP, hK, hN⟩ := hv
  have hx := B.exec
  have hb := B.bytes
  have hr := B.returns
  have hts := atoms_spec (ws := wsX7_withPerson) B.pre
  have hown : s.vm.findClass RX7 = some m.cls := findClass_of_methodNamed B.named
  have hlocks := B.notSynchronized
  have hP : va_P (dC, dI) vwCl (xW cI cP a o f g pa tv n pd pk pv) s.heap := hP
  have hl := lv_entry ([.ref (a), .long (h), .int (nI (i))]) (n := 7) (Nat.le_of_ble_eq_true rfl)
  rw [lg_entry_eq]
  generalize (lg_sl ([.ref (a), .long (h), .int (nI (i))]) ++ List.replicate (7 - (lg_sl ([.ref (a), .long (h), .int (nI (i))])).length) Slot.unset).toArray = ls at hl ⊢
  have hl : lv_has ls 7 [(0, .ref (a)), (1, .long (h)), (3, .int (nI (i)))] := hl
  have hin7 : ∀ w ∈ wsX70, w ∈ wsX7_withPerson := fun _ h => List.mem_cons_of_mem _ (List.mem_append_left _ (List.mem_append_left _ (List.mem_append_left _ (List.mem_append_left _ (List.mem_append_left _ (List.mem_append_right _ h))))))
  have hW0 := hts (.fieldLink RX7 67 "EachEye" "peopleCount" "I") (by decide +kernel)
  have hW1 := hts (.constantLong RX7 199 (31)) (by decide +kernel)
  refine lv_lload_n hx hb dX7_withPerson_0 rfl (lv_at hl 1 rfl) ?_
  refine lv_lstore (lv' := [(4, .long (h)), (0, .ref (a)), (1, .long (h)), (3, .int (nI (i)))]) hx hb dX7_withPerson_1 hl (by decide) rfl (fun ls hl => ?_)
  refine lv_iconst (v := nI (0)) hx hb dX7_withPerson_3 (by decide +kernel) ?_
  refine lv_istore (lv' := [(6, .int (nI (0))), (4, .long (h)), (0, .ref (a)), (1, .long (h)), (3, .int (nI (i)))]) hx hb dX7_withPerson_4 hl (by decide) rfl (fun ls hl => ?_)
  have e0_4 : (h) = hf (fun q9 => xAbout f n pk pv (nI i) (nI q9)) h 0 := rfl
  refine lp_ro (fun j : Nat => 4 - j) (fun j : Nat => j ≤ 4) (fun j : Nat => [(0, .ref (a)), (1, .long (h)), (3, .int (nI (i))), (4, .long (hf (fun q9 => xAbout f n pk pv (nI i) (nI q9)) h j)), (6, .int (nI (j)))]) (0) (by omega) (by show lv_has ls 7 [(0, .ref (a)), (1, .long (h)), (3, .int (nI (i))), (4, .long (hf (fun q9 => xAbout f n pk pv (nI i) (nI q9)) h 0)), (6, .int (nI (0)))]; rw [← e0_4]; exact lv_sub hl [2, 3, 4, 1, 0] rfl) (fun j hI ih_6 ls hl => ?_)
  have hI : j ≤ 4 := hI
  have hl : lv_has ls 7 [(0, .ref (a)), (1, .long (h)), (3, .int (nI (i))), (4, .long (hf (fun q9 => xAbout f n pk pv (nI i) (nI q9)) h j)), (6, .int (nI (j)))] := hl
  refine lv_iload hx hb dX7_withPerson_6 (lv_at hl 4 rfl) ?_
  refine lv_iconst (v := nI (3)) hx hb dX7_withPerson_8 (by decide +kernel) ?_
  refine lv_icmp_gt (tgt := 35) hx hb dX7_withPerson_9 (by decide) (fun c_1 => ?_) (fun c_1 => ?_)
  · skip
    rw [nI_ltI (a := 3) (b := j) (by omega) (by omega)] at c_1
    have hE : 4 = j := by omega
    subst hE
    refine lv_iconst (v := nI (0)) hx hb dX7_withPerson_35 (by decide +kernel) ?_
    refine lv_istore (lv' := [(6, .int (nI (0))), (0, .ref (a)), (1, .long (h)), (3, .int (nI (i))), (4, .long (hf (fun q9 => xAbout f n pk pv (nI i) (nI q9)) h 4))]) hx hb dX7_withPerson_36 hl (by decide) rfl (fun ls hl => ?_)
    have e0_4 : (hf (fun q9 => xAbout f n pk pv (nI i) (nI q9)) h 4) = hf (fun q9 => xAbout f n pk pv (nI i) (nI (10 + q9))) (hf (fun q9 => xAbout f n pk pv (nI i) (nI q9)) h  4) 0 := rfl
    refine lp_ro (fun j : Nat => 6 - j) (fun j : Nat => j ≤ 6) (fun j : Nat => [(0, .ref (a)), (1, .long (h)), (3, .int (nI (i))), (4, .long (hf (fun q9 => xAbout f n pk pv (nI i) (nI (10 + q9))) (hf (fun q9 => xAbout f n pk pv (nI i) (nI q9)) h  4) j)), (6, .int (nI (j)))]) (0) (by omega) (by show lv_has ls 7 [(0, .ref (a)), (1, .long (h)), (3, .int (nI (i))), (4, .long (hf (fun q9 => xAbout f n pk pv (nI i) (nI (10 + q9))) (hf (fun q9 => xAbout f n pk pv (nI i) (nI q9)) h  4) 0)), (6, .int (nI (0)))]; rw [← e0_4]; exact lv_sub hl [1, 2, 3, 4, 0] rfl) (fun j hI ih_38 ls hl => ?_)
    have hI : j ≤ 6 := hI
    have hl : lv_has ls 7 [(0, .ref (a)), (1, .long (h)), (3, .int (nI (i))), (4, .long (hf (fun q9 => xAbout f n pk pv (nI i) (nI (10 + q9))) (hf (fun q9 => xAbout f n pk pv (nI i) (nI q9)) h  4) j)), (6, .int (nI (j)))] := hl
    refine lv_iload hx hb dX7_withPerson_38 (lv_at hl 4 rfl) ?_
    refine lv_bipush (v := nI (6)) hx hb dX7_withPerson_40 (by decide +kernel) ?_
    refine lv_icmp_ge (tgt := 71) hx hb dX7_withPerson_42 (by decide) (fun c_2 => ?_) (fun c_2 => ?_)
    · skip
      rw [nI_leI (a := 6) (b := j) (by omega) (by omega)] at c_2
      have hE : 6 = j := by omega
      subst hE
      refine lv_iconst (v := nI (0)) hx hb dX7_withPerson_71 (by decide +kernel) ?_
      refine lv_istore (lv' := [(6, .int (nI (0))), (0, .ref (a)), (1, .long (h)), (3, .int (nI (i))), (4, .long (hf (fun q9 => xAbout f n pk pv (nI i) (nI (10 + q9))) (hf (fun q9 => xAbout f n pk pv (nI i) (nI q9)) h  4) 6))]) hx hb dX7_withPerson_72 hl (by decide) rfl (fun ls hl => ?_)
      have e0_4 : (hf (fun q9 => xAbout f n pk pv (nI i) (nI (10 + q9))) (hf (fun q9 => xAbout f n pk pv (nI i) (nI q9)) h  4) 6) = hf (fun q9 => xAbout f n pk pv (nI i) (nI (20 + q9))) (hf (fun q9 => xAbout f n pk pv (nI i) (nI (10 + q9))) (hf (fun q9 => xAbout f n pk pv (nI i) (nI q9)) h  4)  6) 0 := rfl
      refine lp_ro (fun j : Nat => 6 - j) (fun j : Nat => j ≤ 6) (fun j : Nat => [(0, .ref (a)), (1, .long (h)), (3, .int (nI (i))), (4, .long (hf (fun q9 => xAbout f n pk pv (nI i) (nI (20 + q9))) (hf (fun q9 => xAbout f n pk pv (nI i) (nI (10 + q9))) (hf (fun q9 => xAbout f n pk pv (nI i) (nI q9)) h  4)  6) j)), (6, .int (nI (j)))]) (0) (by omega) (by show lv_has ls 7 [(0, .ref (a)), (1, .long (h)), (3, .int (nI (i))), (4, .long (hf (fun q9 => xAbout f n pk pv (nI i) (nI (20 + q9))) (hf (fun q9 => xAbout f n pk pv (nI i) (nI (10 + q9))) (hf (fun q9 => xAbout f n pk pv (nI i) (nI q9)) h  4)  6) 0)), (6, .int (nI (0)))]; rw [← e0_4]; exact lv_sub hl [1, 2, 3, 4, 0] rfl) (fun j hI ih_74 ls hl => ?_)
      have hI : j ≤ 6 := hI
      have hl : lv_has ls 7 [(0, .ref (a)), (1, .long (h)), (3, .int (nI (i))), (4, .long (hf (fun q9 => xAbout f n pk pv (nI i) (nI (20 + q9))) (hf (fun q9 => xAbout f n pk pv (nI i) (nI (10 + q9))) (hf (fun q9 => xAbout f n pk pv (nI i) (nI q9)) h  4)  6) j)), (6, .int (nI (j)))] := hl
      refine lv_iload hx hb dX7_withPerson_74 (lv_at hl 4 rfl) ?_
      refine lv_bipush (v := nI (6)) hx hb dX7_withPerson_76 (by decide +kernel) ?_
      refine lv_icmp_ge (tgt := 107) hx hb dX7_withPerson_78 (by decide) (fun c_3 => ?_) (fun c_3 => ?_)
      · skip
        rw [nI_leI (a := 6) (b := j) (by omega) (by omega)] at c_3
        have hE : 6 = j := by omega
        subst hE
        refine lv_iconst (v := nI (0)) hx hb dX7_withPerson_107 (by decide +kernel) ?_
        refine lv_istore (lv' := [(6, .int (nI (0))), (0, .ref (a)), (1, .long (h)), (3, .int (nI (i))), (4, .long (hf (fun q9 => xAbout f n pk pv (nI i) (nI (20 + q9))) (hf (fun q9 => xAbout f n pk pv (nI i) (nI (10 + q9))) (hf (fun q9 => xAbout f n pk pv (nI i) (nI q9)) h  4)  6) 6))]) hx hb dX7_withPerson_108 hl (by decide) rfl (fun ls hl => ?_)
        have e0_4 : (hf (fun q9 => xAbout f n pk pv (nI i) (nI (20 + q9))) (hf (fun q9 => xAbout f n pk pv (nI i) (nI (10 + q9))) (hf (fun q9 => xAbout f n pk pv (nI i) (nI q9)) h  4)  6) 6) = xWp f n pk pv i h 0 := rfl
        refine lp_ro (fun j : Nat => n - j) (fun j : Nat => j ≤ n) (fun j : Nat => [(0, .ref (a)), (1, .long (h)), (3, .int (nI (i))), (4, .long (xWp f n pk pv i h j)), (6, .int (nI (j)))]) (0) (by omega) (by show lv_has ls 7 [(0, .ref (a)), (1, .long (h)), (3, .int (nI (i))), (4, .long (xWp f n pk pv i h 0)), (6, .int (nI (0)))]; rw [← e0_4]; exact lv_sub hl [1, 2, 3, 4, 0] rfl) (fun j hI ih_110 ls hl => ?_)
        have hI : j ≤ n := hI
        have hl : lv_has ls 7 [(0, .ref (a)), (1, .long (h)), (3, .int (nI (i))), (4, .long (xWp f n pk pv i h j)), (6, .int (nI (j)))] := hl
        refine lv_iload hx hb dX7_withPerson_110 (lv_at hl 4 rfl) ?_
        refine lv_aload_n hx hb dX7_withPerson_112 rfl (lv_at hl 0 rfl) ?_
        refine va_get (D := (dC, dI)) (ci := 7) (v := .int (nI (n))) (C := RX7) (T := TX7) (N := 16) hx hb hts hin7 hown hK hP 0 rfl rfl 7 (by decide) hW0 (fun _ h9 => h9) (congrArg (fun z => some (Value.int z)) e7) dX7_withPerson_113 ?_
        refine lv_icmp_ge (tgt := 159) hx hb dX7_withPerson_116 (by decide) (fun c_4 => ?_) (fun c_4 => ?_)
        · skip
          rw [nI_leI (a := n) (b := j) (by omega) (by omega)] at c_4
          have hE : n = j := by omega
          subst hE
          refine lv_lload hx hb dX7_withPerson_159 (lv_at hl 3 rfl) ?_
          exact W.lret (v := xWp f n pk pv i h n) hx hb hr (fun t ht hW => ⟨xWp f n pk pv i h n, rfl, (by show xWp f n pk pv i h n = xWp f n pk pv i h n; rfl), ht⟩) (fun _ h => by cases h) dX7_withPerson_161
        · skip
          rw [nI_leI (a := n) (b := j) (by omega) (by omega)] at c_4
          refine lv_ldc2 (v := 31) hx hb hown hW1 dX7_withPerson_119 ?_
          refine lv_lload hx hb dX7_withPerson_122 (lv_at hl 3 rfl) ?_
          refine lv_lmul hx hb dX7_withPerson_124 ?_
          refine lv_aload_n hx hb dX7_withPerson_125 rfl (lv_at hl 0 rfl) ?_
          refine lv_iload_n hx hb dX7_withPerson_126 rfl (lv_at hl 2 rfl) ?_
          refine lv_iload hx hb dX7_withPerson_127 (lv_at hl 4 rfl) ?_
          refine vp_callSi (va_Run.run (va_runV (As := [.int (nI (i)), .int (nI (j))]) (rest := [.long ((31) * (xWp f n pk pv i h j))]) ⟨hx, hb, hml, hown, hts⟩ (c7_differ l dC dI cI cP a o f g pa tv n pd pk pv e7 (by omega) hpa hpk (nI (i)) (nI (j)) ) (cwV 2 hts gX7_withPerson_X7_differ rfl rfl rfl (by decide +kernel) ⟨Nat.le_of_ble_eq_true rfl, Nat.le_of_ble_eq_true rfl⟩) ⟨fun a U g mk q => ⟨q.1, q.2.1, va_K.moved (u := U) (U := U.calling g mk a) (Vm.Alike.refl U.vm) q.2.2.1, xN.same (u := U) (U := U.calling g mk a) rfl q.2.2.2⟩, va_recv hK hP (ci := 7) (q0 := 0) rfl rfl, fun U hU hW => ⟨rfl, by rw [hU]; exact hP, va_K.moved hW.alike hK, xN.warm hW hN⟩⟩ rfl rfl hl.1 rfl (lv_room (Nat.le_of_ble_eq_true rfl)) dX7_withPerson_129 ⟨Nat.le_of_ble_eq_true rfl, Nat.le_of_ble_eq_true rfl⟩)) (fun r hrc => ?_)
          have hrc : r = xDiffer (f) n pk pv (nI (i)) (nI (j)) := hrc
          subst hrc
          refine lv_i2l hx hb dX7_withPerson_132 rfl ?_
          refine lv_ladd hx hb dX7_withPerson_133 ?_
          refine lv_lstore (lv' := [(4, .long (((31) * (xWp f n pk pv i h j)) + ((xDiffer (f) n pk pv (nI (i)) (nI (j))).toInt64))), (0, .ref (a)), (1, .long (h)), (3, .int (nI (i))), (6, .int (nI (j)))]) hx hb dX7_withPerson_134 hl (by decide) rfl (fun ls hl => ?_)
          refine lv_ldc2 (v := 31) hx hb hown hW1 dX7_withPerson_136 ?_
          refine lv_lload hx hb dX7_withPerson_139 (lv_at hl 0 rfl) ?_
          refine lv_lmul hx hb dX7_withPerson_141 ?_
          refine lv_aload_n hx hb dX7_withPerson_142 rfl (lv_at hl 1 rfl) ?_
          refine lv_iload_n hx hb dX7_withPerson_143 rfl (lv_at hl 3 rfl) ?_
          refine lv_iload hx hb dX7_withPerson_144 (lv_at hl 4 rfl) ?_
          refine vp_callSi (va_Run.run (va_runV (As := [.int (nI (i)), .int (nI (j))]) (rest := [.long ((31) * (((31) * (xWp f n pk pv i h j)) + ((xDiffer (f) n pk pv (nI (i)) (nI (j))).toInt64)))]) ⟨hx, hb, hml, hown, hts⟩ (c7_alike l dC dI cI cP a o f g pa tv n pd pk pv e7 (by omega) hpa hpk (nI (i)) (nI (j)) ) (cwV 2 hts gX7_withPerson_X7_alike rfl rfl rfl (by decide +kernel) ⟨Nat.le_of_ble_eq_true rfl, Nat.le_of_ble_eq_true rfl⟩) ⟨fun a U g mk q => ⟨q.1, q.2.1, va_K.moved (u := U) (U := U.calling g mk a) (Vm.Alike.refl U.vm) q.2.2.1, xN.same (u := U) (U := U.calling g mk a) rfl q.2.2.2⟩, va_recv hK hP (ci := 7) (q0 := 0) rfl rfl, fun U hU hW => ⟨rfl, by rw [hU]; exact hP, va_K.moved hW.alike hK, xN.warm hW hN⟩⟩ rfl rfl hl.1 rfl (lv_room (Nat.le_of_ble_eq_true rfl)) dX7_withPerson_146 ⟨Nat.le_of_ble_eq_true rfl, Nat.le_of_ble_eq_true rfl⟩)) (fun r hrc => ?_)
          have hrc : r = xAlike n pk pv (nI (i)) (nI (j)) := hrc
          subst hrc
          refine lv_i2l hx hb dX7_withPerson_149 rfl ?_
          refine lv_ladd hx hb dX7_withPerson_150 ?_
          refine lv_lstore (lv' := [(4, .long (((31) * (((31) * (xWp f n pk pv i h j)) + ((xDiffer (f) n pk pv (nI (i)) (nI (j))).toInt64))) + ((xAlike n pk pv (nI (i)) (nI (j))).toInt64))), (0, .ref (a)), (1, .long (h)), (3, .int (nI (i))), (6, .int (nI (j)))]) hx hb dX7_withPerson_151 hl (by decide) rfl (fun ls hl => ?_)
          refine lv_iinc (v := nI (j + 1)) (lv' := [(6, .int (nI (j + 1))), (4, .long (((31) * (((31) * (xWp f n pk pv i h j)) + ((xDiffer (f) n pk pv (nI (i)) (nI (j))).toInt64))) + ((xAlike n pk pv (nI (i)) (nI (j))).toInt64))), (0, .ref (a)), (1, .long (h)), (3, .int (nI (i)))]) hx hb dX7_withPerson_153 hl (k := 4) rfl (nI_1 _) (by decide) rfl (fun ls hl => ?_)
          refine lv_goto (tgt := 110) hx hb dX7_withPerson_156 (by decide) ?_
          have e1_4 : (((31) * (((31) * (xWp f n pk pv i h j)) + ((xDiffer (f) n pk pv (nI (i)) (nI (j))).toInt64))) + ((xAlike n pk pv (nI (i)) (nI (j))).toInt64)) = xWp f n pk pv i h (j + 1) := by rfl
          exact ih_110 (j + 1) ls (by show _ < _; omega) (by show _; omega) (by show lv_has ls 7 [(0, .ref (a)), (1, .long (h)), (3, .int (nI (i))), (4, .long (xWp f n pk pv i h (j + 1))), (6, .int (nI ((j + 1))))]; rw [← e1_4]; exact lv_sub hl [2, 3, 4, 1, 0] rfl)
      · skip
        rw [nI_leI (a := 6) (b := j) (by omega) (by omega)] at c_3
        refine lv_ldc2 (v := 31) hx hb hown hW1 dX7_withPerson_81 ?_
        refine lv_lload hx hb dX7_withPerson_84 (lv_at hl 3 rfl) ?_
        refine lv_lmul hx hb dX7_withPerson_86 ?_
        refine lv_aload_n hx hb dX7_withPerson_87 rfl (lv_at hl 0 rfl) ?_
        refine lv_iload_n hx hb dX7_withPerson_88 rfl (lv_at hl 2 rfl) ?_
        refine lv_bipush (v := nI (20)) hx hb dX7_withPerson_89 (by decide +kernel) ?_
        refine lv_iload hx hb dX7_withPerson_91 (lv_at hl 4 rfl) ?_
        refine lv_iadd hx hb dX7_withPerson_93 ?_
        refine tq (nI_add (20) (j)) ?_
        refine vp_callSi (va_Run.run (va_runV (As := [.int (nI (i)), .int (nI (20 + j))]) (rest := [.long ((31) * (hf (fun q9 => xAbout f n pk pv (nI i) (nI (20 + q9))) (hf (fun q9 => xAbout f n pk pv (nI i) (nI (10 + q9))) (hf (fun q9 => xAbout f n pk pv (nI i) (nI q9)) h  4)  6) j))]) ⟨hx, hb, hml, hown, hts⟩ (c7_about l dC dI cI cP a o f g pa tv n pd pk pv e7 (by omega) hpa hpk (nI (i)) (nI (20 + j)) ) (cwV 2 hts gX7_withPerson_X7_about rfl rfl rfl (by decide +kernel) ⟨Nat.le_of_ble_eq_true rfl, Nat.le_of_ble_eq_true rfl⟩) ⟨fun a U g mk q => ⟨q.1, q.2.1, va_K.moved (u := U) (U := U.calling g mk a) (Vm.Alike.refl U.vm) q.2.2.1, xN.same (u := U) (U := U.calling g mk a) rfl q.2.2.2⟩, va_recv hK hP (ci := 7) (q0 := 0) rfl rfl, fun U hU hW => ⟨rfl, by rw [hU]; exact hP, va_K.moved hW.alike hK, xN.warm hW hN⟩⟩ rfl rfl hl.1 rfl (lv_room (Nat.le_of_ble_eq_true rfl)) dX7_withPerson_94 ⟨Nat.le_of_ble_eq_true rfl, Nat.le_of_ble_eq_true rfl⟩)) (fun r hrc => ?_)
        have hrc : r = xAbout (f) n pk pv (nI (i)) (nI (20 + j)) := hrc
        subst hrc
        refine lv_i2l hx hb dX7_withPerson_97 rfl ?_
        refine lv_ladd hx hb dX7_withPerson_98 ?_
        refine lv_lstore (lv' := [(4, .long (((31) * (hf (fun q9 => xAbout f n pk pv (nI i) (nI (20 + q9))) (hf (fun q9 => xAbout f n pk pv (nI i) (nI (10 + q9))) (hf (fun q9 => xAbout f n pk pv (nI i) (nI q9)) h  4)  6) j)) + ((xAbout (f) n pk pv (nI (i)) (nI (20 + j))).toInt64))), (0, .ref (a)), (1, .long (h)), (3, .int (nI (i))), (6, .int (nI (j)))]) hx hb dX7_withPerson_99 hl (by decide) rfl (fun ls hl => ?_)
        refine lv_iinc (v := nI (j + 1)) (lv' := [(6, .int (nI (j + 1))), (4, .long (((31) * (hf (fun q9 => xAbout f n pk pv (nI i) (nI (20 + q9))) (hf (fun q9 => xAbout f n pk pv (nI i) (nI (10 + q9))) (hf (fun q9 => xAbout f n pk pv (nI i) (nI q9)) h  4)  6) j)) + ((xAbout (f) n pk pv (nI (i)) (nI (20 + j))).toInt64))), (0, .ref (a)), (1, .long (h)), (3, .int (nI (i)))]) hx hb dX7_withPerson_101 hl (k := 4) rfl (nI_1 _) (by decide) rfl (fun ls hl => ?_)
        refine lv_goto (tgt := 74) hx hb dX7_withPerson_104 (by decide) ?_
        have e1_4 : (((31) * (hf (fun q9 => xAbout f n pk pv (nI i) (nI (20 + q9))) (hf (fun q9 => xAbout f n pk pv (nI i) (nI (10 + q9))) (hf (fun q9 => xAbout f n pk pv (nI i) (nI q9)) h  4)  6) j)) + ((xAbout (f) n pk pv (nI (i)) (nI (20 + j))).toInt64)) = hf (fun q9 => xAbout f n pk pv (nI i) (nI (20 + q9))) (hf (fun q9 => xAbout f n pk pv (nI i) (nI (10 + q9))) (hf (fun q9 => xAbout f n pk pv (nI i) (nI q9)) h  4)  6) (j + 1) := by rfl
        exact ih_74 (j + 1) ls (by show _ < _; omega) (by show _; omega) (by show lv_has ls 7 [(0, .ref (a)), (1, .long (h)), (3, .int (nI (i))), (4, .long (hf (fun q9 => xAbout f n pk pv (nI i) (nI (20 + q9))) (hf (fun q9 => xAbout f n pk pv (nI i) (nI (10 + q9))) (hf (fun q9 => xAbout f n pk pv (nI i) (nI q9)) h  4)  6) (j + 1))), (6, .int (nI ((j + 1))))]; rw [← e1_4]; exact lv_sub hl [2, 3, 4, 1, 0] rfl)
    · skip
      rw [nI_leI (a := 6) (b := j) (by omega) (by omega)] at c_2
      refine lv_ldc2 (v := 31) hx hb hown hW1 dX7_withPerson_45 ?_
      refine lv_lload hx hb dX7_withPerson_48 (lv_at hl 3 rfl) ?_
      refine lv_lmul hx hb dX7_withPerson_50 ?_
      refine lv_aload_n hx hb dX7_withPerson_51 rfl (lv_at hl 0 rfl) ?_
      refine lv_iload_n hx hb dX7_withPerson_52 rfl (lv_at hl 2 rfl) ?_
      refine lv_bipush (v := nI (10)) hx hb dX7_withPerson_53 (by decide +kernel) ?_
      refine lv_iload hx hb dX7_withPerson_55 (lv_at hl 4 rfl) ?_
      refine lv_iadd hx hb dX7_withPerson_57 ?_
      refine tq (nI_add (10) (j)) ?_
      refine vp_callSi (va_Run.run (va_runV (As := [.int (nI (i)), .int (nI (10 + j))]) (rest := [.long ((31) * (hf (fun q9 => xAbout f n pk pv (nI i) (nI (10 + q9))) (hf (fun q9 => xAbout f n pk pv (nI i) (nI q9)) h  4) j))]) ⟨hx, hb, hml, hown, hts⟩ (c7_about l dC dI cI cP a o f g pa tv n pd pk pv e7 (by omega) hpa hpk (nI (i)) (nI (10 + j)) ) (cwV 2 hts gX7_withPerson_X7_about rfl rfl rfl (by decide +kernel) ⟨Nat.le_of_ble_eq_true rfl, Nat.le_of_ble_eq_true rfl⟩) ⟨fun a U g mk q => ⟨q.1, q.2.1, va_K.moved (u := U) (U := U.calling g mk a) (Vm.Alike.refl U.vm) q.2.2.1, xN.same (u := U) (U := U.calling g mk a) rfl q.2.2.2⟩, va_recv hK hP (ci := 7) (q0 := 0) rfl rfl, fun U hU hW => ⟨rfl, by rw [hU]; exact hP, va_K.moved hW.alike hK, xN.warm hW hN⟩⟩ rfl rfl hl.1 rfl (lv_room (Nat.le_of_ble_eq_true rfl)) dX7_withPerson_58 ⟨Nat.le_of_ble_eq_true rfl, Nat.le_of_ble_eq_true rfl⟩)) (fun r hrc => ?_)
      have hrc : r = xAbout (f) n pk pv (nI (i)) (nI (10 + j)) := hrc
      subst hrc
      refine lv_i2l hx hb dX7_withPerson_61 rfl ?_
      refine lv_ladd hx hb dX7_withPerson_62 ?_
      refine lv_lstore (lv' := [(4, .long (((31) * (hf (fun q9 => xAbout f n pk pv (nI i) (nI (10 + q9))) (hf (fun q9 => xAbout f n pk pv (nI i) (nI q9)) h  4) j)) + ((xAbout (f) n pk pv (nI (i)) (nI (10 + j))).toInt64))), (0, .ref (a)), (1, .long (h)), (3, .int (nI (i))), (6, .int (nI (j)))]) hx hb dX7_withPerson_63 hl (by decide) rfl (fun ls hl => ?_)
      refine lv_iinc (v := nI (j + 1)) (lv' := [(6, .int (nI (j + 1))), (4, .long (((31) * (hf (fun q9 => xAbout f n pk pv (nI i) (nI (10 + q9))) (hf (fun q9 => xAbout f n pk pv (nI i) (nI q9)) h  4) j)) + ((xAbout (f) n pk pv (nI (i)) (nI (10 + j))).toInt64))), (0, .ref (a)), (1, .long (h)), (3, .int (nI (i)))]) hx hb dX7_withPerson_65 hl (k := 4) rfl (nI_1 _) (by decide) rfl (fun ls hl => ?_)
      refine lv_goto (tgt := 38) hx hb dX7_withPerson_68 (by decide) ?_
      have e1_4 : (((31) * (hf (fun q9 => xAbout f n pk pv (nI i) (nI (10 + q9))) (hf (fun q9 => xAbout f n pk pv (nI i) (nI q9)) h  4) j)) + ((xAbout (f) n pk pv (nI (i)) (nI (10 + j))).toInt64)) = hf (fun q9 => xAbout f n pk pv (nI i) (nI (10 + q9))) (hf (fun q9 => xAbout f n pk pv (nI i) (nI q9)) h  4) (j + 1) := by rfl
      exact ih_38 (j + 1) ls (by show _ < _; omega) (by show _; omega) (by show lv_has ls 7 [(0, .ref (a)), (1, .long (h)), (3, .int (nI (i))), (4, .long (hf (fun q9 => xAbout f n pk pv (nI i) (nI (10 + q9))) (hf (fun q9 => xAbout f n pk pv (nI i) (nI q9)) h  4) (j + 1))), (6, .int (nI ((j + 1))))]; rw [← e1_4]; exact lv_sub hl [2, 3, 4, 1, 0] rfl)
  · skip
    rw [nI_ltI (a := 3) (b := j) (by omega) (by omega)] at c_1
    refine lv_ldc2 (v := 31) hx hb hown hW1 dX7_withPerson_12 ?_
    refine lv_lload hx hb dX7_withPerson_15 (lv_at hl 3 rfl) ?_
    refine lv_lmul hx hb dX7_withPerson_17 ?_
    refine lv_aload_n hx hb dX7_withPerson_18 rfl (lv_at hl 0 rfl) ?_
    refine lv_iload_n hx hb dX7_withPerson_19 rfl (lv_at hl 2 rfl) ?_
    refine lv_iload hx hb dX7_withPerson_20 (lv_at hl 4 rfl) ?_
    refine vp_callSi (va_Run.run (va_runV (As := [.int (nI (i)), .int (nI (j))]) (rest := [.long ((31) * (hf (fun q9 => xAbout f n pk pv (nI i) (nI q9)) h j))]) ⟨hx, hb, hml, hown, hts⟩ (c7_about l dC dI cI cP a o f g pa tv n pd pk pv e7 (by omega) hpa hpk (nI (i)) (nI (j)) ) (cwV 2 hts gX7_withPerson_X7_about rfl rfl rfl (by decide +kernel) ⟨Nat.le_of_ble_eq_true rfl, Nat.le_of_ble_eq_true rfl⟩) ⟨fun a U g mk q => ⟨q.1, q.2.1, va_K.moved (u := U) (U := U.calling g mk a) (Vm.Alike.refl U.vm) q.2.2.1, xN.same (u := U) (U := U.calling g mk a) rfl q.2.2.2⟩, va_recv hK hP (ci := 7) (q0 := 0) rfl rfl, fun U hU hW => ⟨rfl, by rw [hU]; exact hP, va_K.moved hW.alike hK, xN.warm hW hN⟩⟩ rfl rfl hl.1 rfl (lv_room (Nat.le_of_ble_eq_true rfl)) dX7_withPerson_22 ⟨Nat.le_of_ble_eq_true rfl, Nat.le_of_ble_eq_true rfl⟩)) (fun r hrc => ?_)
    have hrc : r = xAbout (f) n pk pv (nI (i)) (nI (j)) := hrc
    subst hrc
    refine lv_i2l hx hb dX7_withPerson_25 rfl ?_
    refine lv_ladd hx hb dX7_withPerson_26 ?_
    refine lv_lstore (lv' := [(4, .long (((31) * (hf (fun q9 => xAbout f n pk pv (nI i) (nI q9)) h j)) + ((xAbout (f) n pk pv (nI (i)) (nI (j))).toInt64))), (0, .ref (a)), (1, .long (h)), (3, .int (nI (i))), (6, .int (nI (j)))]) hx hb dX7_withPerson_27 hl (by decide) rfl (fun ls hl => ?_)
    refine lv_iinc (v := nI (j + 1)) (lv' := [(6, .int (nI (j + 1))), (4, .long (((31) * (hf (fun q9 => xAbout f n pk pv (nI i) (nI q9)) h j)) + ((xAbout (f) n pk pv (nI (i)) (nI (j))).toInt64))), (0, .ref (a)), (1, .long (h)), (3, .int (nI (i)))]) hx hb dX7_withPerson_29 hl (k := 4) rfl (nI_1 _) (by decide) rfl (fun ls hl => ?_)
    refine lv_goto (tgt := 6) hx hb dX7_withPerson_32 (by decide) ?_
    have e1_4 : (((31) * (hf (fun q9 => xAbout f n pk pv (nI i) (nI q9)) h j)) + ((xAbout (f) n pk pv (nI (i)) (nI (j))).toInt64)) = hf (fun q9 => xAbout f n pk pv (nI i) (nI q9)) h (j + 1) := by rfl
    exact ih_6 (j + 1) ls (by show _ < _; omega) (by show _; omega) (by show lv_has ls 7 [(0, .ref (a)), (1, .long (h)), (3, .int (nI (i))), (4, .long (hf (fun q9 => xAbout f n pk pv (nI i) (nI q9)) h (j + 1))), (6, .int (nI ((j + 1))))]; rw [← e1_4]; exact lv_sub hl [2, 3, 4, 1, 0] rfl)

set_option maxHeartbeats 1200000 in
set_option maxRecDepth 100000 in
theorem c7_digest (l : Launch) (dC : Nat → ClassId) (dI : Nat → Nat → Nat) (cI cP : ClassId) (a : Nat) (o : Nat → Nat) (f : Nat → Int32) (g : Nat → Nat → Int32) (pa : Nat → Option Nat) (tv : Nat → Nat → Int32) (n : Nat) (pd pk : Nat → Nat) (pv : Nat → Nat → Int32) (e7 : f 7 = nI n) (b7 : n ≤ 4) (hpa : ∀ i, i < n → pa i = some (pd i)) (hpk : ∀ i, i < n → pk i < 5) {k8 : Nat} (e8 : f 8 = nI k8) (b8 : k8 ≤ 5) {k16 : Nat} (e16 : f 16 = nI k16) (b16 : k16 ≤ 10) {k17 : Nat} (e17 : f 17 = nI k17) (b17 : k17 ≤ 8) : Met l yX7_digest wsX7_digest ({ frames := 6, cells := 0, slots := 0, locals := 135 } : Room) (va_Pc [.ref (a)] (fun U => va_P (dC, dI) vwCl (xW cI cP a o f g pa tv n pd pk pv) U.heap ∧ va_K (dC, dI) vwCl [(cI, .int), (cP, .object RX4)] U ∧ xN U)) (vp_Sl (fun r => r = xDig f g n k8 k17 k16 pk pv)) 0 0 (fun _ => False) := by
  refine Met.ofW (cc := cX7_digest) (maxL := 4) (ret := (some .long)) (by decide) rfl ?_
  intro p_ e_ s m args below meth c_0 s₁ B hml hv
  obtain ⟨rfl, hP, hK, hN⟩ := hv
  have hx := B.exec
  have hb := B.bytes
  have hr := B.returns
  have hts := atoms_spec (ws := wsX7_digest) B.pre
  have hown : s.vm.findClass RX7 = some m.cls := findClass_of_methodNamed B.named
  have hlocks := B.notSynchronized
  have hP : va_P (dC, dI) vwCl (xW cI cP a o f g pa tv n pd pk pv) s.heap := hP
  have hl := lv_entry ([.ref (a)]) (n := 4) (Nat.le_of_ble_eq_true rfl)
  rw [lg_entry_eq]
  generalize (lg_sl ([.ref (a)]) ++ List.replicate (4 - (lg_sl ([.ref (a)])).length) Slot.unset).toArray = ls at hl ⊢
  have hl : lv_has ls 4 [(0, .ref (a))] := hl
  have hin3 : ∀ w ∈ wsX30, w ∈ wsX7_digest := fun _ h => List.mem_cons_of_mem _ (List.mem_append_left _ (List.mem_append_left _ (List.mem_append_left _ (List.mem_append_left _ (List.mem_append_left _ (List.mem_append_left _ (List.mem_append_right _ h)))))))
  have hin7 : ∀ w ∈ wsX70, w ∈ wsX7_digest := fun _ h => List.mem_cons_of_mem _ (List.mem_append_left _ (List.mem_append_left _ (List.mem_append_left _ (List.mem_append_left _ (List.mem_append_left _ (List.mem_append_left _ (List.mem_append_left _ (List.mem_append_right _ h))))))))
  have hW0 := hts (.constantLong RX7 197 (853)) (by decide +kernel)
  have hW1 := hts (.fieldLink RX7 39 "EachEye" "theSign" "I") (by decide +kernel)
  have hW2 := hts (.fieldLink RX7 67 "EachEye" "peopleCount" "I") (by decide +kernel)
  have hW3 := hts (.fieldLink RX7 70 "EachEye" "inkCount" "I") (by decide +kernel)
  have hW4 := hts (.fieldLink RX7 12 "EachEye" "page" "LEachEye$Page;") (by decide +kernel)
  have hW5 := hts (.constantLong RX7 199 (31)) (by decide +kernel)
  have hW6 := hts (.fieldLink RX7 22 "EachEye" "inks" "[I") (by decide +kernel)
  refine lv_ldc2 (v := 853) hx hb hown hW0 dX7_digest_0 ?_
  refine lv_lstore_n (lv' := [(1, .long (853)), (0, .ref (a))]) hx hb dX7_digest_3 rfl hl (by decide) rfl (fun ls hl => ?_)
  refine lv_aload_n hx hb dX7_digest_4 rfl (lv_at hl 1 rfl) ?_
  refine va_get (D := (dC, dI)) (ci := 7) (v := .int (f 6)) (C := RX7) (T := TX7) (N := 16) hx hb hts hin7 hown hK hP 0 rfl rfl 6 (by decide) hW1 (fun _ h9 => h9) rfl dX7_digest_5 ?_
  refine lv_iconst (v := (-1)) hx hb dX7_digest_8 (by decide +kernel) ?_
  refine lv_icmp_eq (tgt := 68) hx hb dX7_digest_9 (by decide) (fun c_1 => ?_) (fun c_1 => ?_)
  · skip
    have hT0 : f 6 = (-1) := c_1
    refine lv_iconst (v := nI (0)) hx hb dX7_digest_68 (by decide +kernel) ?_
    refine lv_istore_n (lv' := [(3, .int (nI (0))), (1, .long (853)), (0, .ref (a))]) hx hb dX7_digest_69 rfl hl (by decide) rfl (fun ls hl => ?_)
    have e0_1 : (853) = xD3 f g n k8 pk pv 0 := (by show _ = xD2 f g n k8 pk pv; rw [xD2]; first | rw [if_pos hT0] | rw [if_neg hT0])
    refine lp_ro (fun j : Nat => n - j) (fun j : Nat => j ≤ n) (fun j : Nat => [(0, .ref (a)), (1, .long (xD3 f g n k8 pk pv j)), (3, .int (nI (j)))]) (0) (by omega) (by show lv_has ls 4 [(0, .ref (a)), (1, .long (xD3 f g n k8 pk pv 0)), (3, .int (nI (0)))]; rw [← e0_1]; exact lv_sub hl [2, 1, 0] rfl) (fun j hI ih_70 ls hl => ?_)
    have hI : j ≤ n := hI
    have hl : lv_has ls 4 [(0, .ref (a)), (1, .long (xD3 f g n k8 pk pv j)), (3, .int (nI (j)))] := hl
    refine lv_iload_n hx hb dX7_digest_70 rfl (lv_at hl 2 rfl) ?_
    refine lv_aload_n hx hb dX7_digest_71 rfl (lv_at hl 0 rfl) ?_
    refine va_get (D := (dC, dI)) (ci := 7) (v := .int (nI (n))) (C := RX7) (T := TX7) (N := 16) hx hb hts hin7 hown hK hP 0 rfl rfl 7 (by decide) hW2 (fun _ h9 => h9) (congrArg (fun z => some (Value.int z)) e7) dX7_digest_72 ?_
    refine lv_icmp_ge (tgt := 91) hx hb dX7_digest_75 (by decide) (fun c_2 => ?_) (fun c_2 => ?_)
    · skip
      rw [nI_leI (a := n) (b := j) (by omega) (by omega)] at c_2
      have hE : n = j := by omega
      subst hE
      refine lv_iconst (v := nI (0)) hx hb dX7_digest_91 (by decide +kernel) ?_
      refine lv_istore_n (lv' := [(3, .int (nI (0))), (0, .ref (a)), (1, .long (xD3 f g n k8 pk pv n))]) hx hb dX7_digest_92 rfl hl (by decide) rfl (fun ls hl => ?_)
      have e0_1 : (xD3 f g n k8 pk pv n) = hf (fun q9 => g 1 q9) (xD3 f g n k8 pk pv n) 0 := rfl
      refine lp_ro (fun j : Nat => k8 - j) (fun j : Nat => j ≤ k8) (fun j : Nat => [(0, .ref (a)), (1, .long (hf (fun q9 => g 1 q9) (xD3 f g n k8 pk pv n) j)), (3, .int (nI (j)))]) (0) (by omega) (by show lv_has ls 4 [(0, .ref (a)), (1, .long (hf (fun q9 => g 1 q9) (xD3 f g n k8 pk pv n) 0)), (3, .int (nI (0)))]; rw [← e0_1]; exact lv_sub hl [1, 2, 0] rfl) (fun j hI ih_93 ls hl => ?_)
      have hI : j ≤ k8 := hI
      have hl : lv_has ls 4 [(0, .ref (a)), (1, .long (hf (fun q9 => g 1 q9) (xD3 f g n k8 pk pv n) j)), (3, .int (nI (j)))] := hl
      refine lv_iload_n hx hb dX7_digest_93 rfl (lv_at hl 2 rfl) ?_
      refine lv_aload_n hx hb dX7_digest_94 rfl (lv_at hl 0 rfl) ?_
      refine va_get (D := (dC, dI)) (ci := 7) (v := .int (nI (k8))) (C := RX7) (T := TX7) (N := 16) hx hb hts hin7 hown hK hP 0 rfl rfl 8 (by decide) hW3 (fun _ h9 => h9) (congrArg (fun z => some (Value.int z)) e8) dX7_digest_95 ?_
      refine lv_icmp_ge (tgt := 121) hx hb dX7_digest_98 (by decide) (fun c_3 => ?_) (fun c_3 => ?_)
      · skip
        rw [nI_leI (a := k8) (b := j) (by omega) (by omega)] at c_3
        have hE : k8 = j := by omega
        subst hE
        refine lv_iconst (v := nI (0)) hx hb dX7_digest_121 (by decide +kernel) ?_
        refine lv_istore_n (lv' := [(3, .int (nI (0))), (0, .ref (a)), (1, .long (hf (fun q9 => g 1 q9) (xD3 f g n k8 pk pv n) k8))]) hx hb dX7_digest_122 rfl hl (by decide) rfl (fun ls hl => ?_)
        have e0_1 : (hf (fun q9 => g 1 q9) (xD3 f g n k8 pk pv n) k8) = hf (fun q9 => g 0 q9) (hf (fun q9 => g 1 q9) (xD3 f g n k8 pk pv n)  k8) 0 := rfl
        refine lp_ro (fun j : Nat => k16 - j) (fun j : Nat => j ≤ k16) (fun j : Nat => [(0, .ref (a)), (1, .long (hf (fun q9 => g 0 q9) (hf (fun q9 => g 1 q9) (xD3 f g n k8 pk pv n)  k8) j)), (3, .int (nI (j)))]) (0) (by omega) (by show lv_has ls 4 [(0, .ref (a)), (1, .long (hf (fun q9 => g 0 q9) (hf (fun q9 => g 1 q9) (xD3 f g n k8 pk pv n)  k8) 0)), (3, .int (nI (0)))]; rw [← e0_1]; exact lv_sub hl [1, 2, 0] rfl) (fun j hI ih_123 ls hl => ?_)
        have hI : j ≤ k16 := hI
        have hl : lv_has ls 4 [(0, .ref (a)), (1, .long (hf (fun q9 => g 0 q9) (hf (fun q9 => g 1 q9) (xD3 f g n k8 pk pv n)  k8) j)), (3, .int (nI (j)))] := hl
        refine lv_iload_n hx hb dX7_digest_123 rfl (lv_at hl 2 rfl) ?_
        refine lv_aload_n hx hb dX7_digest_124 rfl (lv_at hl 0 rfl) ?_
        refine va_get (D := (dC, dI)) (ci := 7) (v := .ref (o 0)) (C := RX7) (T := TX7) (N := 16) hx hb hts hin7 hown hK hP 0 rfl rfl 0 (by decide) hW4 (fun _ h9 => h9) rfl dX7_digest_125 ?_
        refine va_getN (D := (dC, dI)) (ci := 3) (v := .int (nI (k16))) (C := RX3) (T := TX3) (N := 2) hx hb hts hin3 hown hK hP 1 rfl rfl 1 (by decide) (va_Nw.use rfl (hN.1 _ (List.mem_of_getElem? (i := 2) rfl))) (fun _ h9 => h9) (congrArg (fun z => some (Value.int z)) e16) dX7_digest_128 ?_
        refine lv_icmp_ge (tgt := 157) hx hb dX7_digest_131 (by decide) (fun c_4 => ?_) (fun c_4 => ?_)
        · skip
          rw [nI_leI (a := k16) (b := j) (by omega) (by omega)] at c_4
          have hE : k16 = j := by omega
          subst hE
          refine lv_iconst (v := nI (0)) hx hb dX7_digest_157 (by decide +kernel) ?_
          refine lv_istore_n (lv' := [(3, .int (nI (0))), (0, .ref (a)), (1, .long (hf (fun q9 => g 0 q9) (hf (fun q9 => g 1 q9) (xD3 f g n k8 pk pv n)  k8) k16))]) hx hb dX7_digest_158 rfl hl (by decide) rfl (fun ls hl => ?_)
          have e0_1 : (hf (fun q9 => g 0 q9) (hf (fun q9 => g 1 q9) (xD3 f g n k8 pk pv n)  k8) k16) = hf (fun q9 => xCount f n k8 k17 k16 pv (nI q9)) (hf (fun q9 => g 0 q9) (hf (fun q9 => g 1 q9) (xD3 f g n k8 pk pv n)  k8)  k16) 0 := rfl
          refine lp_ro (fun j : Nat => 9 - j) (fun j : Nat => j ≤ 9) (fun j : Nat => [(0, .ref (a)), (1, .long (hf (fun q9 => xCount f n k8 k17 k16 pv (nI q9)) (hf (fun q9 => g 0 q9) (hf (fun q9 => g 1 q9) (xD3 f g n k8 pk pv n)  k8)  k16) j)), (3, .int (nI (j)))]) (0) (by omega) (by show lv_has ls 4 [(0, .ref (a)), (1, .long (hf (fun q9 => xCount f n k8 k17 k16 pv (nI q9)) (hf (fun q9 => g 0 q9) (hf (fun q9 => g 1 q9) (xD3 f g n k8 pk pv n)  k8)  k16) 0)), (3, .int (nI (0)))]; rw [← e0_1]; exact lv_sub hl [1, 2, 0] rfl) (fun j hI ih_159 ls hl => ?_)
          have hI : j ≤ 9 := hI
          have hl : lv_has ls 4 [(0, .ref (a)), (1, .long (hf (fun q9 => xCount f n k8 k17 k16 pv (nI q9)) (hf (fun q9 => g 0 q9) (hf (fun q9 => g 1 q9) (xD3 f g n k8 pk pv n)  k8)  k16) j)), (3, .int (nI (j)))] := hl
          refine lv_iload_n hx hb dX7_digest_159 rfl (lv_at hl 2 rfl) ?_
          refine lv_bipush (v := nI (8)) hx hb dX7_digest_160 (by decide +kernel) ?_
          refine lv_icmp_gt (tgt := 184) hx hb dX7_digest_162 (by decide) (fun c_5 => ?_) (fun c_5 => ?_)
          · skip
            rw [nI_ltI (a := 8) (b := j) (by omega) (by omega)] at c_5
            have hE : 9 = j := by omega
            subst hE
            refine lv_lload_n hx hb dX7_digest_184 rfl (lv_at hl 1 rfl) ?_
            exact W.lret (v := hf (fun q9 => xCount f n k8 k17 k16 pv (nI q9)) (hf (fun q9 => g 0 q9) (hf (fun q9 => g 1 q9) (xD3 f g n k8 pk pv n)  k8)  k16) 9) hx hb hr (fun t ht hW => ⟨hf (fun q9 => xCount f n k8 k17 k16 pv (nI q9)) (hf (fun q9 => g 0 q9) (hf (fun q9 => g 1 q9) (xD3 f g n k8 pk pv n)  k8)  k16) 9, rfl, (by show hf (fun q9 => xCount f n k8 k17 k16 pv (nI q9)) (hf (fun q9 => g 0 q9) (hf (fun q9 => g 1 q9) (xD3 f g n k8 pk pv n)  k8)  k16) 9 = xDig f g n k8 k17 k16 pk pv; rfl), ht⟩) (fun _ h => by cases h) dX7_digest_185
          · skip
            rw [nI_ltI (a := 8) (b := j) (by omega) (by omega)] at c_5
            refine lv_ldc2 (v := 31) hx hb hown hW5 dX7_digest_165 ?_
            refine lv_lload_n hx hb dX7_digest_168 rfl (lv_at hl 1 rfl) ?_
            refine lv_lmul hx hb dX7_digest_169 ?_
            refine lv_aload_n hx hb dX7_digest_170 rfl (lv_at hl 0 rfl) ?_
            refine lv_iload_n hx hb dX7_digest_171 rfl (lv_at hl 2 rfl) ?_
            refine vp_callSi (va_Run.run (va_runV (As := [.int (nI (j))]) (rest := [.long ((31) * (hf (fun q9 => xCount f n k8 k17 k16 pv (nI q9)) (hf (fun q9 => g 0 q9) (hf (fun q9 => g 1 q9) (xD3 f g n k8 pk pv n)  k8)  k16) j))]) ⟨hx, hb, hml, hown, hts⟩ (c7_count l dC dI cI cP a o f g pa tv n pd pk pv e7 (by omega) hpa hpk e8 (by omega) e16 (by omega) e17 (by omega) (nI (j)) ) (cwV 1 hts gX7_digest_X7_count rfl rfl rfl (by decide +kernel) ⟨Nat.le_of_ble_eq_true rfl, Nat.le_of_ble_eq_true rfl⟩) ⟨fun a U g mk q => ⟨q.1, q.2.1, va_K.moved (u := U) (U := U.calling g mk a) (Vm.Alike.refl U.vm) q.2.2.1, xN.same (u := U) (U := U.calling g mk a) rfl q.2.2.2⟩, va_recv hK hP (ci := 7) (q0 := 0) rfl rfl, fun U hU hW => ⟨rfl, by rw [hU]; exact hP, va_K.moved hW.alike hK, xN.warm hW hN⟩⟩ rfl rfl hl.1 rfl (lv_room (Nat.le_of_ble_eq_true rfl)) dX7_digest_172 ⟨Nat.le_of_ble_eq_true rfl, Nat.le_of_ble_eq_true rfl⟩)) (fun r hrc => ?_)
            have hrc : r = xCount (f) n (k8) (k17) (k16) pv (nI (j)) := hrc
            subst hrc
            refine lv_i2l hx hb dX7_digest_175 rfl ?_
            refine lv_ladd hx hb dX7_digest_176 ?_
            refine lv_lstore_n (lv' := [(1, .long (((31) * (hf (fun q9 => xCount f n k8 k17 k16 pv (nI q9)) (hf (fun q9 => g 0 q9) (hf (fun q9 => g 1 q9) (xD3 f g n k8 pk pv n)  k8)  k16) j)) + ((xCount (f) n (k8) (k17) (k16) pv (nI (j))).toInt64))), (0, .ref (a)), (3, .int (nI (j)))]) hx hb dX7_digest_177 rfl hl (by decide) rfl (fun ls hl => ?_)
            refine lv_iinc (v := nI (j + 1)) (lv' := [(3, .int (nI (j + 1))), (1, .long (((31) * (hf (fun q9 => xCount f n k8 k17 k16 pv (nI q9)) (hf (fun q9 => g 0 q9) (hf (fun q9 => g 1 q9) (xD3 f g n k8 pk pv n)  k8)  k16) j)) + ((xCount (f) n (k8) (k17) (k16) pv (nI (j))).toInt64))), (0, .ref (a))]) hx hb dX7_digest_178 hl (k := 2) rfl (nI_1 _) (by decide) rfl (fun ls hl => ?_)
            refine lv_goto (tgt := 159) hx hb dX7_digest_181 (by decide) ?_
            have e1_1 : (((31) * (hf (fun q9 => xCount f n k8 k17 k16 pv (nI q9)) (hf (fun q9 => g 0 q9) (hf (fun q9 => g 1 q9) (xD3 f g n k8 pk pv n)  k8)  k16) j)) + ((xCount (f) n (k8) (k17) (k16) pv (nI (j))).toInt64)) = hf (fun q9 => xCount f n k8 k17 k16 pv (nI q9)) (hf (fun q9 => g 0 q9) (hf (fun q9 => g 1 q9) (xD3 f g n k8 pk pv n)  k8)  k16) (j + 1) := by rfl
            exact ih_159 (j + 1) ls (by show _ < _; omega) (by show _; omega) (by show lv_has ls 4 [(0, .ref (a)), (1, .long (hf (fun q9 => xCount f n k8 k17 k16 pv (nI q9)) (hf (fun q9 => g 0 q9) (hf (fun q9 => g 1 q9) (xD3 f g n k8 pk pv n)  k8)  k16) (j + 1))), (3, .int (nI ((j + 1))))]; rw [← e1_1]; exact lv_sub hl [2, 1, 0] rfl)
        · skip
          rw [nI_leI (a := k16) (b := j) (by omega) (by omega)] at c_4
          refine lv_ldc2 (v := 31) hx hb hown hW5 dX7_digest_134 ?_
          refine lv_lload_n hx hb dX7_digest_137 rfl (lv_at hl 1 rfl) ?_
          refine lv_lmul hx hb dX7_digest_138 ?_
          refine lv_aload_n hx hb dX7_digest_139 rfl (lv_at hl 0 rfl) ?_
          refine va_get (D := (dC, dI)) (ci := 7) (v := .ref (o 0)) (C := RX7) (T := TX7) (N := 16) hx hb hts hin7 hown hK hP 0 rfl rfl 0 (by decide) hW4 (fun _ h9 => h9) rfl dX7_digest_140 ?_
          refine va_getN (D := (dC, dI)) (ci := 3) (v := .ref (o 6)) (C := RX3) (T := TX3) (N := 2) hx hb hts hin3 hown hK hP 1 rfl rfl 0 (by decide) (va_Nw.use rfl (hN.1 _ (List.mem_of_getElem? (i := 1) rfl))) (fun _ h9 => h9) rfl dX7_digest_143 ?_
          refine lv_iload_n hx hb dX7_digest_146 rfl (lv_at hl 2 rfl) ?_
          refine ald hx hb hK hP (f := g 0) (k := j) 2 0 rfl rfl rfl (by omega) (by decide) dX7_digest_147 ?_
          refine lv_i2l hx hb dX7_digest_148 rfl ?_
          refine lv_ladd hx hb dX7_digest_149 ?_
          refine lv_lstore_n (lv' := [(1, .long (((31) * (hf (fun q9 => g 0 q9) (hf (fun q9 => g 1 q9) (xD3 f g n k8 pk pv n)  k8) j)) + ((g 0 (j)).toInt64))), (0, .ref (a)), (3, .int (nI (j)))]) hx hb dX7_digest_150 rfl hl (by decide) rfl (fun ls hl => ?_)
          refine lv_iinc (v := nI (j + 1)) (lv' := [(3, .int (nI (j + 1))), (1, .long (((31) * (hf (fun q9 => g 0 q9) (hf (fun q9 => g 1 q9) (xD3 f g n k8 pk pv n)  k8) j)) + ((g 0 (j)).toInt64))), (0, .ref (a))]) hx hb dX7_digest_151 hl (k := 2) rfl (nI_1 _) (by decide) rfl (fun ls hl => ?_)
          refine lv_goto (tgt := 123) hx hb dX7_digest_154 (by decide) ?_
          have e1_1 : (((31) * (hf (fun q9 => g 0 q9) (hf (fun q9 => g 1 q9) (xD3 f g n k8 pk pv n)  k8) j)) + ((g 0 (j)).toInt64)) = hf (fun q9 => g 0 q9) (hf (fun q9 => g 1 q9) (xD3 f g n k8 pk pv n)  k8) (j + 1) := by rfl
          exact ih_123 (j + 1) ls (by show _ < _; omega) (by show _; omega) (by show lv_has ls 4 [(0, .ref (a)), (1, .long (hf (fun q9 => g 0 q9) (hf (fun q9 => g 1 q9) (xD3 f g n k8 pk pv n)  k8) (j + 1))), (3, .int (nI ((j + 1))))]; rw [← e1_1]; exact lv_sub hl [2, 1, 0] rfl)
      · skip
        rw [nI_leI (a := k8) (b := j) (by omega) (by omega)] at c_3
        refine lv_ldc2 (v := 31) hx hb hown hW5 dX7_digest_101 ?_
        refine lv_lload_n hx hb dX7_digest_104 rfl (lv_at hl 1 rfl) ?_
        refine lv_lmul hx hb dX7_digest_105 ?_
        refine lv_aload_n hx hb dX7_digest_106 rfl (lv_at hl 0 rfl) ?_
        refine va_get (D := (dC, dI)) (ci := 7) (v := .ref (o 2)) (C := RX7) (T := TX7) (N := 16) hx hb hts hin7 hown hK hP 0 rfl rfl 2 (by decide) hW6 (fun _ h9 => h9) rfl dX7_digest_107 ?_
        refine lv_iload_n hx hb dX7_digest_110 rfl (lv_at hl 2 rfl) ?_
        refine ald hx hb hK hP (f := g 1) (k := j) 4 0 rfl rfl rfl (by omega) (by decide) dX7_digest_111 ?_
        refine lv_i2l hx hb dX7_digest_112 rfl ?_
        refine lv_ladd hx hb dX7_digest_113 ?_
        refine lv_lstore_n (lv' := [(1, .long (((31) * (hf (fun q9 => g 1 q9) (xD3 f g n k8 pk pv n) j)) + ((g 1 (j)).toInt64))), (0, .ref (a)), (3, .int (nI (j)))]) hx hb dX7_digest_114 rfl hl (by decide) rfl (fun ls hl => ?_)
        refine lv_iinc (v := nI (j + 1)) (lv' := [(3, .int (nI (j + 1))), (1, .long (((31) * (hf (fun q9 => g 1 q9) (xD3 f g n k8 pk pv n) j)) + ((g 1 (j)).toInt64))), (0, .ref (a))]) hx hb dX7_digest_115 hl (k := 2) rfl (nI_1 _) (by decide) rfl (fun ls hl => ?_)
        refine lv_goto (tgt := 93) hx hb dX7_digest_118 (by decide) ?_
        have e1_1 : (((31) * (hf (fun q9 => g 1 q9) (xD3 f g n k8 pk pv n) j)) + ((g 1 (j)).toInt64)) = hf (fun q9 => g 1 q9) (xD3 f g n k8 pk pv n) (j + 1) := by rfl
        exact ih_93 (j + 1) ls (by show _ < _; omega) (by show _; omega) (by show lv_has ls 4 [(0, .ref (a)), (1, .long (hf (fun q9 => g 1 q9) (xD3 f g n k8 pk pv n) (j + 1))), (3, .int (nI ((j + 1))))]; rw [← e1_1]; exact lv_sub hl [2, 1, 0] rfl)
    · skip
      rw [nI_leI (a := n) (b := j) (by omega) (by omega)] at c_2
      refine lv_aload_n hx hb dX7_digest_78 rfl (lv_at hl 0 rfl) ?_
      refine lv_lload_n hx hb dX7_digest_79 rfl (lv_at hl 1 rfl) ?_
      refine lv_iload_n hx hb dX7_digest_80 rfl (lv_at hl 2 rfl) ?_
      refine vp_callSl (va_Run.run (va_runV (As := [.long (xD3 f g n k8 pk pv j), .int (nI (j))]) (rest := []) ⟨hx, hb, hml, hown, hts⟩ (c7_withPerson l dC dI cI cP a o f g pa tv n pd pk pv e7 (by omega) hpa hpk (xD3 f g n k8 pk pv j) (j) (by omega)) (cwV 2 hts gX7_digest_X7_withPerson rfl rfl rfl (by decide +kernel) ⟨Nat.le_of_ble_eq_true rfl, Nat.le_of_ble_eq_true rfl⟩) ⟨fun a U g mk q => ⟨q.1, q.2.1, va_K.moved (u := U) (U := U.calling g mk a) (Vm.Alike.refl U.vm) q.2.2.1, xN.same (u := U) (U := U.calling g mk a) rfl q.2.2.2⟩, va_recv hK hP (ci := 7) (q0 := 0) rfl rfl, fun U hU hW => ⟨rfl, by rw [hU]; exact hP, va_K.moved hW.alike hK, xN.warm hW hN⟩⟩ rfl rfl hl.1 rfl (lv_room (Nat.le_of_ble_eq_true rfl)) dX7_digest_81 ⟨Nat.le_of_ble_eq_true rfl, Nat.le_of_ble_eq_true rfl⟩)) (fun r hrc => ?_)
      have hrc : r = xWp (f) n pk pv (j) (xD3 f g n k8 pk pv j) n := hrc
      subst hrc
      refine lv_lstore_n (lv' := [(1, .long (xWp (f) n pk pv (j) (xD3 f g n k8 pk pv j) n)), (0, .ref (a)), (3, .int (nI (j)))]) hx hb dX7_digest_84 rfl hl (by decide) rfl (fun ls hl => ?_)
      refine lv_iinc (v := nI (j + 1)) (lv' := [(3, .int (nI (j + 1))), (1, .long (xWp (f) n pk pv (j) (xD3 f g n k8 pk pv j) n)), (0, .ref (a))]) hx hb dX7_digest_85 hl (k := 2) rfl (nI_1 _) (by decide) rfl (fun ls hl => ?_)
      refine lv_goto (tgt := 70) hx hb dX7_digest_88 (by decide) ?_
      have e1_1 : (xWp (f) n pk pv (j) (xD3 f g n k8 pk pv j) n) = xD3 f g n k8 pk pv (j + 1) := by rfl
      exact ih_70 (j + 1) ls (by show _ < _; omega) (by show _; omega) (by show lv_has ls 4 [(0, .ref (a)), (1, .long (xD3 f g n k8 pk pv (j + 1))), (3, .int (nI ((j + 1))))]; rw [← e1_1]; exact lv_sub hl [2, 1, 0] rfl)
  · skip
    have hT0 : ¬ f 6 = (-1) := c_1
    refine lv_iconst (v := nI (0)) hx hb dX7_digest_12 (by decide +kernel) ?_
    refine lv_istore_n (lv' := [(3, .int (nI (0))), (1, .long (853)), (0, .ref (a))]) hx hb dX7_digest_13 rfl hl (by decide) rfl (fun ls hl => ?_)
    have e0_1 : (853) = hf (fun q9 => xHa (f 6) q9) 853 0 := rfl
    refine lp_ro (fun j : Nat => 6 - j) (fun j : Nat => j ≤ 6) (fun j : Nat => [(0, .ref (a)), (1, .long (hf (fun q9 => xHa (f 6) q9) 853 j)), (3, .int (nI (j)))]) (0) (by omega) (by show lv_has ls 4 [(0, .ref (a)), (1, .long (hf (fun q9 => xHa (f 6) q9) 853 0)), (3, .int (nI (0)))]; rw [← e0_1]; exact lv_sub hl [2, 1, 0] rfl) (fun j hI ih_14 ls hl => ?_)
    have hI : j ≤ 6 := hI
    have hl : lv_has ls 4 [(0, .ref (a)), (1, .long (hf (fun q9 => xHa (f 6) q9) 853 j)), (3, .int (nI (j)))] := hl
    refine lv_iload_n hx hb dX7_digest_14 rfl (lv_at hl 2 rfl) ?_
    refine lv_bipush (v := nI (6)) hx hb dX7_digest_15 (by decide +kernel) ?_
    refine lv_icmp_ge (tgt := 42) hx hb dX7_digest_17 (by decide) (fun c_6 => ?_) (fun c_6 => ?_)
    · skip
      rw [nI_leI (a := 6) (b := j) (by omega) (by omega)] at c_6
      have hE : 6 = j := by omega
      subst hE
      refine lv_ldc2 (v := 31) hx hb hown hW5 dX7_digest_42 ?_
      refine lv_lload_n hx hb dX7_digest_45 rfl (lv_at hl 1 rfl) ?_
      refine lv_lmul hx hb dX7_digest_46 ?_
      refine lv_aload_n hx hb dX7_digest_47 rfl (lv_at hl 0 rfl) ?_
      refine lv_iconst (v := nI (0)) hx hb dX7_digest_48 (by decide +kernel) ?_
      refine vp_callSi (va_Run.run (va_runV (As := [.int (nI (0))]) (rest := [.long ((31) * (hf (fun q9 => xHa (f 6) q9) 853 6))]) ⟨hx, hb, hml, hown, hts⟩ (c7_few l dC dI cI cP a o f g pa tv n pd pk pv e7 (by omega) hpa hpk e8 (by omega) (nI (0)) ) (cwV 1 hts gX7_digest_X7_few rfl rfl rfl (by decide +kernel) ⟨Nat.le_of_ble_eq_true rfl, Nat.le_of_ble_eq_true rfl⟩) ⟨fun a U g mk q => ⟨q.1, q.2.1, va_K.moved (u := U) (U := U.calling g mk a) (Vm.Alike.refl U.vm) q.2.2.1, xN.same (u := U) (U := U.calling g mk a) rfl q.2.2.2⟩, va_recv hK hP (ci := 7) (q0 := 0) rfl rfl, fun U hU hW => ⟨rfl, by rw [hU]; exact hP, va_K.moved hW.alike hK, xN.warm hW hN⟩⟩ rfl rfl hl.1 rfl (lv_room (Nat.le_of_ble_eq_true rfl)) dX7_digest_49 ⟨Nat.le_of_ble_eq_true rfl, Nat.le_of_ble_eq_true rfl⟩)) (fun r hrc => ?_)
      have hrc : r = xFew (f) (g) n (k8) pk pv (nI (0)) := hrc
      subst hrc
      refine lv_i2l hx hb dX7_digest_52 rfl ?_
      refine lv_ladd hx hb dX7_digest_53 ?_
      refine lv_lstore_n (lv' := [(1, .long (((31) * (hf (fun q9 => xHa (f 6) q9) 853 6)) + ((xFew (f) (g) n (k8) pk pv (nI (0))).toInt64))), (0, .ref (a)), (3, .int (nI (6)))]) hx hb dX7_digest_54 rfl hl (by decide) rfl (fun ls hl => ?_)
      refine lv_ldc2 (v := 31) hx hb hown hW5 dX7_digest_55 ?_
      refine lv_lload_n hx hb dX7_digest_58 rfl (lv_at hl 0 rfl) ?_
      refine lv_lmul hx hb dX7_digest_59 ?_
      refine lv_aload_n hx hb dX7_digest_60 rfl (lv_at hl 1 rfl) ?_
      refine lv_iconst (v := nI (1)) hx hb dX7_digest_61 (by decide +kernel) ?_
      refine vp_callSi (va_Run.run (va_runV (As := [.int (nI (1))]) (rest := [.long ((31) * (((31) * (hf (fun q9 => xHa (f 6) q9) 853 6)) + ((xFew (f) (g) n (k8) pk pv (nI (0))).toInt64)))]) ⟨hx, hb, hml, hown, hts⟩ (c7_few l dC dI cI cP a o f g pa tv n pd pk pv e7 (by omega) hpa hpk e8 (by omega) (nI (1)) ) (cwV 1 hts gX7_digest_X7_few rfl rfl rfl (by decide +kernel) ⟨Nat.le_of_ble_eq_true rfl, Nat.le_of_ble_eq_true rfl⟩) ⟨fun a U g mk q => ⟨q.1, q.2.1, va_K.moved (u := U) (U := U.calling g mk a) (Vm.Alike.refl U.vm) q.2.2.1, xN.same (u := U) (U := U.calling g mk a) rfl q.2.2.2⟩, va_recv hK hP (ci := 7) (q0 := 0) rfl rfl, fun U hU hW => ⟨rfl, by rw [hU]; exact hP, va_K.moved hW.alike hK, xN.warm hW hN⟩⟩ rfl rfl hl.1 rfl (lv_room (Nat.le_of_ble_eq_true rfl)) dX7_digest_62 ⟨Nat.le_of_ble_eq_true rfl, Nat.le_of_ble_eq_true rfl⟩)) (fun r hrc => ?_)
      have hrc : r = xFew (f) (g) n (k8) pk pv (nI (1)) := hrc
      subst hrc
      refine lv_i2l hx hb dX7_digest_65 rfl ?_
      refine lv_ladd hx hb dX7_digest_66 ?_
      refine lv_lstore_n (lv' := [(1, .long (((31) * (((31) * (hf (fun q9 => xHa (f 6) q9) 853 6)) + ((xFew (f) (g) n (k8) pk pv (nI (0))).toInt64))) + ((xFew (f) (g) n (k8) pk pv (nI (1))).toInt64))), (0, .ref (a)), (3, .int (nI (6)))]) hx hb dX7_digest_67 rfl hl (by decide) rfl (fun ls hl => ?_)
      refine lv_iconst (v := nI (0)) hx hb dX7_digest_68 (by decide +kernel) ?_
      refine lv_istore_n (lv' := [(3, .int (nI (0))), (1, .long (((31) * (((31) * (hf (fun q9 => xHa (f 6) q9) 853 6)) + ((xFew (f) (g) n (k8) pk pv (nI (0))).toInt64))) + ((xFew (f) (g) n (k8) pk pv (nI (1))).toInt64))), (0, .ref (a))]) hx hb dX7_digest_69 rfl hl (by decide) rfl (fun ls hl => ?_)
      have e0_1 : (((31) * (((31) * (hf (fun q9 => xHa (f 6) q9) 853 6)) + ((xFew (f) (g) n (k8) pk pv (nI (0))).toInt64))) + ((xFew (f) (g) n (k8) pk pv (nI (1))).toInt64)) = xD3 f g n k8 pk pv 0 := (by show _ = xD2 f g n k8 pk pv; rw [xD2]; first | rw [if_pos hT0] | rw [if_neg hT0])
      refine lp_ro (fun j : Nat => n - j) (fun j : Nat => j ≤ n) (fun j : Nat => [(0, .ref (a)), (1, .long (xD3 f g n k8 pk pv j)), (3, .int (nI (j)))]) (0) (by omega) (by show lv_has ls 4 [(0, .ref (a)), (1, .long (xD3 f g n k8 pk pv 0)), (3, .int (nI (0)))]; rw [← e0_1]; exact lv_sub hl [2, 1, 0] rfl) (fun j hI ih_70 ls hl => ?_)
      have hI : j ≤ n := hI
      have hl : lv_has ls 4 [(0, .ref (a)), (1, .long (xD3 f g n k8 pk pv j)), (3, .int (nI (j)))] := hl
      refine lv_iload_n hx hb dX7_digest_70 rfl (lv_at hl 2 rfl) ?_
      refine lv_aload_n hx hb dX7_digest_71 rfl (lv_at hl 0 rfl) ?_
      refine va_get (D := (dC, dI)) (ci := 7) (v := .int (nI (n))) (C := RX7) (T := TX7) (N := 16) hx hb hts hin7 hown hK hP 0 rfl rfl 7 (by decide) hW2 (fun _ h9 => h9) (congrArg (fun z => some (Value.int z)) e7) dX7_digest_72 ?_
      refine lv_icmp_ge (tgt := 91) hx hb dX7_digest_75 (by decide) (fun c_7 => ?_) (fun c_7 => ?_)
      · skip
        rw [nI_leI (a := n) (b := j) (by omega) (by omega)] at c_7
        have hE : n = j := by omega
        subst hE
        refine lv_iconst (v := nI (0)) hx hb dX7_digest_91 (by decide +kernel) ?_
        refine lv_istore_n (lv' := [(3, .int (nI (0))), (0, .ref (a)), (1, .long (xD3 f g n k8 pk pv n))]) hx hb dX7_digest_92 rfl hl (by decide) rfl (fun ls hl => ?_)
        have e0_1 : (xD3 f g n k8 pk pv n) = hf (fun q9 => g 1 q9) (xD3 f g n k8 pk pv n) 0 := rfl
        refine lp_ro (fun j : Nat => k8 - j) (fun j : Nat => j ≤ k8) (fun j : Nat => [(0, .ref (a)), (1, .long (hf (fun q9 => g 1 q9) (xD3 f g n k8 pk pv n) j)), (3, .int (nI (j)))]) (0) (by omega) (by show lv_has ls 4 [(0, .ref (a)), (1, .long (hf (fun q9 => g 1 q9) (xD3 f g n k8 pk pv n) 0)), (3, .int (nI (0)))]; rw [← e0_1]; exact lv_sub hl [1, 2, 0] rfl) (fun j hI ih_93 ls hl => ?_)
        have hI : j ≤ k8 := hI
        have hl : lv_has ls 4 [(0, .ref (a)), (1, .long (hf (fun q9 => g 1 q9) (xD3 f g n k8 pk pv n) j)), (3, .int (nI (j)))] := hl
        refine lv_iload_n hx hb dX7_digest_93 rfl (lv_at hl 2 rfl) ?_
        refine lv_aload_n hx hb dX7_digest_94 rfl (lv_at hl 0 rfl) ?_
        refine va_get (D := (dC, dI)) (ci := 7) (v := .int (nI (k8))) (C := RX7) (T := TX7) (N := 16) hx hb hts hin7 hown hK hP 0 rfl rfl 8 (by decide) hW3 (fun _ h9 => h9) (congrArg (fun z => some (Value.int z)) e8) dX7_digest_95 ?_
        refine lv_icmp_ge (tgt := 121) hx hb dX7_digest_98 (by decide) (fun c_8 => ?_) (fun c_8 => ?_)
        · skip
          rw [nI_leI (a := k8) (b := j) (by omega) (by omega)] at c_8
          have hE : k8 = j := by omega
          subst hE
          refine lv_iconst (v := nI (0)) hx hb dX7_digest_121 (by decide +kernel) ?_
          refine lv_istore_n (lv' := [(3, .int (nI (0))), (0, .ref (a)), (1, .long (hf (fun q9 => g 1 q9) (xD3 f g n k8 pk pv n) k8))]) hx hb dX7_digest_122 rfl hl (by decide) rfl (fun ls hl => ?_)
          have e0_1 : (hf (fun q9 => g 1 q9) (xD3 f g n k8 pk pv n) k8) = hf (fun q9 => g 0 q9) (hf (fun q9 => g 1 q9) (xD3 f g n k8 pk pv n)  k8) 0 := rfl
          refine lp_ro (fun j : Nat => k16 - j) (fun j : Nat => j ≤ k16) (fun j : Nat => [(0, .ref (a)), (1, .long (hf (fun q9 => g 0 q9) (hf (fun q9 => g 1 q9) (xD3 f g n k8 pk pv n)  k8) j)), (3, .int (nI (j)))]) (0) (by omega) (by show lv_has ls 4 [(0, .ref (a)), (1, .long (hf (fun q9 => g 0 q9) (hf (fun q9 => g 1 q9) (xD3 f g n k8 pk pv n)  k8) 0)), (3, .int (nI (0)))]; rw [← e0_1]; exact lv_sub hl [1, 2, 0] rfl) (fun j hI ih_123 ls hl => ?_)
          have hI : j ≤ k16 := hI
          have hl : lv_has ls 4 [(0, .ref (a)), (1, .long (hf (fun q9 => g 0 q9) (hf (fun q9 => g 1 q9) (xD3 f g n k8 pk pv n)  k8) j)), (3, .int (nI (j)))] := hl
          refine lv_iload_n hx hb dX7_digest_123 rfl (lv_at hl 2 rfl) ?_
          refine lv_aload_n hx hb dX7_digest_124 rfl (lv_at hl 0 rfl) ?_
          refine va_get (D := (dC, dI)) (ci := 7) (v := .ref (o 0)) (C := RX7) (T := TX7) (N := 16) hx hb hts hin7 hown hK hP 0 rfl rfl 0 (by decide) hW4 (fun _ h9 => h9) rfl dX7_digest_125 ?_
          refine va_getN (D := (dC, dI)) (ci := 3) (v := .int (nI (k16))) (C := RX3) (T := TX3) (N := 2) hx hb hts hin3 hown hK hP 1 rfl rfl 1 (by decide) (va_Nw.use rfl (hN.1 _ (List.mem_of_getElem? (i := 2) rfl))) (fun _ h9 => h9) (congrArg (fun z => some (Value.int z)) e16) dX7_digest_128 ?_
          refine lv_icmp_ge (tgt := 157) hx hb dX7_digest_131 (by decide) (fun c_9 => ?_) (fun c_9 => ?_)
          · skip
            rw [nI_leI (a := k16) (b := j) (by omega) (by omega)] at c_9
            have hE : k16 = j := by omega
            subst hE
            refine lv_iconst (v := nI (0)) hx hb dX7_digest_157 (by decide +kernel) ?_
            refine lv_istore_n (lv' := [(3, .int (nI (0))), (0, .ref (a)), (1, .long (hf (fun q9 => g 0 q9) (hf (fun q9 => g 1 q9) (xD3 f g n k8 pk pv n)  k8) k16))]) hx hb dX7_digest_158 rfl hl (by decide) rfl (fun ls hl => ?_)
            have e0_1 : (hf (fun q9 => g 0 q9) (hf (fun q9 => g 1 q9) (xD3 f g n k8 pk pv n)  k8) k16) = hf (fun q9 => xCount f n k8 k17 k16 pv (nI q9)) (hf (fun q9 => g 0 q9) (hf (fun q9 => g 1 q9) (xD3 f g n k8 pk pv n)  k8)  k16) 0 := rfl
            refine lp_ro (fun j : Nat => 9 - j) (fun j : Nat => j ≤ 9) (fun j : Nat => [(0, .ref (a)), (1, .long (hf (fun q9 => xCount f n k8 k17 k16 pv (nI q9)) (hf (fun q9 => g 0 q9) (hf (fun q9 => g 1 q9) (xD3 f g n k8 pk pv n)  k8)  k16) j)), (3, .int (nI (j)))]) (0) (by omega) (by show lv_has ls 4 [(0, .ref (a)), (1, .long (hf (fun q9 => xCount f n k8 k17 k16 pv (nI q9)) (hf (fun q9 => g 0 q9) (hf (fun q9 => g 1 q9) (xD3 f g n k8 pk pv n)  k8)  k16) 0)), (3, .int (nI (0)))]; rw [← e0_1]; exact lv_sub hl [1, 2, 0] rfl) (fun j hI ih_159 ls hl => ?_)
            have hI : j ≤ 9 := hI
            have hl : lv_has ls 4 [(0, .ref (a)), (1, .long (hf (fun q9 => xCount f n k8 k17 k16 pv (nI q9)) (hf (fun q9 => g 0 q9) (hf (fun q9 => g 1 q9) (xD3 f g n k8 pk pv n)  k8)  k16) j)), (3, .int (nI (j)))] := hl
            refine lv_iload_n hx hb dX7_digest_159 rfl (lv_at hl 2 rfl) ?_
            refine lv_bipush (v := nI (8)) hx hb dX7_digest_160 (by decide +kernel) ?_
            refine lv_icmp_gt (tgt := 184) hx hb dX7_digest_162 (by decide) (fun c_10 => ?_) (fun c_10 => ?_)
            · skip
              rw [nI_ltI (a := 8) (b := j) (by omega) (by omega)] at c_10
              have hE : 9 = j := by omega
              subst hE
              refine lv_lload_n hx hb dX7_digest_184 rfl (lv_at hl 1 rfl) ?_
              exact W.lret (v := hf (fun q9 => xCount f n k8 k17 k16 pv (nI q9)) (hf (fun q9 => g 0 q9) (hf (fun q9 => g 1 q9) (xD3 f g n k8 pk pv n)  k8)  k16) 9) hx hb hr (fun t ht hW => ⟨hf (fun q9 => xCount f n k8 k17 k16 pv (nI q9)) (hf (fun q9 => g 0 q9) (hf (fun q9 => g 1 q9) (xD3 f g n k8 pk pv n)  k8)  k16) 9, rfl, (by show hf (fun q9 => xCount f n k8 k17 k16 pv (nI q9)) (hf (fun q9 => g 0 q9) (hf (fun q9 => g 1 q9) (xD3 f g n k8 pk pv n)  k8)  k16) 9 = xDig f g n k8 k17 k16 pk pv; rfl), ht⟩) (fun _ h => by cases h) dX7_digest_185
            · skip
              rw [nI_ltI (a := 8) (b := j) (by omega) (by omega)] at c_10
              refine lv_ldc2 (v := 31) hx hb hown hW5 dX7_digest_165 ?_
              refine lv_lload_n hx hb dX7_digest_168 rfl (lv_at hl 1 rfl) ?_
              refine lv_lmul hx hb dX7_digest_169 ?_
              refine lv_aload_n hx hb dX7_digest_170 rfl (lv_at hl 0 rfl) ?_
              refine lv_iload_n hx hb dX7_digest_171 rfl (lv_at hl 2 rfl) ?_
              refine vp_callSi (va_Run.run (va_runV (As := [.int (nI (j))]) (rest := [.long ((31) * (hf (fun q9 => xCount f n k8 k17 k16 pv (nI q9)) (hf (fun q9 => g 0 q9) (hf (fun q9 => g 1 q9) (xD3 f g n k8 pk pv n)  k8)  k16) j))]) ⟨hx, hb, hml, hown, hts⟩ (c7_count l dC dI cI cP a o f g pa tv n pd pk pv e7 (by omega) hpa hpk e8 (by omega) e16 (by omega) e17 (by omega) (nI (j)) ) (cwV 1 hts gX7_digest_X7_count rfl rfl rfl (by decide +kernel) ⟨Nat.le_of_ble_eq_true rfl, Nat.le_of_ble_eq_true rfl⟩) ⟨fun a U g mk q => ⟨q.1, q.2.1, va_K.moved (u := U) (U := U.calling g mk a) (Vm.Alike.refl U.vm) q.2.2.1, xN.same (u := U) (U := U.calling g mk a) rfl q.2.2.2⟩, va_recv hK hP (ci := 7) (q0 := 0) rfl rfl, fun U hU hW => ⟨rfl, by rw [hU]; exact hP, va_K.moved hW.alike hK, xN.warm hW hN⟩⟩ rfl rfl hl.1 rfl (lv_room (Nat.le_of_ble_eq_true rfl)) dX7_digest_172 ⟨Nat.le_of_ble_eq_true rfl, Nat.le_of_ble_eq_true rfl⟩)) (fun r hrc => ?_)
              have hrc : r = xCount (f) n (k8) (k17) (k16) pv (nI (j)) := hrc
              subst hrc
              refine lv_i2l hx hb dX7_digest_175 rfl ?_
              refine lv_ladd hx hb dX7_digest_176 ?_
              refine lv_lstore_n (lv' := [(1, .long (((31) * (hf (fun q9 => xCount f n k8 k17 k16 pv (nI q9)) (hf (fun q9 => g 0 q9) (hf (fun q9 => g 1 q9) (xD3 f g n k8 pk pv n)  k8)  k16) j)) + ((xCount (f) n (k8) (k17) (k16) pv (nI (j))).toInt64))), (0, .ref (a)), (3, .int (nI (j)))]) hx hb dX7_digest_177 rfl hl (by decide) rfl (fun ls hl => ?_)
              refine lv_iinc (v := nI (j + 1)) (lv' := [(3, .int (nI (j + 1))), (1, .long (((31) * (hf (fun q9 => xCount f n k8 k17 k16 pv (nI q9)) (hf (fun q9 => g 0 q9) (hf (fun q9 => g 1 q9) (xD3 f g n k8 pk pv n)  k8)  k16) j)) + ((xCount (f) n (k8) (k17) (k16) pv (nI (j))).toInt64))), (0, .ref (a))]) hx hb dX7_digest_178 hl (k := 2) rfl (nI_1 _) (by decide) rfl (fun ls hl => ?_)
              refine lv_goto (tgt := 159) hx hb dX7_digest_181 (by decide) ?_
              have e1_1 : (((31) * (hf (fun q9 => xCount f n k8 k17 k16 pv (nI q9)) (hf (fun q9 => g 0 q9) (hf (fun q9 => g 1 q9) (xD3 f g n k8 pk pv n)  k8)  k16) j)) + ((xCount (f) n (k8) (k17) (k16) pv (nI (j))).toInt64)) = hf (fun q9 => xCount f n k8 k17 k16 pv (nI q9)) (hf (fun q9 => g 0 q9) (hf (fun q9 => g 1 q9) (xD3 f g n k8 pk pv n)  k8)  k16) (j + 1) := by rfl
              exact ih_159 (j + 1) ls (by show _ < _; omega) (by show _; omega) (by show lv_has ls 4 [(0, .ref (a)), (1, .long (hf (fun q9 => xCount f n k8 k17 k16 pv (nI q9)) (hf (fun q9 => g 0 q9) (hf (fun q9 => g 1 q9) (xD3 f g n k8 pk pv n)  k8)  k16) (j + 1))), (3, .int (nI ((j + 1))))]; rw [← e1_1]; exact lv_sub hl [2, 1, 0] rfl)
          · skip
            rw [nI_leI (a := k16) (b := j) (by omega) (by omega)] at c_9
            refine lv_ldc2 (v := 31) hx hb hown hW5 dX7_digest_134 ?_
            refine lv_lload_n hx hb dX7_digest_137 rfl (lv_at hl 1 rfl) ?_
            refine lv_lmul hx hb dX7_digest_138 ?_
            refine lv_aload_n hx hb dX7_digest_139 rfl (lv_at hl 0 rfl) ?_
            refine va_get (D := (dC, dI)) (ci := 7) (v := .ref (o 0)) (C := RX7) (T := TX7) (N := 16) hx hb hts hin7 hown hK hP 0 rfl rfl 0 (by decide) hW4 (fun _ h9 => h9) rfl dX7_digest_140 ?_
            refine va_getN (D := (dC, dI)) (ci := 3) (v := .ref (o 6)) (C := RX3) (T := TX3) (N := 2) hx hb hts hin3 hown hK hP 1 rfl rfl 0 (by decide) (va_Nw.use rfl (hN.1 _ (List.mem_of_getElem? (i := 1) rfl))) (fun _ h9 => h9) rfl dX7_digest_143 ?_
            refine lv_iload_n hx hb dX7_digest_146 rfl (lv_at hl 2 rfl) ?_
            refine ald hx hb hK hP (f := g 0) (k := j) 2 0 rfl rfl rfl (by omega) (by decide) dX7_digest_147 ?_
            refine lv_i2l hx hb dX7_digest_148 rfl ?_
            refine lv_ladd hx hb dX7_digest_149 ?_
            refine lv_lstore_n (lv' := [(1, .long (((31) * (hf (fun q9 => g 0 q9) (hf (fun q9 => g 1 q9) (xD3 f g n k8 pk pv n)  k8) j)) + ((g 0 (j)).toInt64))), (0, .ref (a)), (3, .int (nI (j)))]) hx hb dX7_digest_150 rfl hl (by decide) rfl (fun ls hl => ?_)
            refine lv_iinc (v := nI (j + 1)) (lv' := [(3, .int (nI (j + 1))), (1, .long (((31) * (hf (fun q9 => g 0 q9) (hf (fun q9 => g 1 q9) (xD3 f g n k8 pk pv n)  k8) j)) + ((g 0 (j)).toInt64))), (0, .ref (a))]) hx hb dX7_digest_151 hl (k := 2) rfl (nI_1 _) (by decide) rfl (fun ls hl => ?_)
            refine lv_goto (tgt := 123) hx hb dX7_digest_154 (by decide) ?_
            have e1_1 : (((31) * (hf (fun q9 => g 0 q9) (hf (fun q9 => g 1 q9) (xD3 f g n k8 pk pv n)  k8) j)) + ((g 0 (j)).toInt64)) = hf (fun q9 => g 0 q9) (hf (fun q9 => g 1 q9) (xD3 f g n k8 pk pv n)  k8) (j + 1) := by rfl
            exact ih_123 (j + 1) ls (by show _ < _; omega) (by show _; omega) (by show lv_has ls 4 [(0, .ref (a)), (1, .long (hf (fun q9 => g 0 q9) (hf (fun q9 => g 1 q9) (xD3 f g n k8 pk pv n)  k8) (j + 1))), (3, .int (nI ((j + 1))))]; rw [← e1_1]; exact lv_sub hl [2, 1, 0] rfl)
        · skip
          rw [nI_leI (a := k8) (b := j) (by omega) (by omega)] at c_8
          refine lv_ldc2 (v := 31) hx hb hown hW5 dX7_digest_101 ?_
          refine lv_lload_n hx hb dX7_digest_104 rfl (lv_at hl 1 rfl) ?_
          refine lv_lmul hx hb dX7_digest_105 ?_
          refine lv_aload_n hx hb dX7_digest_106 rfl (lv_at hl 0 rfl) ?_
          refine va_get (D := (dC, dI)) (ci := 7) (v := .ref (o 2)) (C := RX7) (T := TX7) (N := 16) hx hb hts hin7 hown hK hP 0 rfl rfl 2 (by decide) hW6 (fun _ h9 => h9) rfl dX7_digest_107 ?_
          refine lv_iload_n hx hb dX7_digest_110 rfl (lv_at hl 2 rfl) ?_
          refine ald hx hb hK hP (f := g 1) (k := j) 4 0 rfl rfl rfl (by omega) (by decide) dX7_digest_111 ?_
          refine lv_i2l hx hb dX7_digest_112 rfl ?_
          refine lv_ladd hx hb dX7_digest_113 ?_
          refine lv_lstore_n (lv' := [(1, .long (((31) * (hf (fun q9 => g 1 q9) (xD3 f g n k8 pk pv n) j)) + ((g 1 (j)).toInt64))), (0, .ref (a)), (3, .int (nI (j)))]) hx hb dX7_digest_114 rfl hl (by decide) rfl (fun ls hl => ?_)
          refine lv_iinc (v := nI (j + 1)) (lv' := [(3, .int (nI (j + 1))), (1, .long (((31) * (hf (fun q9 => g 1 q9) (xD3 f g n k8 pk pv n) j)) + ((g 1 (j)).toInt64))), (0, .ref (a))]) hx hb dX7_digest_115 hl (k := 2) rfl (nI_1 _) (by decide) rfl (fun ls hl => ?_)
          refine lv_goto (tgt := 93) hx hb dX7_digest_118 (by decide) ?_
          have e1_1 : (((31) * (hf (fun q9 => g 1 q9) (xD3 f g n k8 pk pv n) j)) + ((g 1 (j)).toInt64)) = hf (fun q9 => g 1 q9) (xD3 f g n k8 pk pv n) (j + 1) := by rfl
          exact ih_93 (j + 1) ls (by show _ < _; omega) (by show _; omega) (by show lv_has ls 4 [(0, .ref (a)), (1, .long (hf (fun q9 => g 1 q9) (xD3 f g n k8 pk pv n) (j + 1))), (3, .int (nI ((j + 1))))]; rw [← e1_1]; exact lv_sub hl [2, 1, 0] rfl)
      · skip
        rw [nI_leI (a := n) (b := j) (by omega) (by omega)] at c_7
        refine lv_aload_n hx hb dX7_digest_78 rfl (lv_at hl 0 rfl) ?_
        refine lv_lload_n hx hb dX7_digest_79 rfl (lv_at hl 1 rfl) ?_
        refine lv_iload_n hx hb dX7_digest_80 rfl (lv_at hl 2 rfl) ?_
        refine vp_callSl (va_Run.run (va_runV (As := [.long (xD3 f g n k8 pk pv j), .int (nI (j))]) (rest := []) ⟨hx, hb, hml, hown, hts⟩ (c7_withPerson l dC dI cI cP a o f g pa tv n pd pk pv e7 (by omega) hpa hpk (xD3 f g n k8 pk pv j) (j) (by omega)) (cwV 2 hts gX7_digest_X7_withPerson rfl rfl rfl (by decide +kernel) ⟨Nat.le_of_ble_eq_true rfl, Nat.le_of_ble_eq_true rfl⟩) ⟨fun a U g mk q => ⟨q.1, q.2.1, va_K.moved (u := U) (U := U.calling g mk a) (Vm.Alike.refl U.vm) q.2.2.1, xN.same (u := U) (U := U.calling g mk a) rfl q.2.2.2⟩, va_recv hK hP (ci := 7) (q0 := 0) rfl rfl, fun U hU hW => ⟨rfl, by rw [hU]; exact hP, va_K.moved hW.alike hK, xN.warm hW hN⟩⟩ rfl rfl hl.1 rfl (lv_room (Nat.le_of_ble_eq_true rfl)) dX7_digest_81 ⟨Nat.le_of_ble_eq_true rfl, Nat.le_of_ble_eq_true rfl⟩)) (fun r hrc => ?_)
        have hrc : r = xWp (f) n pk pv (j) (xD3 f g n k8 pk pv j) n := hrc
        subst hrc
        refine lv_lstore_n (lv' := [(1, .long (xWp (f) n pk pv (j) (xD3 f g n k8 pk pv j) n)), (0, .ref (a)), (3, .int (nI (j)))]) hx hb dX7_digest_84 rfl hl (by decide) rfl (fun ls hl => ?_)
        refine lv_iinc (v := nI (j + 1)) (lv' := [(3, .int (nI (j + 1))), (1, .long (xWp (f) n pk pv (j) (xD3 f g n k8 pk pv j) n)), (0, .ref (a))]) hx hb dX7_digest_85 hl (k := 2) rfl (nI_1 _) (by decide) rfl (fun ls hl => ?_)
        refine lv_goto (tgt := 70) hx hb dX7_digest_88 (by decide) ?_
        have e1_1 : (xWp (f) n pk pv (j) (xD3 f g n k8 pk pv j) n) = xD3 f g n k8 pk pv (j + 1) := by rfl
        exact ih_70 (j + 1) ls (by show _ < _; omega) (by show _; omega) (by show lv_has ls 4 [(0, .ref (a)), (1, .long (xD3 f g n k8 pk pv (j + 1))), (3, .int (nI ((j + 1))))]; rw [← e1_1]; exact lv_sub hl [2, 1, 0] rfl)
    · skip
      rw [nI_leI (a := 6) (b := j) (by omega) (by omega)] at c_6
      refine lv_ldc2 (v := 31) hx hb hown hW5 dX7_digest_20 ?_
      refine lv_lload_n hx hb dX7_digest_23 rfl (lv_at hl 1 rfl) ?_
      refine lv_lmul hx hb dX7_digest_24 ?_
      refine lv_aload_n hx hb dX7_digest_25 rfl (lv_at hl 0 rfl) ?_
      refine va_get (D := (dC, dI)) (ci := 7) (v := .int (f 6)) (C := RX7) (T := TX7) (N := 16) hx hb hts hin7 hown hK hP 0 rfl rfl 6 (by decide) hW1 (fun _ h9 => h9) rfl dX7_digest_26 ?_
      refine lv_iload_n hx hb dX7_digest_29 rfl (lv_at hl 2 rfl) ?_
      refine vp_callSi (va_Run.run (va_runS (As := [.int (f 6), .int (nI (j))]) (rest := [.long ((31) * (hf (fun q9 => xHa (f 6) q9) 853 j))]) ⟨hx, hb, hml, hown, hts⟩ (c7_hueAt l (f 6) (j)) (va_cwS 2 hts gX7_digest_X7_hueAt rfl rfl rfl (by decide +kernel) ⟨Nat.le_of_ble_eq_true rfl, Nat.le_of_ble_eq_true rfl⟩) ⟨fun _ _ _ _ q => q, fun U hU hW => ⟨rfl, trivial⟩⟩ rfl rfl hl.1 rfl (lv_room (Nat.le_of_ble_eq_true rfl)) dX7_digest_30 ⟨Nat.le_of_ble_eq_true rfl, Nat.le_of_ble_eq_true rfl⟩)) (fun r hrc => ?_)
      have hrc : r = xHa (f 6) (j) := hrc
      subst hrc
      refine lv_i2l hx hb dX7_digest_33 rfl ?_
      refine lv_ladd hx hb dX7_digest_34 ?_
      refine lv_lstore_n (lv' := [(1, .long (((31) * (hf (fun q9 => xHa (f 6) q9) 853 j)) + ((xHa (f 6) (j)).toInt64))), (0, .ref (a)), (3, .int (nI (j)))]) hx hb dX7_digest_35 rfl hl (by decide) rfl (fun ls hl => ?_)
      refine lv_iinc (v := nI (j + 1)) (lv' := [(3, .int (nI (j + 1))), (1, .long (((31) * (hf (fun q9 => xHa (f 6) q9) 853 j)) + ((xHa (f 6) (j)).toInt64))), (0, .ref (a))]) hx hb dX7_digest_36 hl (k := 2) rfl (nI_1 _) (by decide) rfl (fun ls hl => ?_)
      refine lv_goto (tgt := 14) hx hb dX7_digest_39 (by decide) ?_
      have e1_1 : (((31) * (hf (fun q9 => xHa (f 6) q9) 853 j)) + ((xHa (f 6) (j)).toInt64)) = hf (fun q9 => xHa (f 6) q9) 853 (j + 1) := by rfl
      exact ih_14 (j + 1) ls (by show _ < _; omega) (by show _; omega) (by show lv_has ls 4 [(0, .ref (a)), (1, .long (hf (fun q9 => xHa (f 6) q9) 853 (j + 1))), (3, .int (nI ((j + 1))))]; rw [← e1_1]; exact lv_sub hl [2, 1, 0] rfl)

set_option maxHeartbeats 1200000 in
set_option maxRecDepth 100000 in
theorem c7_image (l : Launch) (dC : Nat → ClassId) (dI : Nat → Nat → Nat) (cI cP : ClassId) (a : Nat) (o : Nat → Nat) (f : Nat → Int32) (g : Nat → Nat → Int32) (pa : Nat → Option Nat) (tv : Nat → Nat → Int32) (n : Nat) (pd pk : Nat → Nat) (pv : Nat → Nat → Int32) (sz : Nat) (e7 : f 7 = nI n) (b7 : n ≤ 4) (hpa : ∀ i, i < n → pa i = some (pd i)) (hpk : ∀ i, i < n → pk i < 5) {k8 : Nat} (e8 : f 8 = nI k8) (b8 : k8 ≤ 5) : Met l yX7_image wsX7_image ({ frames := 2, cells := 0, slots := 0, locals := 68 } : Room) (va_Pc [.ref (a)] (fun U => U.heap.size = sz ∧ va_P (dC, dI) vwCl (xW cI cP a o f g pa tv n pd pk pv) U.heap ∧ va_K (dC, dI) vwCl [(cI, .int), (cP, .object RX4)] U ∧ xN U ∧ va_D (fun _ => True) (xW cI cP a o f g pa tv n pd pk pv))) (va_Qi (fun (r : Int32) (u : XSt) => (r, u) = xImage f g pa tv n k8 pd pk pv) (xB dC dI cI cP a o (va_A (xW cI cP a o f g pa tv n pd pk pv) sz)) (va_A (xW cI cP a o f g pa tv n pd pk pv) sz)) 0 0 (va_A (xW cI cP a o f g pa tv n pd pk pv) sz) := by
  refine Met.ofW (cc := cX7_image) (maxL := 3) (ret := (some .int)) (by decide) rfl ?_
  intro p_ e_ s m args below meth c_0 s₁ B hml hv
  obtain ⟨rfl, hsz, hP, hK, hN, hD0⟩ := hv
  have hx := B.exec
  have hb := B.bytes
  have hr := B.returns
  have hts := atoms_spec (ws := wsX7_image) B.pre
  have hown : s.vm.findClass RX7 = some m.cls := findClass_of_methodNamed B.named
  have hlocks := B.notSynchronized
  subst hsz
  have hD := hD0.self (sz := s.heap.size)
  generalize hAe : va_A (xW cI cP a o f g pa tv n pd pk pv) s.heap.size = A at hD ⊢
  have hA : ∀ q : Nat, s.heap.size ≤ q → A q := fun q h => by rw [← hAe]; exact Or.inr h
  obtain ⟨H, hHe⟩ : ∃ H : Heap, H = s.heap := ⟨_, rfl⟩
  have hS : va_S A s.heap H [] := by rw [hHe]; exact va_S.rf
  rw [← hHe] at hP ⊢
  have hP : va_P (dC, dI) vwCl (xW cI cP a o f g pa tv n pd pk pv) H := hP
  have hl := lv_entry ([.ref (a)]) (n := 3) (Nat.le_of_ble_eq_true rfl)
  rw [lg_entry_eq]
  generalize (lg_sl ([.ref (a)]) ++ List.replicate (3 - (lg_sl ([.ref (a)])).length) Slot.unset).toArray = ls at hl ⊢
  have hl : lv_has ls 3 [(0, .ref (a))] := hl
  have hin7 : ∀ w ∈ wsX70, w ∈ wsX7_image := fun _ h => List.mem_cons_of_mem _ (List.mem_append_left _ (List.mem_append_left _ (List.mem_append_left _ (List.mem_append_left _ (List.mem_append_left _ (List.mem_append_left _ (List.mem_append_right _ h)))))))
  have hW0 := hts (.fieldLink RX7 39 "EachEye" "theSign" "I") (by decide +kernel)
  have hW1 := hts (.fieldLink RX7 43 "EachEye" "keptSign" "I") (by decide +kernel)
  have hW2 := hts (.fieldLink RX7 67 "EachEye" "peopleCount" "I") (by decide +kernel)
  have hW3 := hts (.fieldLink RX7 180 "EachEye" "keptPeople" "I") (by decide +kernel)
  have hW4 := hts (.fieldLink RX7 70 "EachEye" "inkCount" "I") (by decide +kernel)
  have hW5 := hts (.fieldLink RX7 183 "EachEye" "keptInks" "I") (by decide +kernel)
  have hW6 := hts (.fieldLink RX7 73 "EachEye" "layersDone" "I") (by decide +kernel)
  have hW7 := hts (.fieldLink RX7 186 "EachEye" "keptLayers" "I") (by decide +kernel)
  have hW8 := hts (.fieldLink RX7 29 "EachEye" "cards" "LEachEye$Cards;") (by decide +kernel)
  refine lv_aload_n hx hb dX7_image_0 rfl (lv_at hl 0 rfl) ?_
  refine va_get (D := (dC, dI)) (ci := 7) (v := .int (f 6)) (C := RX7) (T := TX7) (N := 16) hx hb hts hin7 hown hK hP 0 rfl rfl 6 (by decide) hW0 (fun _ h9 => h9) rfl dX7_image_1 ?_
  refine lv_iconst (v := (-1)) hx hb dX7_image_4 (by decide +kernel) ?_
  refine lv_icmp_ne (tgt := 11) hx hb dX7_image_5 (by decide) (fun c_1 => ?_) (fun c_1 => ?_)
  · skip
    refine lv_aload_n hx hb dX7_image_11 rfl (lv_at hl 0 rfl) ?_
    refine lv_aload_n hx hb dX7_image_12 rfl (lv_at hl 0 rfl) ?_
    refine va_get (D := (dC, dI)) (ci := 7) (v := .int (f 6)) (C := RX7) (T := TX7) (N := 16) hx hb hts hin7 hown hK hP 0 rfl rfl 6 (by decide) hW0 (fun _ h9 => h9) rfl dX7_image_13 ?_
    refine va_put (D := (dC, dI)) (ci := 7) (v := .int (f 6)) (ty := .int) (C := RX7) (T := TX7) (N := 16) hx hb hts hin7 tyX7 tyX7_ok nmX7 hown hK hP hD hS 0 rfl rfl 12 (by decide) hW1 (fun _ h9 => h9) rfl (by decide +kernel) rfl rfl (Nat.le_of_ble_eq_true rfl) dX7_image_16 (fun H locs hP hD hS => ?_)
    have hP : va_P (dC, dI) vwCl (xW cI cP a o (su f 12 (f 6)) g pa tv n pd pk pv) H := hP
    have hD : va_D A (xW cI cP a o (su f 12 (f 6)) g pa tv n pd pk pv) := hD
    refine lv_aload_n hx hb dX7_image_19 rfl (lv_at hl 0 rfl) ?_
    refine lv_aload_n hx hb dX7_image_20 rfl (lv_at hl 0 rfl) ?_
    refine va_get (D := (dC, dI)) (ci := 7) (v := .int (nI (n))) (C := RX7) (T := TX7) (N := 16) hx hb hts hin7 hown hK hP 0 rfl rfl 7 (by decide) hW2 (fun _ h9 => h9) (congrArg (fun z => some (Value.int z)) e7) dX7_image_21 ?_
    refine va_put (D := (dC, dI)) (ci := 7) (v := .int (nI (n))) (ty := .int) (C := RX7) (T := TX7) (N := 16) hx hb hts hin7 tyX7 tyX7_ok nmX7 hown hK hP hD hS 0 rfl rfl 13 (by decide) hW3 (fun _ h9 => h9) rfl (by decide +kernel) rfl rfl (Nat.le_of_ble_eq_true rfl) dX7_image_24 (fun H locs hP hD hS => ?_)
    have hP : va_P (dC, dI) vwCl (xW cI cP a o (su (su f 12 (f 6)) 13 (nI (n))) g pa tv n pd pk pv) H := hP
    have hD : va_D A (xW cI cP a o (su (su f 12 (f 6)) 13 (nI (n))) g pa tv n pd pk pv) := hD
    refine lv_aload_n hx hb dX7_image_27 rfl (lv_at hl 0 rfl) ?_
    refine lv_aload_n hx hb dX7_image_28 rfl (lv_at hl 0 rfl) ?_
    refine va_get (D := (dC, dI)) (ci := 7) (v := .int (nI (k8))) (C := RX7) (T := TX7) (N := 16) hx hb hts hin7 hown hK hP 0 rfl rfl 8 (by decide) hW4 (fun _ h9 => h9) (congrArg (fun z => some (Value.int z)) e8) dX7_image_29 ?_
    refine va_put (D := (dC, dI)) (ci := 7) (v := .int (nI (k8))) (ty := .int) (C := RX7) (T := TX7) (N := 16) hx hb hts hin7 tyX7 tyX7_ok nmX7 hown hK hP hD hS 0 rfl rfl 14 (by decide) hW5 (fun _ h9 => h9) rfl (by decide +kernel) rfl rfl (Nat.le_of_ble_eq_true rfl) dX7_image_32 (fun H locs hP hD hS => ?_)
    have hP : va_P (dC, dI) vwCl (xW cI cP a o (su (su (su f 12 (f 6)) 13 (nI (n))) 14 (nI (k8))) g pa tv n pd pk pv) H := hP
    have hD : va_D A (xW cI cP a o (su (su (su f 12 (f 6)) 13 (nI (n))) 14 (nI (k8))) g pa tv n pd pk pv) := hD
    refine lv_aload_n hx hb dX7_image_35 rfl (lv_at hl 0 rfl) ?_
    refine lv_aload_n hx hb dX7_image_36 rfl (lv_at hl 0 rfl) ?_
    refine va_get (D := (dC, dI)) (ci := 7) (v := .int (f 9)) (C := RX7) (T := TX7) (N := 16) hx hb hts hin7 hown hK hP 0 rfl rfl 9 (by decide) hW6 (fun _ h9 => h9) rfl dX7_image_37 ?_
    refine va_put (D := (dC, dI)) (ci := 7) (v := .int (f 9)) (ty := .int) (C := RX7) (T := TX7) (N := 16) hx hb hts hin7 tyX7 tyX7_ok nmX7 hown hK hP hD hS 0 rfl rfl 15 (by decide) hW7 (fun _ h9 => h9) rfl (by decide +kernel) rfl rfl (Nat.le_of_ble_eq_true rfl) dX7_image_40 (fun H locs hP hD hS => ?_)
    have hP : va_P (dC, dI) vwCl (xW cI cP a o (su (su (su (su f 12 (f 6)) 13 (nI (n))) 14 (nI (k8))) 15 (f 9)) g pa tv n pd pk pv) H := hP
    have hD : va_D A (xW cI cP a o (su (su (su (su f 12 (f 6)) 13 (nI (n))) 14 (nI (k8))) 15 (f 9)) g pa tv n pd pk pv) := hD
    refine lv_iconst (v := nI (0)) hx hb dX7_image_43 (by decide +kernel) ?_
    refine lv_istore_n (lv' := [(1, .int (nI (0))), (0, .ref (a))]) hx hb dX7_image_44 rfl hl (by decide) rfl (fun ls hl => ?_)
    have hP0 : va_P (dC, dI) vwCl (xW cI cP a o (su (su (su (su f 12 (f 6)) 13 (nI (n))) 14 (nI (k8))) 15 (f 9)) g pa tv n pd pk (fil pv (fun q9 => xKeep (pv q9)) 0)) H := by rw [fil_0]; exact hP
    have hD0 : va_D A (xW cI cP a o (su (su (su (su f 12 (f 6)) 13 (nI (n))) 14 (nI (k8))) 15 (f 9)) g pa tv n pd pk (fil pv (fun q9 => xKeep (pv q9)) 0)) := by rw [fil_0]; exact hD
    refine lp_rw (fun j : Nat => n - j) (fun j : Nat => j ≤ n) (fun j : Nat => [(0, .ref (a)), (1, .int (nI (j)))]) (fun j : Nat => xW cI cP a o (su (su (su (su f 12 (f 6)) 13 (nI (n))) 14 (nI (k8))) 15 (f 9)) g pa tv n pd pk (fil pv (fun q9 => xKeep (pv q9)) j)) (0) (by omega) hP0 hD0 hS (by show lv_has ls 3 [(0, .ref (a)), (1, .int (nI (0)))]; exact lv_sub hl [1, 0] rfl) (fun j hI ih_45 H locs ls hP hD hS hl => ?_)
    have hP : va_P (dC, dI) vwCl (xW cI cP a o (su (su (su (su f 12 (f 6)) 13 (nI (n))) 14 (nI (k8))) 15 (f 9)) g pa tv n pd pk (fil pv (fun q9 => xKeep (pv q9)) j)) H := hP
    have hD : va_D A (xW cI cP a o (su (su (su (su f 12 (f 6)) 13 (nI (n))) 14 (nI (k8))) 15 (f 9)) g pa tv n pd pk (fil pv (fun q9 => xKeep (pv q9)) j)) := hD
    have hI : j ≤ n := hI
    have hl : lv_has ls 3 [(0, .ref (a)), (1, .int (nI (j)))] := hl
    refine lv_iload_n hx hb dX7_image_45 rfl (lv_at hl 1 rfl) ?_
    refine lv_aload_n hx hb dX7_image_46 rfl (lv_at hl 0 rfl) ?_
    refine va_get (D := (dC, dI)) (ci := 7) (v := .int (nI (n))) (C := RX7) (T := TX7) (N := 16) hx hb hts hin7 hown hK hP 0 rfl rfl 7 (by decide) hW2 (fun _ h9 => h9) (congrArg (fun z => some (Value.int z)) e7) dX7_image_47 ?_
    refine lv_icmp_ge (tgt := 73) hx hb dX7_image_50 (by decide) (fun c_2 => ?_) (fun c_2 => ?_)
    · skip
      rw [nI_leI (a := n) (b := j) (by omega) (by omega)] at c_2
      have hE : n = j := by omega
      subst hE
      refine lv_aload_n hx hb dX7_image_73 rfl (lv_at hl 0 rfl) ?_
      refine va_get (D := (dC, dI)) (ci := 7) (v := .ref (o 3)) (C := RX7) (T := TX7) (N := 16) hx hb hts hin7 hown hK hP 0 rfl rfl 3 (by decide) hW8 (fun _ h9 => h9) rfl dX7_image_74 ?_
      have hFc : ∀ q, va_A (xW cI cP a o (su (su (su (su f 12 (f 6)) 13 (nI (n))) 14 (nI (k8))) 15 (f 9)) g pa tv n pd pk (fil pv (fun q9 => xKeep (pv q9)) n)) H.size q → A q := fun q h => h.elim (fun ⟨j, e, hj⟩ => hD.2 j (q, e) hj) (fun h => hA q (Nat.le_trans hS.1 h))
      refine va_callv (va_runV (As := []) (rest := []) ⟨hx, hb, hml, hown, hts⟩ (c1_keep l dC dI cI cP a o (su (su (su (su f 12 (f 6)) 13 (nI (n))) 14 (nI (k8))) 15 (f 9)) g pa tv n pd pk (fil pv (fun q9 => xKeep (pv q9)) n) H.size   ) (cwV 0 hts gX7_image_X1_keep rfl rfl rfl (by decide +kernel) ⟨Nat.le_of_ble_eq_true rfl, Nat.le_of_ble_eq_true rfl⟩) ⟨fun a U g mk q => by obtain ⟨q0, q1, qP, qK, qN, qD⟩ := q; exact ⟨q0, q1, qP, va_K.moved (u := U) (U := U.calling g mk a) (Vm.Alike.refl U.vm) qK, xN.same (u := U) (U := U.calling g mk a) rfl qN, qD⟩, va_recv hK hP (ci := 1) (q0 := 5) rfl rfl, fun U hU hW => ⟨rfl, by rw [hU], by rw [hU]; exact hP, va_K.moved hW.alike hK, xN.warm hW hN, hD.weaken (fun _ _ _ _ => trivial)⟩⟩ rfl rfl hl.1 rfl (lv_room (Nat.le_of_ble_eq_true rfl)) dX7_image_77 ⟨Nat.le_of_ble_eq_true rfl, Nat.le_of_ble_eq_true rfl⟩) hS (fun q _ h => hFc q h) hFc (fun u t H1 locs ht hvm hw hB hz1 hk1 hS => ?_)
      have hw : u = ((su (su (su (su (su f 12 (f 6)) 13 (nI (n))) 14 (nI (k8))) 15 (f 9)) 18 (f 17), su (su g 4 (fil (g 4) (g 2) 8)) 5 (fil (g 5) (g 3) 8), pa, tv, n, pd, pk, fil pv (fun q9 => xKeep (pv q9)) n) : XSt) := hw
      subst hw
      obtain ⟨hP1, hK1, hD1⟩ := hB
      rw [ht] at hP1
      have hP : va_P (dC, dI) vwCl (xW cI cP a o (su (su (su (su (su f 12 (f 6)) 13 (nI (n))) 14 (nI (k8))) 15 (f 9)) 18 (f 17)) (su (su g 4 (fil (g 4) (g 2) 8)) 5 (fil (g 5) (g 3) 8)) pa tv n pd pk (fil pv (fun q9 => xKeep (pv q9)) n)) H1 := hP1
      have hD : va_D A (xW cI cP a o (su (su (su (su (su f 12 (f 6)) 13 (nI (n))) 14 (nI (k8))) 15 (f 9)) 18 (f 17)) (su (su g 4 (fil (g 4) (g 2) 8)) 5 (fil (g 5) (g 3) 8)) pa tv n pd pk (fil pv (fun q9 => xKeep (pv q9)) n)) := hD1.weaken (fun _ _ _ h => hFc _ h)
      clear hP1 hD1 hK1 hFc hk1 hz1
      generalize H1 = H at hP hS ⊢
      have hP : va_P (dC, dI) vwCl (xW cI cP a o (su (su (su (su (su f 12 (f 6)) 13 (nI (n))) 14 (nI (k8))) 15 (f 9)) 18 (f 17)) (su (su g 4 (fil (g 4) (g 2) 8)) 5 (fil (g 5) (g 3) 8)) pa tv n pd pk (fil pv (fun q9 => xKeep (pv q9)) n)) H := hP
      have hD : va_D A (xW cI cP a o (su (su (su (su (su f 12 (f 6)) 13 (nI (n))) 14 (nI (k8))) 15 (f 9)) 18 (f 17)) (su (su g 4 (fil (g 4) (g 2) 8)) 5 (fil (g 5) (g 3) 8)) pa tv n pd pk (fil pv (fun q9 => xKeep (pv q9)) n)) := hD
      refine lv_aload_n hx hb dX7_image_80 rfl (lv_at hl 0 rfl) ?_
      refine va_get (D := (dC, dI)) (ci := 7) (v := .int (nI (n))) (C := RX7) (T := TX7) (N := 16) hx hb hts hin7 hown hK hP 0 rfl rfl 7 (by decide) hW2 (fun _ h9 => h9) (congrArg (fun z => some (Value.int z)) e7) dX7_image_81 ?_
      have hP9 : va_P (dC, dI) vwCl (xW cI cP a o (su (su (su (su (su f 12 (f 6)) 13 (nI (n))) 14 (nI (k8))) 15 (f 9)) 18 (f 17)) (su (su g 4 (fil (g 4) (g 2) 8)) 5 (fil (g 5) (g 3) 8)) pa tv n pd pk (fil pv (fun q9 => xKeep (pv q9)) n)) H := hP
      exact W.iret (v := nI (n)) hx hb hr (fun t ht hW => ⟨⟨nI (n), (su (su (su (su (su f 12 (f 6)) 13 (nI (n))) 14 (nI (k8))) 15 (f 9)) 18 (f 17), su (su g 4 (fil (g 4) (g 2) 8)) 5 (fil (g 5) (g 3) 8), pa, tv, n, pd, pk, fil pv (fun q9 => xKeep (pv q9)) n), rfl, (by show ((nI (n), (su (su (su (su (su f 12 (f 6)) 13 (nI (n))) 14 (nI (k8))) 15 (f 9)) 18 (f 17), su (su g 4 (fil (g 4) (g 2) 8)) 5 (fil (g 5) (g 3) 8), pa, tv, n, pd, pk, fil pv (fun q9 => xKeep (pv q9)) n)) : _ × XSt) = xImage f g pa tv n k8 pd pk pv; first | (simp only [xImage, if_neg c_1, if_pos c_2]; done) | (simp only [xImage, if_neg c_1, if_pos c_2]; rfl) | rfl | (simp [xImage, if_neg c_1, if_pos c_2]; done)), by rw [ht]; exact hP9, va_K.moved hW.alike hK, hD⟩, hS.F ht⟩) hS.2.2 dX7_image_84
    · skip
      rw [nI_leI (a := n) (b := j) (by omega) (by omega)] at c_2
      refine lv_aload_n hx hb dX7_image_53 rfl (lv_at hl 0 rfl) ?_
      refine lv_iload_n hx hb dX7_image_54 rfl (lv_at hl 1 rfl) ?_
      refine va_csq (va_Run.run (va_runV (As := [.int (nI (j))]) (rest := []) ⟨hx, hb, hml, hown, hts⟩ (c7_known l dC dI cI cP a o (su (su (su (su f 12 (f 6)) 13 (nI (n))) 14 (nI (k8))) 15 (f 9)) g pa tv n pd pk (fil pv (fun q9 => xKeep (pv q9)) j) e7 (by omega) hpa hpk (nI (j)) ) (cwV 1 hts gX7_image_X7_known rfl rfl rfl (by decide +kernel) ⟨Nat.le_of_ble_eq_true rfl, Nat.le_of_ble_eq_true rfl⟩) ⟨fun a U g mk q => ⟨q.1, q.2.1, va_K.moved (u := U) (U := U.calling g mk a) (Vm.Alike.refl U.vm) q.2.2.1, xN.same (u := U) (U := U.calling g mk a) rfl q.2.2.2⟩, va_recv hK hP (ci := 7) (q0 := 0) rfl rfl, fun U hU hW => ⟨rfl, by rw [hU]; exact hP, va_K.moved hW.alike hK, xN.warm hW hN⟩⟩ rfl rfl hl.1 rfl (lv_room (Nat.le_of_ble_eq_true rfl)) dX7_image_55 ⟨Nat.le_of_ble_eq_true rfl, Nat.le_of_ble_eq_true rfl⟩)) (fun r hrc => ?_)
      have hrc : r = xKn n pd (nI (j)) := hrc
      subst hrc
      refine rf_s (xKn_k (by omega) (by omega)) ?_
      refine lv_astore_n (lv' := [(2, .ref (pd (j))), (0, .ref (a)), (1, .int (nI (j)))]) hx hb dX7_image_58 rfl hl (by decide) rfl (fun ls hl => ?_)
      refine lv_aload_n hx hb dX7_image_59 rfl (lv_at hl 0 rfl) ?_
      refine lv_ifnull hx hb dX7_image_60 ?_
      refine lv_aload_n hx hb dX7_image_63 rfl (lv_at hl 0 rfl) ?_
      refine cf_keep ⟨hx, hb, hml, hown, hts⟩ hts gX7_image_X4_keep_u189X0 gX7_image_X4_keep_u189X2 gX7_image_X4_keep gX7_image_X4_keep_u189X5 gX7_image_X4_keep_u189X6 hK hP hD hS hA (17 + (j)) (hpk _ (by omega)) (xw_p (by omega)) hl.1 (Nat.le_of_ble_eq_true rfl) ⟨Nat.le_of_ble_eq_true rfl, Nat.le_of_ble_eq_true rfl⟩ ⟨Nat.le_of_ble_eq_true rfl, Nat.le_of_ble_eq_true rfl⟩ dX7_image_64 (fun H locs hP hD hS => ?_)
      rw [xw_setp (by omega)] at hP hD
      have hP : va_P (dC, dI) vwCl (xW cI cP a o (su (su (su (su f 12 (f 6)) 13 (nI (n))) 14 (nI (k8))) 15 (f 9)) g pa tv n pd pk (su (fil pv (fun q9 => xKeep (pv q9)) j) (j) (xKeep ((fil pv (fun q9 => xKeep (pv q9)) j) (j))))) H := hP
      have hD : va_D A (xW cI cP a o (su (su (su (su f 12 (f 6)) 13 (nI (n))) 14 (nI (k8))) 15 (f 9)) g pa tv n pd pk (su (fil pv (fun q9 => xKeep (pv q9)) j) (j) (xKeep ((fil pv (fun q9 => xKeep (pv q9)) j) (j))))) := hD
      refine lv_iinc (v := nI (j + 1)) (lv' := [(1, .int (nI (j + 1))), (2, .ref (pd (j))), (0, .ref (a))]) hx hb dX7_image_67 hl (k := 2) rfl (nI_1 _) (by decide) rfl (fun ls hl => ?_)
      refine lv_goto (tgt := 45) hx hb dX7_image_70 (by decide) ?_
      have e2_0 : su (fil pv (fun q9 => xKeep (pv q9)) j) (j) (xKeep ((fil pv (fun q9 => xKeep (pv q9)) j) (j))) = fil pv (fun q9 => xKeep (pv q9)) (j + 1) := by rw [su_fil_at]; exact fil_s pv _ _
      have hP : va_P (dC, dI) vwCl (xW cI cP a o (su (su (su (su f 12 (f 6)) 13 (nI (n))) 14 (nI (k8))) 15 (f 9)) g pa tv n pd pk (fil pv (fun q9 => xKeep (pv q9)) (j + 1))) H := by rw [← e2_0]; exact hP
      have hD : va_D A (xW cI cP a o (su (su (su (su f 12 (f 6)) 13 (nI (n))) 14 (nI (k8))) 15 (f 9)) g pa tv n pd pk (fil pv (fun q9 => xKeep (pv q9)) (j + 1))) := by rw [← e2_0]; exact hD
      exact ih_45 (j + 1) H locs ls (by show _ < _; omega) (by show _; omega) hP hD hS (by show lv_has ls 3 [(0, .ref (a)), (1, .int (nI ((j + 1))))]; exact lv_sub hl [2, 0] rfl)
  · skip
    refine lv_bipush (v := (-103)) hx hb dX7_image_8 (by decide +kernel) ?_
    have hP9 : va_P (dC, dI) vwCl (xW cI cP a o f g pa tv n pd pk pv) H := hP
    exact W.iret (v := (-103)) hx hb hr (fun t ht hW => ⟨⟨(-103), (f, g, pa, tv, n, pd, pk, pv), rfl, (by show (((-103), (f, g, pa, tv, n, pd, pk, pv)) : _ × XSt) = xImage f g pa tv n k8 pd pk pv; first | (simp only [xImage, if_pos c_1]; done) | (simp only [xImage, if_pos c_1]; rfl) | rfl | (simp [xImage, if_pos c_1]; done)), by rw [ht]; exact hP9, va_K.moved hW.alike hK, hD⟩, hS.F ht⟩) hS.2.2 dX7_image_10

set_option maxHeartbeats 1200000 in
set_option maxRecDepth 100000 in
theorem c7_restore (l : Launch) (dC : Nat → ClassId) (dI : Nat → Nat → Nat) (cI cP : ClassId) (a : Nat) (o : Nat → Nat) (f : Nat → Int32) (g : Nat → Nat → Int32) (pa : Nat → Option Nat) (tv : Nat → Nat → Int32) (n : Nat) (pd pk : Nat → Nat) (pv : Nat → Nat → Int32) (sz : Nat) (e7 : f 7 = nI n) (b7 : n ≤ 4) (hpa : ∀ i, i < n → pa i = some (pd i)) (hpk : ∀ i, i < n → pk i < 5) {m9 : Nat} (e13 : ¬ f 12 = (-1) → f 13 = nI m9) (b13 : m9 ≤ n) : Met l yX7_restore wsX7_restore ({ frames := 2, cells := 0, slots := 0, locals := 68 } : Room) (va_Pc [.ref (a)] (fun U => U.heap.size = sz ∧ va_P (dC, dI) vwCl (xW cI cP a o f g pa tv n pd pk pv) U.heap ∧ va_K (dC, dI) vwCl [(cI, .int), (cP, .object RX4)] U ∧ xN U ∧ va_D (fun _ => True) (xW cI cP a o f g pa tv n pd pk pv))) (va_Qi (fun (r : Int32) (u : XSt) => (r, u) = xRestore f g pa tv n m9 pd pk pv) (xB dC dI cI cP a o (va_A (xW cI cP a o f g pa tv n pd pk pv) sz)) (va_A (xW cI cP a o f g pa tv n pd pk pv) sz)) 0 0 (va_A (xW cI cP a o f g pa tv n pd pk pv) sz) := by
  refine Met.ofW (cc := cX7_restore) (maxL := 3) (ret := (some .int)) (by decide) rfl ?_
  intro p_ e_ s m args below meth c_0 s₁ B hml hv
  obtain ⟨rfl, hsz, hP, hK, hN, hD0⟩ := hv
  have hx := B.exec
  have hb := B.bytes
  have hr := B.returns
  have hts := atoms_spec (ws := wsX7_restore) B.pre
  have hown : s.vm.findClass RX7 = some m.cls := findClass_of_methodNamed B.named
  have hlocks := B.notSynchronized
  subst hsz
  have hD := hD0.self (sz := s.heap.size)
  generalize hAe : va_A (xW cI cP a o f g pa tv n pd pk pv) s.heap.size = A at hD ⊢
  have hA : ∀ q : Nat, s.heap.size ≤ q → A q := fun q h => by rw [← hAe]; exact Or.inr h
  obtain ⟨H, hHe⟩ : ∃ H : Heap, H = s.heap := ⟨_, rfl⟩
  have hS : va_S A s.heap H [] := by rw [hHe]; exact va_S.rf
  rw [← hHe] at hP ⊢
  have hP : va_P (dC, dI) vwCl (xW cI cP a o f g pa tv n pd pk pv) H := hP
  have hl := lv_entry ([.ref (a)]) (n := 3) (Nat.le_of_ble_eq_true rfl)
  rw [lg_entry_eq]
  generalize (lg_sl ([.ref (a)]) ++ List.replicate (3 - (lg_sl ([.ref (a)])).length) Slot.unset).toArray = ls at hl ⊢
  have hl : lv_has ls 3 [(0, .ref (a))] := hl
  have hin7 : ∀ w ∈ wsX70, w ∈ wsX7_restore := fun _ h => List.mem_cons_of_mem _ (List.mem_append_left _ (List.mem_append_left _ (List.mem_append_left _ (List.mem_append_left _ (List.mem_append_left _ (List.mem_append_left _ (List.mem_append_right _ h)))))))
  have hW0 := hts (.fieldLink RX7 43 "EachEye" "keptSign" "I") (by decide +kernel)
  have hW1 := hts (.fieldLink RX7 39 "EachEye" "theSign" "I") (by decide +kernel)
  have hW2 := hts (.fieldLink RX7 180 "EachEye" "keptPeople" "I") (by decide +kernel)
  have hW3 := hts (.fieldLink RX7 67 "EachEye" "peopleCount" "I") (by decide +kernel)
  have hW4 := hts (.fieldLink RX7 183 "EachEye" "keptInks" "I") (by decide +kernel)
  have hW5 := hts (.fieldLink RX7 70 "EachEye" "inkCount" "I") (by decide +kernel)
  have hW6 := hts (.fieldLink RX7 186 "EachEye" "keptLayers" "I") (by decide +kernel)
  have hW7 := hts (.fieldLink RX7 73 "EachEye" "layersDone" "I") (by decide +kernel)
  have hW8 := hts (.fieldLink RX7 29 "EachEye" "cards" "LEachEye$Cards;") (by decide +kernel)
  refine lv_aload_n hx hb dX7_restore_0 rfl (lv_at hl 0 rfl) ?_
  refine va_get (D := (dC, dI)) (ci := 7) (v := .int (f 12)) (C := RX7) (T := TX7) (N := 16) hx hb hts hin7 hown hK hP 0 rfl rfl 12 (by decide) hW0 (fun _ h9 => h9) rfl dX7_restore_1 ?_
  refine lv_iconst (v := (-1)) hx hb dX7_restore_4 (by decide +kernel) ?_
  refine lv_icmp_ne (tgt := 11) hx hb dX7_restore_5 (by decide) (fun c_1 => ?_) (fun c_1 => ?_)
  · skip
    refine lv_aload_n hx hb dX7_restore_11 rfl (lv_at hl 0 rfl) ?_
    refine lv_aload_n hx hb dX7_restore_12 rfl (lv_at hl 0 rfl) ?_
    refine va_get (D := (dC, dI)) (ci := 7) (v := .int (f 12)) (C := RX7) (T := TX7) (N := 16) hx hb hts hin7 hown hK hP 0 rfl rfl 12 (by decide) hW0 (fun _ h9 => h9) rfl dX7_restore_13 ?_
    refine va_put (D := (dC, dI)) (ci := 7) (v := .int (f 12)) (ty := .int) (C := RX7) (T := TX7) (N := 16) hx hb hts hin7 tyX7 tyX7_ok nmX7 hown hK hP hD hS 0 rfl rfl 6 (by decide) hW1 (fun _ h9 => h9) rfl (by decide +kernel) rfl rfl (Nat.le_of_ble_eq_true rfl) dX7_restore_16 (fun H locs hP hD hS => ?_)
    have hP : va_P (dC, dI) vwCl (xW cI cP a o (su f 6 (f 12)) g pa tv n pd pk pv) H := hP
    have hD : va_D A (xW cI cP a o (su f 6 (f 12)) g pa tv n pd pk pv) := hD
    refine lv_aload_n hx hb dX7_restore_19 rfl (lv_at hl 0 rfl) ?_
    refine lv_aload_n hx hb dX7_restore_20 rfl (lv_at hl 0 rfl) ?_
    refine va_get (D := (dC, dI)) (ci := 7) (v := .int (f 13)) (C := RX7) (T := TX7) (N := 16) hx hb hts hin7 hown hK hP 0 rfl rfl 13 (by decide) hW2 (fun _ h9 => h9) rfl dX7_restore_21 ?_
    refine tq (e13 c_1) ?_
    refine va_put (D := (dC, dI)) (ci := 7) (v := .int (nI (m9))) (ty := .int) (C := RX7) (T := TX7) (N := 16) hx hb hts hin7 tyX7 tyX7_ok nmX7 hown hK hP hD hS 0 rfl rfl 7 (by decide) hW3 (fun _ h9 => h9) rfl (by decide +kernel) rfl rfl (Nat.le_of_ble_eq_true rfl) dX7_restore_24 (fun H locs hP hD hS => ?_)
    have hP : va_P (dC, dI) vwCl (xW cI cP a o (su (su f 6 (f 12)) 7 (nI (m9))) g pa tv n pd pk pv) H := hP
    have hD : va_D A (xW cI cP a o (su (su f 6 (f 12)) 7 (nI (m9))) g pa tv n pd pk pv) := hD
    have hP := xw_dropP (m9) (by omega) hP
    have hD := xw_dropD (m9) (by omega) hD
    have hP : va_P (dC, dI) vwCl (xW cI cP a o (su (su f 6 (f 12)) 7 (nI (m9))) g pa tv m9 pd pk pv) H := hP
    have hD : va_D A (xW cI cP a o (su (su f 6 (f 12)) 7 (nI (m9))) g pa tv m9 pd pk pv) := hD
    refine lv_aload_n hx hb dX7_restore_27 rfl (lv_at hl 0 rfl) ?_
    refine lv_aload_n hx hb dX7_restore_28 rfl (lv_at hl 0 rfl) ?_
    refine va_get (D := (dC, dI)) (ci := 7) (v := .int (f 14)) (C := RX7) (T := TX7) (N := 16) hx hb hts hin7 hown hK hP 0 rfl rfl 14 (by decide) hW4 (fun _ h9 => h9) rfl dX7_restore_29 ?_
    refine va_put (D := (dC, dI)) (ci := 7) (v := .int (f 14)) (ty := .int) (C := RX7) (T := TX7) (N := 16) hx hb hts hin7 tyX7 tyX7_ok nmX7 hown hK hP hD hS 0 rfl rfl 8 (by decide) hW5 (fun _ h9 => h9) rfl (by decide +kernel) rfl rfl (Nat.le_of_ble_eq_true rfl) dX7_restore_32 (fun H locs hP hD hS => ?_)
    have hP : va_P (dC, dI) vwCl (xW cI cP a o (su (su (su f 6 (f 12)) 7 (nI (m9))) 8 (f 14)) g pa tv m9 pd pk pv) H := hP
    have hD : va_D A (xW cI cP a o (su (su (su f 6 (f 12)) 7 (nI (m9))) 8 (f 14)) g pa tv m9 pd pk pv) := hD
    refine lv_aload_n hx hb dX7_restore_35 rfl (lv_at hl 0 rfl) ?_
    refine lv_aload_n hx hb dX7_restore_36 rfl (lv_at hl 0 rfl) ?_
    refine va_get (D := (dC, dI)) (ci := 7) (v := .int (f 15)) (C := RX7) (T := TX7) (N := 16) hx hb hts hin7 hown hK hP 0 rfl rfl 15 (by decide) hW6 (fun _ h9 => h9) rfl dX7_restore_37 ?_
    refine va_put (D := (dC, dI)) (ci := 7) (v := .int (f 15)) (ty := .int) (C := RX7) (T := TX7) (N := 16) hx hb hts hin7 tyX7 tyX7_ok nmX7 hown hK hP hD hS 0 rfl rfl 9 (by decide) hW7 (fun _ h9 => h9) rfl (by decide +kernel) rfl rfl (Nat.le_of_ble_eq_true rfl) dX7_restore_40 (fun H locs hP hD hS => ?_)
    have hP : va_P (dC, dI) vwCl (xW cI cP a o (su (su (su (su f 6 (f 12)) 7 (nI (m9))) 8 (f 14)) 9 (f 15)) g pa tv m9 pd pk pv) H := hP
    have hD : va_D A (xW cI cP a o (su (su (su (su f 6 (f 12)) 7 (nI (m9))) 8 (f 14)) 9 (f 15)) g pa tv m9 pd pk pv) := hD
    refine lv_iconst (v := nI (0)) hx hb dX7_restore_43 (by decide +kernel) ?_
    refine lv_istore_n (lv' := [(1, .int (nI (0))), (0, .ref (a))]) hx hb dX7_restore_44 rfl hl (by decide) rfl (fun ls hl => ?_)
    have hP0 : va_P (dC, dI) vwCl (xW cI cP a o (su (su (su (su f 6 (f 12)) 7 (nI (m9))) 8 (f 14)) 9 (f 15)) g pa tv m9 pd pk (fil pv (fun q9 => xBack (pv q9)) 0)) H := by rw [fil_0]; exact hP
    have hD0 : va_D A (xW cI cP a o (su (su (su (su f 6 (f 12)) 7 (nI (m9))) 8 (f 14)) 9 (f 15)) g pa tv m9 pd pk (fil pv (fun q9 => xBack (pv q9)) 0)) := by rw [fil_0]; exact hD
    refine lp_rw (fun j : Nat => m9 - j) (fun j : Nat => j ≤ m9) (fun j : Nat => [(0, .ref (a)), (1, .int (nI (j)))]) (fun j : Nat => xW cI cP a o (su (su (su (su f 6 (f 12)) 7 (nI (m9))) 8 (f 14)) 9 (f 15)) g pa tv m9 pd pk (fil pv (fun q9 => xBack (pv q9)) j)) (0) (by omega) hP0 hD0 hS (by show lv_has ls 3 [(0, .ref (a)), (1, .int (nI (0)))]; exact lv_sub hl [1, 0] rfl) (fun j hI ih_45 H locs ls hP hD hS hl => ?_)
    have hP : va_P (dC, dI) vwCl (xW cI cP a o (su (su (su (su f 6 (f 12)) 7 (nI (m9))) 8 (f 14)) 9 (f 15)) g pa tv m9 pd pk (fil pv (fun q9 => xBack (pv q9)) j)) H := hP
    have hD : va_D A (xW cI cP a o (su (su (su (su f 6 (f 12)) 7 (nI (m9))) 8 (f 14)) 9 (f 15)) g pa tv m9 pd pk (fil pv (fun q9 => xBack (pv q9)) j)) := hD
    have hI : j ≤ m9 := hI
    have hl : lv_has ls 3 [(0, .ref (a)), (1, .int (nI (j)))] := hl
    refine lv_iload_n hx hb dX7_restore_45 rfl (lv_at hl 1 rfl) ?_
    refine lv_aload_n hx hb dX7_restore_46 rfl (lv_at hl 0 rfl) ?_
    refine va_get (D := (dC, dI)) (ci := 7) (v := .int (nI (m9))) (C := RX7) (T := TX7) (N := 16) hx hb hts hin7 hown hK hP 0 rfl rfl 7 (by decide) hW3 (fun _ h9 => h9) rfl dX7_restore_47 ?_
    refine lv_icmp_ge (tgt := 73) hx hb dX7_restore_50 (by decide) (fun c_2 => ?_) (fun c_2 => ?_)
    · skip
      rw [nI_leI (a := m9) (b := j) (by omega) (by omega)] at c_2
      have hE : m9 = j := by omega
      subst hE
      refine lv_aload_n hx hb dX7_restore_73 rfl (lv_at hl 0 rfl) ?_
      refine va_get (D := (dC, dI)) (ci := 7) (v := .ref (o 3)) (C := RX7) (T := TX7) (N := 16) hx hb hts hin7 hown hK hP 0 rfl rfl 3 (by decide) hW8 (fun _ h9 => h9) rfl dX7_restore_74 ?_
      have hFc : ∀ q, va_A (xW cI cP a o (su (su (su (su f 6 (f 12)) 7 (nI (m9))) 8 (f 14)) 9 (f 15)) g pa tv m9 pd pk (fil pv (fun q9 => xBack (pv q9)) m9)) H.size q → A q := fun q h => h.elim (fun ⟨j, e, hj⟩ => hD.2 j (q, e) hj) (fun h => hA q (Nat.le_trans hS.1 h))
      refine va_callv (va_runV (As := []) (rest := []) ⟨hx, hb, hml, hown, hts⟩ (c1_goBack l dC dI cI cP a o (su (su (su (su f 6 (f 12)) 7 (nI (m9))) 8 (f 14)) 9 (f 15)) g pa tv m9 pd pk (fil pv (fun q9 => xBack (pv q9)) m9) H.size   ) (cwV 0 hts gX7_restore_X1_goBack rfl rfl rfl (by decide +kernel) ⟨Nat.le_of_ble_eq_true rfl, Nat.le_of_ble_eq_true rfl⟩) ⟨fun a U g mk q => by obtain ⟨q0, q1, qP, qK, qN, qD⟩ := q; exact ⟨q0, q1, qP, va_K.moved (u := U) (U := U.calling g mk a) (Vm.Alike.refl U.vm) qK, xN.same (u := U) (U := U.calling g mk a) rfl qN, qD⟩, va_recv hK hP (ci := 1) (q0 := 5) rfl rfl, fun U hU hW => ⟨rfl, by rw [hU], by rw [hU]; exact hP, va_K.moved hW.alike hK, xN.warm hW hN, hD.weaken (fun _ _ _ _ => trivial)⟩⟩ rfl rfl hl.1 rfl (lv_room (Nat.le_of_ble_eq_true rfl)) dX7_restore_77 ⟨Nat.le_of_ble_eq_true rfl, Nat.le_of_ble_eq_true rfl⟩) hS (fun q _ h => hFc q h) hFc (fun u t H1 locs ht hvm hw hB hz1 hk1 hS => ?_)
      have hw : u = ((su (su (su (su (su f 6 (f 12)) 7 (nI (m9))) 8 (f 14)) 9 (f 15)) 17 (f 18), su (su g 2 (fil (g 2) (g 4) 8)) 3 (fil (g 3) (g 5) 8), pa, tv, m9, pd, pk, fil pv (fun q9 => xBack (pv q9)) m9) : XSt) := hw
      subst hw
      obtain ⟨hP1, hK1, hD1⟩ := hB
      rw [ht] at hP1
      have hP : va_P (dC, dI) vwCl (xW cI cP a o (su (su (su (su (su f 6 (f 12)) 7 (nI (m9))) 8 (f 14)) 9 (f 15)) 17 (f 18)) (su (su g 2 (fil (g 2) (g 4) 8)) 3 (fil (g 3) (g 5) 8)) pa tv m9 pd pk (fil pv (fun q9 => xBack (pv q9)) m9)) H1 := hP1
      have hD : va_D A (xW cI cP a o (su (su (su (su (su f 6 (f 12)) 7 (nI (m9))) 8 (f 14)) 9 (f 15)) 17 (f 18)) (su (su g 2 (fil (g 2) (g 4) 8)) 3 (fil (g 3) (g 5) 8)) pa tv m9 pd pk (fil pv (fun q9 => xBack (pv q9)) m9)) := hD1.weaken (fun _ _ _ h => hFc _ h)
      clear hP1 hD1 hK1 hFc hk1 hz1
      generalize H1 = H at hP hS ⊢
      have hP : va_P (dC, dI) vwCl (xW cI cP a o (su (su (su (su (su f 6 (f 12)) 7 (nI (m9))) 8 (f 14)) 9 (f 15)) 17 (f 18)) (su (su g 2 (fil (g 2) (g 4) 8)) 3 (fil (g 3) (g 5) 8)) pa tv m9 pd pk (fil pv (fun q9 => xBack (pv q9)) m9)) H := hP
      have hD : va_D A (xW cI cP a o (su (su (su (su (su f 6 (f 12)) 7 (nI (m9))) 8 (f 14)) 9 (f 15)) 17 (f 18)) (su (su g 2 (fil (g 2) (g 4) 8)) 3 (fil (g 3) (g 5) 8)) pa tv m9 pd pk (fil pv (fun q9 => xBack (pv q9)) m9)) := hD
      refine lv_aload_n hx hb dX7_restore_80 rfl (lv_at hl 0 rfl) ?_
      refine va_get (D := (dC, dI)) (ci := 7) (v := .int (nI (m9))) (C := RX7) (T := TX7) (N := 16) hx hb hts hin7 hown hK hP 0 rfl rfl 7 (by decide) hW3 (fun _ h9 => h9) rfl dX7_restore_81 ?_
      have hP9 : va_P (dC, dI) vwCl (xW cI cP a o (su (su (su (su (su f 6 (f 12)) 7 (nI (m9))) 8 (f 14)) 9 (f 15)) 17 (f 18)) (su (su g 2 (fil (g 2) (g 4) 8)) 3 (fil (g 3) (g 5) 8)) pa tv m9 pd pk (fil pv (fun q9 => xBack (pv q9)) m9)) H := hP
      exact W.iret (v := nI (m9)) hx hb hr (fun t ht hW => ⟨⟨nI (m9), (su (su (su (su (su f 6 (f 12)) 7 (nI (m9))) 8 (f 14)) 9 (f 15)) 17 (f 18), su (su g 2 (fil (g 2) (g 4) 8)) 3 (fil (g 3) (g 5) 8), pa, tv, m9, pd, pk, fil pv (fun q9 => xBack (pv q9)) m9), rfl, (by show ((nI (m9), (su (su (su (su (su f 6 (f 12)) 7 (nI (m9))) 8 (f 14)) 9 (f 15)) 17 (f 18), su (su g 2 (fil (g 2) (g 4) 8)) 3 (fil (g 3) (g 5) 8), pa, tv, m9, pd, pk, fil pv (fun q9 => xBack (pv q9)) m9)) : _ × XSt) = xRestore f g pa tv n m9 pd pk pv; first | (simp only [xRestore, if_neg c_1, if_pos c_2]; done) | (simp only [xRestore, if_neg c_1, if_pos c_2]; rfl) | rfl | (simp [xRestore, if_neg c_1, if_pos c_2]; done)), by rw [ht]; exact hP9, va_K.moved hW.alike hK, hD⟩, hS.F ht⟩) hS.2.2 dX7_restore_84
    · skip
      rw [nI_leI (a := m9) (b := j) (by omega) (by omega)] at c_2
      refine lv_aload_n hx hb dX7_restore_53 rfl (lv_at hl 0 rfl) ?_
      refine lv_iload_n hx hb dX7_restore_54 rfl (lv_at hl 1 rfl) ?_
      refine va_csq (va_Run.run (va_runV (As := [.int (nI (j))]) (rest := []) ⟨hx, hb, hml, hown, hts⟩ (c7_known l dC dI cI cP a o (su (su (su (su f 6 (f 12)) 7 (nI (m9))) 8 (f 14)) 9 (f 15)) g pa tv m9 pd pk (fil pv (fun q9 => xBack (pv q9)) j) rfl (by omega) (fun i hi => hpa i (by omega)) (fun i hi => hpk i (by omega)) (nI (j)) ) (cwV 1 hts gX7_restore_X7_known rfl rfl rfl (by decide +kernel) ⟨Nat.le_of_ble_eq_true rfl, Nat.le_of_ble_eq_true rfl⟩) ⟨fun a U g mk q => ⟨q.1, q.2.1, va_K.moved (u := U) (U := U.calling g mk a) (Vm.Alike.refl U.vm) q.2.2.1, xN.same (u := U) (U := U.calling g mk a) rfl q.2.2.2⟩, va_recv hK hP (ci := 7) (q0 := 0) rfl rfl, fun U hU hW => ⟨rfl, by rw [hU]; exact hP, va_K.moved hW.alike hK, xN.warm hW hN⟩⟩ rfl rfl hl.1 rfl (lv_room (Nat.le_of_ble_eq_true rfl)) dX7_restore_55 ⟨Nat.le_of_ble_eq_true rfl, Nat.le_of_ble_eq_true rfl⟩)) (fun r hrc => ?_)
      have hrc : r = xKn m9 pd (nI (j)) := hrc
      subst hrc
      refine rf_s (xKn_k (by omega) (by omega)) ?_
      refine lv_astore_n (lv' := [(2, .ref (pd (j))), (0, .ref (a)), (1, .int (nI (j)))]) hx hb dX7_restore_58 rfl hl (by decide) rfl (fun ls hl => ?_)
      refine lv_aload_n hx hb dX7_restore_59 rfl (lv_at hl 0 rfl) ?_
      refine lv_ifnull hx hb dX7_restore_60 ?_
      refine lv_aload_n hx hb dX7_restore_63 rfl (lv_at hl 0 rfl) ?_
      refine cf_goBack ⟨hx, hb, hml, hown, hts⟩ hts gX7_restore_X4_goBack_u193X0 gX7_restore_X4_goBack_u193X2 gX7_restore_X4_goBack gX7_restore_X4_goBack_u193X5 gX7_restore_X4_goBack_u193X6 hK hP hD hS hA (17 + (j)) ((fun i hi => hpk i (by omega)) _ (by omega)) (xw_p (by omega)) hl.1 (Nat.le_of_ble_eq_true rfl) ⟨Nat.le_of_ble_eq_true rfl, Nat.le_of_ble_eq_true rfl⟩ ⟨Nat.le_of_ble_eq_true rfl, Nat.le_of_ble_eq_true rfl⟩ dX7_restore_64 (fun H locs hP hD hS => ?_)
      rw [xw_setp (by omega)] at hP hD
      have hP : va_P (dC, dI) vwCl (xW cI cP a o (su (su (su (su f 6 (f 12)) 7 (nI (m9))) 8 (f 14)) 9 (f 15)) g pa tv m9 pd pk (su (fil pv (fun q9 => xBack (pv q9)) j) (j) (xBack ((fil pv (fun q9 => xBack (pv q9)) j) (j))))) H := hP
      have hD : va_D A (xW cI cP a o (su (su (su (su f 6 (f 12)) 7 (nI (m9))) 8 (f 14)) 9 (f 15)) g pa tv m9 pd pk (su (fil pv (fun q9 => xBack (pv q9)) j) (j) (xBack ((fil pv (fun q9 => xBack (pv q9)) j) (j))))) := hD
      refine lv_iinc (v := nI (j + 1)) (lv' := [(1, .int (nI (j + 1))), (2, .ref (pd (j))), (0, .ref (a))]) hx hb dX7_restore_67 hl (k := 2) rfl (nI_1 _) (by decide) rfl (fun ls hl => ?_)
      refine lv_goto (tgt := 45) hx hb dX7_restore_70 (by decide) ?_
      have e2_0 : su (fil pv (fun q9 => xBack (pv q9)) j) (j) (xBack ((fil pv (fun q9 => xBack (pv q9)) j) (j))) = fil pv (fun q9 => xBack (pv q9)) (j + 1) := by rw [su_fil_at]; exact fil_s pv _ _
      have hP : va_P (dC, dI) vwCl (xW cI cP a o (su (su (su (su f 6 (f 12)) 7 (nI (m9))) 8 (f 14)) 9 (f 15)) g pa tv m9 pd pk (fil pv (fun q9 => xBack (pv q9)) (j + 1))) H := by rw [← e2_0]; exact hP
      have hD : va_D A (xW cI cP a o (su (su (su (su f 6 (f 12)) 7 (nI (m9))) 8 (f 14)) 9 (f 15)) g pa tv m9 pd pk (fil pv (fun q9 => xBack (pv q9)) (j + 1))) := by rw [← e2_0]; exact hD
      exact ih_45 (j + 1) H locs ls (by show _ < _; omega) (by show _; omega) hP hD hS (by show lv_has ls 3 [(0, .ref (a)), (1, .int (nI ((j + 1))))]; exact lv_sub hl [2, 0] rfl)
  · skip
    refine lv_bipush (v := (-103)) hx hb dX7_restore_8 (by decide +kernel) ?_
    have hP9 : va_P (dC, dI) vwCl (xW cI cP a o f g pa tv n pd pk pv) H := hP
    exact W.iret (v := (-103)) hx hb hr (fun t ht hW => ⟨⟨(-103), (f, g, pa, tv, n, pd, pk, pv), rfl, (by show (((-103), (f, g, pa, tv, n, pd, pk, pv)) : _ × XSt) = xRestore f g pa tv n m9 pd pk pv; first | (simp only [xRestore, if_pos c_1]; done) | (simp only [xRestore, if_pos c_1]; rfl) | rfl | (simp [xRestore, if_pos c_1]; done)), by rw [ht]; exact hP9, va_K.moved hW.alike hK, hD⟩, hS.F ht⟩) hS.2.2 dX7_restore_10
