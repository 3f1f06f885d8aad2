theorem set_at {ws : va_W} {q0 : Nat} {y z : Nat × va_E} (he : ws[q0]? = some y) : (ws.set q0 z)[q0]? = some z := List.getElem?_set_self (List.getElem?_eq_some_iff.mp he).1
theorem set_same {ws : va_W} {q0 : Nat} {y : Nat × va_E} (he : ws[q0]? = some y) : ws.set q0 y = ws := by
  apply List.ext_getElem?
  intro j
  by_cases hj : j = q0
  · subst hj
    rw [set_at he, he]
  · rw [List.getElem?_set_ne (Ne.symm hj)]
def xLose (v : Nat → Int32) (x y : Int32) : Nat → Int32 := if y.toInt < 0 then v else if y.toInt < ((3 : Nat) : Int) then (if x = nI 0 then su v 0 (v 0 &&& ((nI 1 <<< (y &&& 31)) ^^^ (-1))) else su v 1 (v 1 &&& ((nI 1 <<< (y &&& 31)) ^^^ (-1)))) else v
def xKeep (v : Nat → Int32) : Nat → Int32 := su (su (su v 3 (v 0)) 4 (v 1)) 5 (v 2)
def xBack (v : Nat → Int32) : Nat → Int32 := su (su (su v 0 (v 3)) 1 (v 4)) 2 (v 5)
set_option maxHeartbeats 1200000 in
set_option maxRecDepth 100000 in
theorem c4_lose (l : Launch) (dC : Nat → ClassId) (dI : Nat → Nat → Nat) (tys : List (ClassId × FieldType)) (ws : va_W) (q0 b : Nat) {k : Nat} (hk : k < 5) (v : Nat → Int32) (he : ws[q0]? = some (b, .inr (kc k, pF v))) (x : Int32) (y : Int32) (sz : Nat) : Met l yX4_lose wsX4_lose ({ frames := 0, cells := 0, slots := 0, locals := 0 } : Room) (va_Pc [.ref (b), .int (x), .int (y)] (fun U => U.heap.size = sz ∧ va_P (dC, dI) vwCl ws U.heap ∧ va_K (dC, dI) vwCl tys U ∧ va_D (fun _ => True) (ws))) (va_Qv (fun (u : Nat → Int32) => u = xLose v x y) (fun u t => va_P (dC, dI) vwCl (ws.set q0 (b, .inr (kc k, pF u))) t.heap ∧ va_K (dC, dI) vwCl tys t ∧ va_D (va_A ws sz) (ws.set q0 (b, .inr (kc k, pF u)))) (va_A ws sz)) 0 0 (va_A ws sz) := by
  refine Met.ofW (cc := cX4_lose) (maxL := 3) (ret := none) (by decide) rfl ?_
  intro p_ e_ s m args below meth c_0 s₁ B hml hv
  obtain ⟨rfl, hsz, hP, hK, hD0⟩ := hv
  have hx := B.exec
  have hb := B.bytes
  have hr := B.returns
  have hts := atoms_spec (ws := wsX4_lose) B.pre
  have hown : s.vm.findClass RX4 = some m.cls := findClass_of_methodNamed B.named
  have hlocks := B.notSynchronized
  subst hsz
  have hD := hD0.self (sz := s.heap.size)
  generalize hAe : va_A (ws) s.heap.size = A at hD ⊢
  have hA : ∀ q : Nat, s.heap.size ≤ q → A q := fun q h => by rw [← hAe]; exact Or.inr h
  obtain ⟨H, hHe⟩ : ∃ H : Heap, H = s.heap := ⟨_, rfl⟩
  have hS : va_S A s.heap H [] := by rw [hHe]; exact va_S.rf
  rw [← hHe] at hP ⊢
  have hP : va_P (dC, dI) vwCl (ws) H := hP
  have hl := lv_entry ([.ref (b), .int (x), .int (y)]) (n := 3) (Nat.le_of_ble_eq_true rfl)
  rw [lg_entry_eq]
  generalize (lg_sl ([.ref (b), .int (x), .int (y)]) ++ List.replicate (3 - (lg_sl ([.ref (b), .int (x), .int (y)])).length) Slot.unset).toArray = ls at hl ⊢
  have hl : lv_has ls 3 [(0, .ref (b)), (1, .int (x)), (2, .int (y))] := hl
  have hin0 : ∀ w ∈ wsX00, w ∈ wsX4_lose := fun _ h => List.mem_cons_of_mem _ (List.mem_append_left _ (List.mem_append_left _ (List.mem_append_left _ (List.mem_append_left _ (List.mem_append_right _ h)))))
  have hin2 : ∀ w ∈ wsX20, w ∈ wsX4_lose := fun _ h => List.mem_cons_of_mem _ (List.mem_append_left _ (List.mem_append_left _ (List.mem_append_left _ (List.mem_append_right _ h))))
  have hin4 : ∀ w ∈ wsX40, w ∈ wsX4_lose := fun _ h => List.mem_cons_of_mem _ (List.mem_append_left _ (List.mem_append_left _ (List.mem_append_right _ h)))
  have hin5 : ∀ w ∈ wsX50, w ∈ wsX4_lose := fun _ h => List.mem_cons_of_mem _ (List.mem_append_left _ (List.mem_append_right _ h))
  have hin6 : ∀ w ∈ wsX60, w ∈ wsX4_lose := fun _ h => List.mem_cons_of_mem _ (List.mem_append_right _ h)
  have hW0 := hts (.fieldLink RX4 21 "EachEye$Person" "right" "I") (by decide +kernel)
  have hW1 := hts (.fieldLink RX4 18 "EachEye$Person" "left" "I") (by decide +kernel)
  refine lv_iload_n hx hb dX4_lose_0 rfl (lv_at hl 2 rfl) ?_
  refine lv_if_lt (tgt := 9) hx hb dX4_lose_1 (by decide) (fun c_1 => ?_) (fun c_1 => ?_)
  · skip
    rw [lti, show (0 : Int32).toInt = 0 from rfl] at c_1
    have hP : va_P (dC, dI) vwCl (ws.set q0 (b, .inr (kc k, pF (v)))) H := by rw [set_same he]; exact hP
    have hD : va_D A (ws.set q0 (b, .inr (kc k, pF (v)))) := by rw [set_same he]; exact hD
    exact W.vret hx hb hr (fun t ht hW => ⟨⟨v, rfl, (by show (v) = xLose v x y; first | rfl | (simp only [xLose, if_pos c_1]; done)), by rw [ht]; exact hP, va_K.moved hW.alike hK, hD⟩, hS.F ht⟩) hS.2.2 dX4_lose_9
  · skip
    rw [lti, show (0 : Int32).toInt = 0 from rfl] at c_1
    refine lv_iload_n hx hb dX4_lose_4 rfl (lv_at hl 2 rfl) ?_
    refine lv_iconst (v := nI (3)) hx hb dX4_lose_5 (by decide +kernel) ?_
    refine lv_icmp_lt (tgt := 10) hx hb dX4_lose_6 (by decide) (fun c_2 => ?_) (fun c_2 => ?_)
    · skip
      rw [lti, tn (n := 3) (by omega)] at c_2
      refine lv_iload_n hx hb dX4_lose_10 rfl (lv_at hl 1 rfl) ?_
      refine lv_if_ne (tgt := 31) hx hb dX4_lose_11 (by decide) (fun c_3 => ?_) (fun c_3 => ?_)
      · skip
        have c_3 : ¬ (x) = nI 0 := c_3
        refine lv_aload_n hx hb dX4_lose_31 rfl (lv_at hl 0 rfl) ?_
        refine lv_dup hx hb dX4_lose_32 rfl ?_
        refine pe_get hx hb hts hin0 hin2 hin4 hin5 hin6 hown hK hP q0 hk he 1 (by decide) hW0 dX4_lose_33 ?_
        refine lv_iconst (v := nI (1)) hx hb dX4_lose_36 (by decide +kernel) ?_
        refine lv_iload_n hx hb dX4_lose_37 rfl (lv_at hl 2 rfl) ?_
        refine lv_ishl hx hb dX4_lose_38 ?_
        refine lv_iconst (v := (-1)) hx hb dX4_lose_39 (by decide +kernel) ?_
        refine lv_ixor hx hb dX4_lose_40 ?_
        refine lv_iand hx hb dX4_lose_41 ?_
        refine pe_put hx hb hts hin0 hin2 hin4 hin5 hin6 hown hK hP hD hS q0 hk he 1 (by decide) hW0 dX4_lose_42 (fun H locs hP hD hS => ?_)
        exact W.vret hx hb hr (fun t ht hW => ⟨⟨su v 1 ((v 1) &&& (((nI (1)) <<< ((y) &&& 31)) ^^^ ((-1)))), rfl, (by show (su v 1 ((v 1) &&& (((nI (1)) <<< ((y) &&& 31)) ^^^ ((-1))))) = xLose v x y; first | rfl | (simp only [xLose, if_neg c_1, if_pos c_2, if_neg c_3]; done)), by rw [ht]; exact hP, va_K.moved hW.alike hK, hD⟩, hS.F ht⟩) hS.2.2 dX4_lose_45
      · skip
        have c_3 : (x) = nI 0 := c_3
        refine lv_aload_n hx hb dX4_lose_14 rfl (lv_at hl 0 rfl) ?_
        refine lv_dup hx hb dX4_lose_15 rfl ?_
        refine pe_get hx hb hts hin0 hin2 hin4 hin5 hin6 hown hK hP q0 hk he 0 (by decide) hW1 dX4_lose_16 ?_
        refine lv_iconst (v := nI (1)) hx hb dX4_lose_19 (by decide +kernel) ?_
        refine lv_iload_n hx hb dX4_lose_20 rfl (lv_at hl 2 rfl) ?_
        refine lv_ishl hx hb dX4_lose_21 ?_
        refine lv_iconst (v := (-1)) hx hb dX4_lose_22 (by decide +kernel) ?_
        refine lv_ixor hx hb dX4_lose_23 ?_
        refine lv_iand hx hb dX4_lose_24 ?_
        refine pe_put hx hb hts hin0 hin2 hin4 hin5 hin6 hown hK hP hD hS q0 hk he 0 (by decide) hW1 dX4_lose_25 (fun H locs hP hD hS => ?_)
        refine lv_goto (tgt := 45) hx hb dX4_lose_28 (by decide) ?_
        exact W.vret hx hb hr (fun t ht hW => ⟨⟨su v 0 ((v 0) &&& (((nI (1)) <<< ((y) &&& 31)) ^^^ ((-1)))), rfl, (by show (su v 0 ((v 0) &&& (((nI (1)) <<< ((y) &&& 31)) ^^^ ((-1))))) = xLose v x y; first | rfl | (simp only [xLose, if_neg c_1, if_pos c_2, if_pos c_3]; done)), by rw [ht]; exact hP, va_K.moved hW.alike hK, hD⟩, hS.F ht⟩) hS.2.2 dX4_lose_45
    · skip
      rw [lti, tn (n := 3) (by omega)] at c_2
      have hP : va_P (dC, dI) vwCl (ws.set q0 (b, .inr (kc k, pF (v)))) H := by rw [set_same he]; exact hP
      have hD : va_D A (ws.set q0 (b, .inr (kc k, pF (v)))) := by rw [set_same he]; exact hD
      exact W.vret hx hb hr (fun t ht hW => ⟨⟨v, rfl, (by show (v) = xLose v x y; first | rfl | (simp only [xLose, if_neg c_1, if_neg c_2]; done)), by rw [ht]; exact hP, va_K.moved hW.alike hK, hD⟩, hS.F ht⟩) hS.2.2 dX4_lose_9

set_option maxHeartbeats 1200000 in
set_option maxRecDepth 100000 in
theorem c4_keep (l : Launch) (dC : Nat → ClassId) (dI : Nat → Nat → Nat) (tys : List (ClassId × FieldType)) (ws : va_W) (q0 b : Nat) {k : Nat} (hk : k < 5) (v : Nat → Int32) (he : ws[q0]? = some (b, .inr (kc k, pF v))) (sz : Nat) : Met l yX4_keep wsX4_keep ({ frames := 0, cells := 0, slots := 0, locals := 0 } : Room) (va_Pc [.ref (b)] (fun U => U.heap.size = sz ∧ va_P (dC, dI) vwCl ws U.heap ∧ va_K (dC, dI) vwCl tys U ∧ va_D (fun _ => True) (ws))) (va_Qv (fun (u : Nat → Int32) => u = xKeep v) (fun u t => va_P (dC, dI) vwCl (ws.set q0 (b, .inr (kc k, pF u))) t.heap ∧ va_K (dC, dI) vwCl tys t ∧ va_D (va_A ws sz) (ws.set q0 (b, .inr (kc k, pF u)))) (va_A ws sz)) 0 0 (va_A ws sz) := by
  refine Met.ofW (cc := cX4_keep) (maxL := 1) (ret := none) (by decide) rfl ?_
  intro p_ e_ s m args below meth c_0 s₁ B hml hv
  obtain ⟨rfl, hsz, hP, hK, hD0⟩ := hv
  have hx := B.exec
  have hb := B.bytes
  have hr := B.returns
  have hts := atoms_spec (ws := wsX4_keep) B.pre
  have hown : s.vm.findClass RX4 = some m.cls := findClass_of_methodNamed B.named
  have hlocks := B.notSynchronized
  subst hsz
  have hD := hD0.self (sz := s.heap.size)
  generalize hAe : va_A (ws) s.heap.size = A at hD ⊢
  have hA : ∀ q : Nat, s.heap.size ≤ q → A q := fun q h => by rw [← hAe]; exact Or.inr h
  obtain ⟨H, hHe⟩ : ∃ H : Heap, H = s.heap := ⟨_, rfl⟩
  have hS : va_S A s.heap H [] := by rw [hHe]; exact va_S.rf
  rw [← hHe] at hP ⊢
  have hP : va_P (dC, dI) vwCl (ws) H := hP
  have hl := lv_entry ([.ref (b)]) (n := 1) (Nat.le_of_ble_eq_true rfl)
  rw [lg_entry_eq]
  generalize (lg_sl ([.ref (b)]) ++ List.replicate (1 - (lg_sl ([.ref (b)])).length) Slot.unset).toArray = ls at hl ⊢
  have hl : lv_has ls 1 [(0, .ref (b))] := hl
  have hin0 : ∀ w ∈ wsX00, w ∈ wsX4_keep := fun _ h => List.mem_cons_of_mem _ (List.mem_append_left _ (List.mem_append_left _ (List.mem_append_left _ (List.mem_append_left _ (List.mem_append_right _ h)))))
  have hin2 : ∀ w ∈ wsX20, w ∈ wsX4_keep := fun _ h => List.mem_cons_of_mem _ (List.mem_append_left _ (List.mem_append_left _ (List.mem_append_left _ (List.mem_append_right _ h))))
  have hin4 : ∀ w ∈ wsX40, w ∈ wsX4_keep := fun _ h => List.mem_cons_of_mem _ (List.mem_append_left _ (List.mem_append_left _ (List.mem_append_right _ h)))
  have hin5 : ∀ w ∈ wsX50, w ∈ wsX4_keep := fun _ h => List.mem_cons_of_mem _ (List.mem_append_left _ (List.mem_append_right _ h))
  have hin6 : ∀ w ∈ wsX60, w ∈ wsX4_keep := fun _ h => List.mem_cons_of_mem _ (List.mem_append_right _ h)
  have hW0 := hts (.fieldLink RX4 18 "EachEye$Person" "left" "I") (by decide +kernel)
  have hW1 := hts (.fieldLink RX4 36 "EachEye$Person" "keptLeft" "I") (by decide +kernel)
  have hW2 := hts (.fieldLink RX4 21 "EachEye$Person" "right" "I") (by decide +kernel)
  have hW3 := hts (.fieldLink RX4 39 "EachEye$Person" "keptRight" "I") (by decide +kernel)
  have hW4 := hts (.fieldLink RX4 9 "EachEye$Person" "told" "I") (by decide +kernel)
  have hW5 := hts (.fieldLink RX4 15 "EachEye$Person" "keptTold" "I") (by decide +kernel)
  refine lv_aload_n hx hb dX4_keep_0 rfl (lv_at hl 0 rfl) ?_
  refine lv_aload_n hx hb dX4_keep_1 rfl (lv_at hl 0 rfl) ?_
  refine pe_get hx hb hts hin0 hin2 hin4 hin5 hin6 hown hK hP q0 hk he 0 (by decide) hW0 dX4_keep_2 ?_
  refine pe_put hx hb hts hin0 hin2 hin4 hin5 hin6 hown hK hP hD hS q0 hk he 3 (by decide) hW1 dX4_keep_5 (fun H locs hP hD hS => ?_)
  refine lv_aload_n hx hb dX4_keep_8 rfl (lv_at hl 0 rfl) ?_
  refine lv_aload_n hx hb dX4_keep_9 rfl (lv_at hl 0 rfl) ?_
  refine pe_get hx hb hts hin0 hin2 hin4 hin5 hin6 hown hK hP q0 hk (set_at he) 1 (by decide) hW2 dX4_keep_10 ?_
  refine tv (y := v 1) rfl ?_
  refine pe_put hx hb hts hin0 hin2 hin4 hin5 hin6 hown hK hP hD hS q0 hk (set_at he) 4 (by decide) hW3 dX4_keep_13 (fun H locs hP hD hS => ?_)
  rw [List.set_set] at hP hD
  refine lv_aload_n hx hb dX4_keep_16 rfl (lv_at hl 0 rfl) ?_
  refine lv_aload_n hx hb dX4_keep_17 rfl (lv_at hl 0 rfl) ?_
  refine pe_get hx hb hts hin0 hin2 hin4 hin5 hin6 hown hK hP q0 hk (set_at he) 2 (by decide) hW4 dX4_keep_18 ?_
  refine tv (y := v 2) rfl ?_
  refine pe_put hx hb hts hin0 hin2 hin4 hin5 hin6 hown hK hP hD hS q0 hk (set_at he) 5 (by decide) hW5 dX4_keep_21 (fun H locs hP hD hS => ?_)
  rw [List.set_set] at hP hD
  exact W.vret hx hb hr (fun t ht hW => ⟨⟨su (su (su v 3 (v 0)) 4 (v 1)) 5 (v 2), rfl, (by show (su (su (su v 3 (v 0)) 4 (v 1)) 5 (v 2)) = xKeep v; first | rfl | (simp only []; done)), by rw [ht]; exact hP, va_K.moved hW.alike hK, hD⟩, hS.F ht⟩) hS.2.2 dX4_keep_24

set_option maxHeartbeats 1200000 in
set_option maxRecDepth 100000 in
theorem c4_goBack (l : Launch) (dC : Nat → ClassId) (dI : Nat → Nat → Nat) (tys : List (ClassId × FieldType)) (ws : va_W) (q0 b : Nat) {k : Nat} (hk : k < 5) (v : Nat → Int32) (he : ws[q0]? = some (b, .inr (kc k, pF v))) (sz : Nat) : Met l yX4_goBack wsX4_goBack ({ frames := 0, cells := 0, slots := 0, locals := 0 } : Room) (va_Pc [.ref (b)] (fun U => U.heap.size = sz ∧ va_P (dC, dI) vwCl ws U.heap ∧ va_K (dC, dI) vwCl tys U ∧ va_D (fun _ => True) (ws))) (va_Qv (fun (u : Nat → Int32) => u = xBack v) (fun u t => va_P (dC, dI) vwCl (ws.set q0 (b, .inr (kc k, pF u))) t.heap ∧ va_K (dC, dI) vwCl tys t ∧ va_D (va_A ws sz) (ws.set q0 (b, .inr (kc k, pF u)))) (va_A ws sz)) 0 0 (va_A ws sz) := by
  refine Met.ofW (cc := cX4_goBack) (maxL := 1) (ret := none) (by decide) rfl ?_
  intro p_ e_ s m args below meth c_0 s₁ B hml hv
  obtain ⟨rfl, hsz, hP, hK, hD0⟩ := hv
  have hx := B.exec
  have hb := B.bytes
  have hr := B.returns
  have hts := atoms_spec (ws := wsX4_goBack) B.pre
  have hown : s.vm.findClass RX4 = some m.cls := findClass_of_methodNamed B.named
  have hlocks := B.notSynchronized
  subst hsz
  have hD := hD0.self (sz := s.heap.size)
  generalize hAe : va_A (ws) s.heap.size = A at hD ⊢
  have hA : ∀ q : Nat, s.heap.size ≤ q → A q := fun q h => by rw [← hAe]; exact Or.inr h
  obtain ⟨H, hHe⟩ : ∃ H : Heap, H = s.heap := ⟨_, rfl⟩
  have hS : va_S A s.heap H [] := by rw [hHe]; exact va_S.rf
  rw [← hHe] at hP ⊢
  have hP : va_P (dC, dI) vwCl (ws) H := hP
  have hl := lv_entry ([.ref (b)]) (n := 1) (Nat.le_of_ble_eq_true rfl)
  rw [lg_entry_eq]
  generalize (lg_sl ([.ref (b)]) ++ List.replicate (1 - (lg_sl ([.ref (b)])).length) Slot.unset).toArray = ls at hl ⊢
  have hl : lv_has ls 1 [(0, .ref (b))] := hl
  have hin0 : ∀ w ∈ wsX00, w ∈ wsX4_goBack := fun _ h => List.mem_cons_of_mem _ (List.mem_append_left _ (List.mem_append_left _ (List.mem_append_left _ (List.mem_append_left _ (List.mem_append_right _ h)))))
  have hin2 : ∀ w ∈ wsX20, w ∈ wsX4_goBack := fun _ h => List.mem_cons_of_mem _ (List.mem_append_left _ (List.mem_append_left _ (List.mem_append_left _ (List.mem_append_right _ h))))
  have hin4 : ∀ w ∈ wsX40, w ∈ wsX4_goBack := fun _ h => List.mem_cons_of_mem _ (List.mem_append_left _ (List.mem_append_left _ (List.mem_append_right _ h)))
  have hin5 : ∀ w ∈ wsX50, w ∈ wsX4_goBack := fun _ h => List.mem_cons_of_mem _ (List.mem_append_left _ (List.mem_append_right _ h))
  have hin6 : ∀ w ∈ wsX60, w ∈ wsX4_goBack := fun _ h => List.mem_cons_of_mem _ (List.mem_append_right _ h)
  have hW0 := hts (.fieldLink RX4 36 "EachEye$Person" "keptLeft" "I") (by decide +kernel)
  have hW1 := hts (.fieldLink RX4 18 "EachEye$Person" "left" "I") (by decide +kernel)
  have hW2 := hts (.fieldLink RX4 39 "EachEye$Person" "keptRight" "I") (by decide +kernel)
  have hW3 := hts (.fieldLink RX4 21 "EachEye$Person" "right" "I") (by decide +kernel)
  have hW4 := hts (.fieldLink RX4 15 "EachEye$Person" "keptTold" "I") (by decide +kernel)
  have hW5 := hts (.fieldLink RX4 9 "EachEye$Person" "told" "I") (by decide +kernel)
  refine lv_aload_n hx hb dX4_goBack_0 rfl (lv_at hl 0 rfl) ?_
  refine lv_aload_n hx hb dX4_goBack_1 rfl (lv_at hl 0 rfl) ?_
  refine pe_get hx hb hts hin0 hin2 hin4 hin5 hin6 hown hK hP q0 hk he 3 (by decide) hW0 dX4_goBack_2 ?_
  refine pe_put hx hb hts hin0 hin2 hin4 hin5 hin6 hown hK hP hD hS q0 hk he 0 (by decide) hW1 dX4_goBack_5 (fun H locs hP hD hS => ?_)
  refine lv_aload_n hx hb dX4_goBack_8 rfl (lv_at hl 0 rfl) ?_
  refine lv_aload_n hx hb dX4_goBack_9 rfl (lv_at hl 0 rfl) ?_
  refine pe_get hx hb hts hin0 hin2 hin4 hin5 hin6 hown hK hP q0 hk (set_at he) 4 (by decide) hW2 dX4_goBack_10 ?_
  refine tv (y := v 4) rfl ?_
  refine pe_put hx hb hts hin0 hin2 hin4 hin5 hin6 hown hK hP hD hS q0 hk (set_at he) 1 (by decide) hW3 dX4_goBack_13 (fun H locs hP hD hS => ?_)
  rw [List.set_set] at hP hD
  refine lv_aload_n hx hb dX4_goBack_16 rfl (lv_at hl 0 rfl) ?_
  refine lv_aload_n hx hb dX4_goBack_17 rfl (lv_at hl 0 rfl) ?_
  refine pe_get hx hb hts hin0 hin2 hin4 hin5 hin6 hown hK hP q0 hk (set_at he) 5 (by decide) hW4 dX4_goBack_18 ?_
  refine tv (y := v 5) rfl ?_
  refine pe_put hx hb hts hin0 hin2 hin4 hin5 hin6 hown hK hP hD hS q0 hk (set_at he) 2 (by decide) hW5 dX4_goBack_21 (fun H locs hP hD hS => ?_)
  rw [List.set_set] at hP hD
  exact W.vret hx hb hr (fun t ht hW => ⟨⟨su (su (su v 0 (v 3)) 1 (v 4)) 2 (v 5), rfl, (by show (su (su (su v 0 (v 3)) 1 (v 4)) 2 (v 5)) = xBack v; first | rfl | (simp only []; done)), by rw [ht]; exact hP, va_K.moved hW.alike hK, hD⟩, hS.F ht⟩) hS.2.2 dX4_goBack_24

section XCALF
variable {p : Program} {l : Launch} {e : Env} {R : Room} {s : State} {m : MethodId} {args : Array Value} {below : List Frame} {meth : Method} {c : Code} {H : Heap} {locs : List Loc} {cells slots : Nat} {Q : State → Prop}
variable {cc : ByteArray} {pc nL : Nat} {ls : Array Slot} {rest : List Value} {dC : Nat → ClassId} {dI : Nat → Nat → Nat} {A : Nat → Prop} {H0 : Heap} {b : Nat} {tys : List (ClassId × FieldType)} {ws : va_W}

theorem cf_truths {own : String} {index : Nat} {Ts : List Cond} (S : CallFix p m c cc nL s args Ts own) (hts : ∀ w ∈ Ts, w.before args s = true) (g0 : GoodIn Ts (va_wsU own index RX0 "EachEye$Person" ⟨"EachEye$Person", "truths", "()I"⟩ yX4_truths wsX4_truths)) (g2 : GoodIn Ts (va_wsU own index RX2 "EachEye$Person" ⟨"EachEye$Person", "truths", "()I"⟩ yX4_truths wsX4_truths)) (g4 : GoodIn Ts (wsV own index RX4 yX4_truths wsX4_truths)) (g5 : GoodIn Ts (va_wsU own index RX5 "EachEye$Person" ⟨"EachEye$Person", "truths", "()I"⟩ yX4_truths wsX4_truths)) (g6 : GoodIn Ts (va_wsU own index RX6 "EachEye$Person" ⟨"EachEye$Person", "truths", "()I"⟩ yX4_truths wsX4_truths)) (hK : va_K (dC, dI) vwCl tys s) (hP : va_P (dC, dI) vwCl ws H) (q0 : Nat) {k : Nat} (hk : k < 5) {v : Nat → Int32} (he : ws[q0]? = some (b, .inr (kc k, pF v))) (hsize : ls.size = nL) (hrest : (rest.map fun v => v.category).sum ≤ 8) (hR : 2 ≤ R.frames ∧ 44 ≤ R.locals) (hfit : cells ≤ R.cells ∧ slots ≤ R.slots) (hdg : decode cc pc = .ok (.invokevirtual index, 3))
    (kk : W p l e R s m args below meth c H locs cells slots Q (F0 m (pc + 3) ls (.int (xTrue k (v 0) (v 1) 8) :: rest))) : W p l e R s m args below meth c H locs cells slots Q (F0 m pc ls (.ref b :: rest)) := by
  have hFB : FrameBlind (va_Pc [.ref b] (fun U => va_P (dC, dI) vwCl ws U.heap ∧ va_K (dC, dI) vwCl tys U)) := fun a U g mk q => ⟨q.1, q.2.1, va_K.moved (u := U) (U := U.calling g mk a) (Vm.Alike.refl U.vm) q.2.2⟩
  have hpre : ∀ U : State, U.heap = H → s.WarmedH U.vm → va_Pc [.ref b] (fun U => va_P (dC, dI) vwCl ws U.heap ∧ va_K (dC, dI) vwCl tys U) (Value.ref b :: []).toArray U := fun U hU hW => ⟨rfl, by rw [hU]; exact hP, va_K.moved hW.alike hK⟩
  rcases (show k = 0 ∨ k = 1 ∨ k = 2 ∨ k = 3 ∨ k = 4 by omega) with rfl | rfl | rfl | rfl | rfl
  · refine vp_callSi (va_Run.run (va_runV (As := []) (rest := rest) S (c4_truths l dC dI tys ws q0 b hk v he) (cwV 0 hts g4 rfl rfl rfl (by decide +kernel) hR) ⟨hFB, va_recv hK hP (ci := 4) (q0 := q0) rfl he, hpre⟩ rfl rfl hsize rfl (lv_room hrest) hdg hfit)) (fun r hrc => ?_)
    have hrc : r = xTrue 0 (v 0) (v 1) 8 := hrc
    subst hrc; exact kk
  · refine vp_callSi (va_Run.run (va_runU (As := []) (rest := rest) S (c4_truths l dC dI tys ws q0 b hk v he) (va_cwU 0 hts g0 rfl rfl rfl rfl ⟨by decide +kernel, by decide +kernel, by decide +kernel⟩ hR) ⟨hFB, va_recv hK hP (ci := 0) (q0 := q0) rfl he, hpre⟩ rfl rfl hsize rfl (lv_room hrest) hdg hfit)) (fun r hrc => ?_)
    have hrc : r = xTrue 1 (v 0) (v 1) 8 := hrc
    subst hrc; exact kk
  · refine vp_callSi (va_Run.run (va_runU (As := []) (rest := rest) S (c4_truths l dC dI tys ws q0 b hk v he) (va_cwU 0 hts g2 rfl rfl rfl rfl ⟨by decide +kernel, by decide +kernel, by decide +kernel⟩ hR) ⟨hFB, va_recv hK hP (ci := 2) (q0 := q0) rfl he, hpre⟩ rfl rfl hsize rfl (lv_room hrest) hdg hfit)) (fun r hrc => ?_)
    have hrc : r = xTrue 2 (v 0) (v 1) 8 := hrc
    subst hrc; exact kk
  · refine vp_callSi (va_Run.run (va_runU (As := []) (rest := rest) S (c4_truths l dC dI tys ws q0 b hk v he) (va_cwU 0 hts g6 rfl rfl rfl rfl ⟨by decide +kernel, by decide +kernel, by decide +kernel⟩ hR) ⟨hFB, va_recv hK hP (ci := 6) (q0 := q0) rfl he, hpre⟩ rfl rfl hsize rfl (lv_room hrest) hdg hfit)) (fun r hrc => ?_)
    have hrc : r = xTrue 3 (v 0) (v 1) 8 := hrc
    subst hrc; exact kk
  · refine vp_callSi (va_Run.run (va_runU (As := []) (rest := rest) S (c4_truths l dC dI tys ws q0 b hk v he) (va_cwU 0 hts g5 rfl rfl rfl rfl ⟨by decide +kernel, by decide +kernel, by decide +kernel⟩ hR) ⟨hFB, va_recv hK hP (ci := 5) (q0 := q0) rfl he, hpre⟩ rfl rfl hsize rfl (lv_room hrest) hdg hfit)) (fun r hrc => ?_)
    have hrc : r = xTrue 4 (v 0) (v 1) 8 := hrc
    subst hrc; exact kk

theorem cf_reading {own : String} {index : Nat} {Ts : List Cond} (S : CallFix p m c cc nL s args Ts own) (hts : ∀ w ∈ Ts, w.before args s = true) (g0 : GoodIn Ts (va_wsU own index RX0 "EachEye$Person" ⟨"EachEye$Person", "reading", "(I)I"⟩ yX4_reading wsX4_reading)) (g2 : GoodIn Ts (va_wsU own index RX2 "EachEye$Person" ⟨"EachEye$Person", "reading", "(I)I"⟩ yX4_reading wsX4_reading)) (g4 : GoodIn Ts (wsV own index RX4 yX4_reading wsX4_reading)) (g5 : GoodIn Ts (va_wsU own index RX5 "EachEye$Person" ⟨"EachEye$Person", "reading", "(I)I"⟩ yX4_reading wsX4_reading)) (g6 : GoodIn Ts (va_wsU own index RX6 "EachEye$Person" ⟨"EachEye$Person", "reading", "(I)I"⟩ yX4_reading wsX4_reading)) (hN : xN s) (hK : va_K (dC, dI) vwCl tys s) (hP : va_P (dC, dI) vwCl ws H) (q0 : Nat) {k : Nat} (hk : k < 5) {v : Nat → Int32} (he : ws[q0]? = some (b, .inr (kc k, pF v))) {x : Int32} (hsize : ls.size = nL) (hrest : (rest.map fun v => v.category).sum ≤ 8) (hR : 2 ≤ R.frames ∧ 46 ≤ R.locals) (hfit : cells ≤ R.cells ∧ slots ≤ R.slots) (hdg : decode cc pc = .ok (.invokevirtual index, 3))
    (kk : W p l e R s m args below meth c H locs cells slots Q (F0 m (pc + 3) ls (.int (xRead k (v 0) (v 1) x 6) :: rest))) : W p l e R s m args below meth c H locs cells slots Q (F0 m pc ls (.int x :: .ref b :: rest)) := by
  have hFB : FrameBlind (va_Pc [.ref b, .int x] (fun U => va_P (dC, dI) vwCl ws U.heap ∧ va_K (dC, dI) vwCl tys U ∧ xN U)) := fun a U g mk q => ⟨q.1, q.2.1, va_K.moved (u := U) (U := U.calling g mk a) (Vm.Alike.refl U.vm) q.2.2.1, xN.same (u := U) (U := U.calling g mk a) rfl q.2.2.2⟩
  have hpre : ∀ U : State, U.heap = H → s.WarmedH U.vm → va_Pc [.ref b, .int x] (fun U => va_P (dC, dI) vwCl ws U.heap ∧ va_K (dC, dI) vwCl tys U ∧ xN U) (Value.ref b :: [.int x]).toArray U := fun U hU hW => ⟨rfl, by rw [hU]; exact hP, va_K.moved hW.alike hK, xN.warm hW hN⟩
  rcases (show k = 0 ∨ k = 1 ∨ k = 2 ∨ k = 3 ∨ k = 4 by omega) with rfl | rfl | rfl | rfl | rfl
  · refine vp_callSi (va_Run.run (va_runV (As := [.int x]) (rest := rest) S (c4_reading l dC dI tys ws q0 b hk v he x) (cwV 1 hts g4 rfl rfl rfl (by decide +kernel) hR) ⟨hFB, va_recv hK hP (ci := 4) (q0 := q0) rfl he, hpre⟩ rfl rfl hsize rfl (lv_room hrest) hdg hfit)) (fun r hrc => ?_)
    have hrc : r = xRead 0 (v 0) (v 1) x 6 := hrc
    subst hrc; exact kk
  · refine vp_callSi (va_Run.run (va_runU (As := [.int x]) (rest := rest) S (c4_reading l dC dI tys ws q0 b hk v he x) (va_cwU 1 hts g0 rfl rfl rfl rfl ⟨by decide +kernel, by decide +kernel, by decide +kernel⟩ hR) ⟨hFB, va_recv hK hP (ci := 0) (q0 := q0) rfl he, hpre⟩ rfl rfl hsize rfl (lv_room hrest) hdg hfit)) (fun r hrc => ?_)
    have hrc : r = xRead 1 (v 0) (v 1) x 6 := hrc
    subst hrc; exact kk
  · refine vp_callSi (va_Run.run (va_runU (As := [.int x]) (rest := rest) S (c4_reading l dC dI tys ws q0 b hk v he x) (va_cwU 1 hts g2 rfl rfl rfl rfl ⟨by decide +kernel, by decide +kernel, by decide +kernel⟩ hR) ⟨hFB, va_recv hK hP (ci := 2) (q0 := q0) rfl he, hpre⟩ rfl rfl hsize rfl (lv_room hrest) hdg hfit)) (fun r hrc => ?_)
    have hrc : r = xRead 2 (v 0) (v 1) x 6 := hrc
    subst hrc; exact kk
  · refine vp_callSi (va_Run.run (va_runU (As := [.int x]) (rest := rest) S (c4_reading l dC dI tys ws q0 b hk v he x) (va_cwU 1 hts g6 rfl rfl rfl rfl ⟨by decide +kernel, by decide +kernel, by decide +kernel⟩ hR) ⟨hFB, va_recv hK hP (ci := 6) (q0 := q0) rfl he, hpre⟩ rfl rfl hsize rfl (lv_room hrest) hdg hfit)) (fun r hrc => ?_)
    have hrc : r = xRead 3 (v 0) (v 1) x 6 := hrc
    subst hrc; exact kk
  · refine vp_callSi (va_Run.run (va_runU (As := [.int x]) (rest := rest) S (c4_reading l dC dI tys ws q0 b hk v he x) (va_cwU 1 hts g5 rfl rfl rfl rfl ⟨by decide +kernel, by decide +kernel, by decide +kernel⟩ hR) ⟨hFB, va_recv hK hP (ci := 5) (q0 := q0) rfl he, hpre⟩ rfl rfl hsize rfl (lv_room hrest) hdg hfit)) (fun r hrc => ?_)
    have hrc : r = xRead 4 (v 0) (v 1) x 6 := hrc
    subst hrc; exact kk

theorem cf_lose {own : String} {index : Nat} {Ts : List Cond} (S : CallFix p m c cc nL s args Ts own) (hts : ∀ w ∈ Ts, w.before args s = true) (g0 : GoodIn Ts (va_wsU own index RX0 "EachEye$Person" ⟨"EachEye$Person", "lose", "(II)V"⟩ yX4_lose wsX4_lose)) (g2 : GoodIn Ts (va_wsU own index RX2 "EachEye$Person" ⟨"EachEye$Person", "lose", "(II)V"⟩ yX4_lose wsX4_lose)) (g4 : GoodIn Ts (wsV own index RX4 yX4_lose wsX4_lose)) (g5 : GoodIn Ts (va_wsU own index RX5 "EachEye$Person" ⟨"EachEye$Person", "lose", "(II)V"⟩ yX4_lose wsX4_lose)) (g6 : GoodIn Ts (va_wsU own index RX6 "EachEye$Person" ⟨"EachEye$Person", "lose", "(II)V"⟩ yX4_lose wsX4_lose)) (hK : va_K (dC, dI) vwCl tys s) (hP : va_P (dC, dI) vwCl ws H) (hD : va_D A ws) (hS : va_S A H0 H locs) (hA : ∀ q, H0.size ≤ q → A q) (q0 : Nat) {k : Nat} (hk : k < 5) {v : Nat → Int32} (he : ws[q0]? = some (b, .inr (kc k, pF v))) {x y : Int32} (hsize : ls.size = nL) (hrest : (rest.map fun v => v.category).sum ≤ 8) (hR : 1 ≤ R.frames ∧ 22 ≤ R.locals) (hfit : cells ≤ R.cells ∧ slots ≤ R.slots) (hdg : decode cc pc = .ok (.invokevirtual index, 3))
    (kk : ∀ (H1 : Heap) (locs1 : List Loc), va_P (dC, dI) vwCl (ws.set q0 (b, .inr (kc k, pF (xLose v x y)))) H1 → va_D A (ws.set q0 (b, .inr (kc k, pF (xLose v x y)))) → va_S A H0 H1 locs1 → W p l e R s m args below meth c H1 locs1 cells slots Q (F0 m (pc + 3) ls rest)) : W p l e R s m args below meth c H locs cells slots Q (F0 m pc ls (.int y :: .int x :: .ref b :: rest)) := by
  have hFB : FrameBlind (va_Pc [.ref b, .int x, .int y] (fun U => U.heap.size = H.size ∧ va_P (dC, dI) vwCl ws U.heap ∧ va_K (dC, dI) vwCl tys U ∧ va_D (fun _ => True) ws)) := fun a U g mk q => by obtain ⟨q0, q1, qP, qK, qD⟩ := q; exact ⟨q0, q1, qP, va_K.moved (u := U) (U := U.calling g mk a) (Vm.Alike.refl U.vm) qK, qD⟩
  have hpre : ∀ U : State, U.heap = H → s.WarmedH U.vm → va_Pc [.ref b, .int x, .int y] (fun U => U.heap.size = H.size ∧ va_P (dC, dI) vwCl ws U.heap ∧ va_K (dC, dI) vwCl tys U ∧ va_D (fun _ => True) ws) (Value.ref b :: [.int x, .int y]).toArray U := fun U hU hW => ⟨rfl, by rw [hU], by rw [hU]; exact hP, va_K.moved hW.alike hK, hD.weaken (fun _ _ _ _ => trivial)⟩
  have hFc : ∀ q, va_A ws H.size q → A q := fun q h => h.elim (fun ⟨j, e, hj⟩ => hD.2 j (q, e) hj) (fun h => hA q (Nat.le_trans hS.1 h))
  rcases (show k = 0 ∨ k = 1 ∨ k = 2 ∨ k = 3 ∨ k = 4 by omega) with rfl | rfl | rfl | rfl | rfl
  · refine va_callv (va_runV (As := [.int x, .int y]) (rest := rest) S (c4_lose l dC dI tys ws q0 b hk v he x y H.size) (cwV 2 hts g4 rfl rfl rfl (by decide +kernel) hR) ⟨hFB, va_recv hK hP (ci := 4) (q0 := q0) rfl he, hpre⟩ rfl rfl hsize rfl (lv_room hrest) hdg hfit) hS (fun q _ h => hFc q h) hFc (fun u t H1 locs1 ht hvm hw hB hz1 hk1 hS1 => ?_)
    have hw : u = xLose v x y := hw
    subst hw
    obtain ⟨hP1, hK1, hD1⟩ := hB
    rw [ht] at hP1
    exact kk H1 locs1 hP1 (hD1.weaken (fun _ _ _ h => hFc _ h)) hS1
  · refine va_callv (va_runU (As := [.int x, .int y]) (rest := rest) S (c4_lose l dC dI tys ws q0 b hk v he x y H.size) (va_cwU 2 hts g0 rfl rfl rfl rfl ⟨by decide +kernel, by decide +kernel, by decide +kernel⟩ hR) ⟨hFB, va_recv hK hP (ci := 0) (q0 := q0) rfl he, hpre⟩ rfl rfl hsize rfl (lv_room hrest) hdg hfit) hS (fun q _ h => hFc q h) hFc (fun u t H1 locs1 ht hvm hw hB hz1 hk1 hS1 => ?_)
    have hw : u = xLose v x y := hw
    subst hw
    obtain ⟨hP1, hK1, hD1⟩ := hB
    rw [ht] at hP1
    exact kk H1 locs1 hP1 (hD1.weaken (fun _ _ _ h => hFc _ h)) hS1
  · refine va_callv (va_runU (As := [.int x, .int y]) (rest := rest) S (c4_lose l dC dI tys ws q0 b hk v he x y H.size) (va_cwU 2 hts g2 rfl rfl rfl rfl ⟨by decide +kernel, by decide +kernel, by decide +kernel⟩ hR) ⟨hFB, va_recv hK hP (ci := 2) (q0 := q0) rfl he, hpre⟩ rfl rfl hsize rfl (lv_room hrest) hdg hfit) hS (fun q _ h => hFc q h) hFc (fun u t H1 locs1 ht hvm hw hB hz1 hk1 hS1 => ?_)
    have hw : u = xLose v x y := hw
    subst hw
    obtain ⟨hP1, hK1, hD1⟩ := hB
    rw [ht] at hP1
    exact kk H1 locs1 hP1 (hD1.weaken (fun _ _ _ h => hFc _ h)) hS1
  · refine va_callv (va_runU (As := [.int x, .int y]) (rest := rest) S (c4_lose l dC dI tys ws q0 b hk v he x y H.size) (va_cwU 2 hts g6 rfl rfl rfl rfl ⟨by decide +kernel, by decide +kernel, by decide +kernel⟩ hR) ⟨hFB, va_recv hK hP (ci := 6) (q0 := q0) rfl he, hpre⟩ rfl rfl hsize rfl (lv_room hrest) hdg hfit) hS (fun q _ h => hFc q h) hFc (fun u t H1 locs1 ht hvm hw hB hz1 hk1 hS1 => ?_)
    have hw : u = xLose v x y := hw
    subst hw
    obtain ⟨hP1, hK1, hD1⟩ := hB
    rw [ht] at hP1
    exact kk H1 locs1 hP1 (hD1.weaken (fun _ _ _ h => hFc _ h)) hS1
  · refine va_callv (va_runU (As := [.int x, .int y]) (rest := rest) S (c4_lose l dC dI tys ws q0 b hk v he x y H.size) (va_cwU 2 hts g5 rfl rfl rfl rfl ⟨by decide +kernel, by decide +kernel, by decide +kernel⟩ hR) ⟨hFB, va_recv hK hP (ci := 5) (q0 := q0) rfl he, hpre⟩ rfl rfl hsize rfl (lv_room hrest) hdg hfit) hS (fun q _ h => hFc q h) hFc (fun u t H1 locs1 ht hvm hw hB hz1 hk1 hS1 => ?_)
    have hw : u = xLose v x y := hw
    subst hw
    obtain ⟨hP1, hK1, hD1⟩ := hB
    rw [ht] at hP1
    exact kk H1 locs1 hP1 (hD1.weaken (fun _ _ _ h => hFc _ h)) hS1

theorem cf_keep {own : String} {index : Nat} {Ts : List Cond} (S : CallFix p m c cc nL s args Ts own) (hts : ∀ w ∈ Ts, w.before args s = true) (g0 : GoodIn Ts (va_wsU own index RX0 "EachEye$Person" ⟨"EachEye$Person", "keep", "()V"⟩ yX4_keep wsX4_keep)) (g2 : GoodIn Ts (va_wsU own index RX2 "EachEye$Person" ⟨"EachEye$Person", "keep", "()V"⟩ yX4_keep wsX4_keep)) (g4 : GoodIn Ts (wsV own index RX4 yX4_keep wsX4_keep)) (g5 : GoodIn Ts (va_wsU own index RX5 "EachEye$Person" ⟨"EachEye$Person", "keep", "()V"⟩ yX4_keep wsX4_keep)) (g6 : GoodIn Ts (va_wsU own index RX6 "EachEye$Person" ⟨"EachEye$Person", "keep", "()V"⟩ yX4_keep wsX4_keep)) (hK : va_K (dC, dI) vwCl tys s) (hP : va_P (dC, dI) vwCl ws H) (hD : va_D A ws) (hS : va_S A H0 H locs) (hA : ∀ q, H0.size ≤ q → A q) (q0 : Nat) {k : Nat} (hk : k < 5) {v : Nat → Int32} (he : ws[q0]? = some (b, .inr (kc k, pF v))) (hsize : ls.size = nL) (hrest : (rest.map fun v => v.category).sum ≤ 8) (hR : 1 ≤ R.frames ∧ 20 ≤ R.locals) (hfit : cells ≤ R.cells ∧ slots ≤ R.slots) (hdg : decode cc pc = .ok (.invokevirtual index, 3))
    (kk : ∀ (H1 : Heap) (locs1 : List Loc), va_P (dC, dI) vwCl (ws.set q0 (b, .inr (kc k, pF (xKeep v)))) H1 → va_D A (ws.set q0 (b, .inr (kc k, pF (xKeep v)))) → va_S A H0 H1 locs1 → W p l e R s m args below meth c H1 locs1 cells slots Q (F0 m (pc + 3) ls rest)) : W p l e R s m args below meth c H locs cells slots Q (F0 m pc ls (.ref b :: rest)) := by
  have hFB : FrameBlind (va_Pc [.ref b] (fun U => U.heap.size = H.size ∧ va_P (dC, dI) vwCl ws U.heap ∧ va_K (dC, dI) vwCl tys U ∧ va_D (fun _ => True) ws)) := fun a U g mk q => by obtain ⟨q0, q1, qP, qK, qD⟩ := q; exact ⟨q0, q1, qP, va_K.moved (u := U) (U := U.calling g mk a) (Vm.Alike.refl U.vm) qK, qD⟩
  have hpre : ∀ U : State, U.heap = H → s.WarmedH U.vm → va_Pc [.ref b] (fun U => U.heap.size = H.size ∧ va_P (dC, dI) vwCl ws U.heap ∧ va_K (dC, dI) vwCl tys U ∧ va_D (fun _ => True) ws) (Value.ref b :: []).toArray U := fun U hU hW => ⟨rfl, by rw [hU], by rw [hU]; exact hP, va_K.moved hW.alike hK, hD.weaken (fun _ _ _ _ => trivial)⟩
  have hFc : ∀ q, va_A ws H.size q → A q := fun q h => h.elim (fun ⟨j, e, hj⟩ => hD.2 j (q, e) hj) (fun h => hA q (Nat.le_trans hS.1 h))
  rcases (show k = 0 ∨ k = 1 ∨ k = 2 ∨ k = 3 ∨ k = 4 by omega) with rfl | rfl | rfl | rfl | rfl
  · refine va_callv (va_runV (As := []) (rest := rest) S (c4_keep l dC dI tys ws q0 b hk v he H.size) (cwV 0 hts g4 rfl rfl rfl (by decide +kernel) hR) ⟨hFB, va_recv hK hP (ci := 4) (q0 := q0) rfl he, hpre⟩ rfl rfl hsize rfl (lv_room hrest) hdg hfit) hS (fun q _ h => hFc q h) hFc (fun u t H1 locs1 ht hvm hw hB hz1 hk1 hS1 => ?_)
    have hw : u = xKeep v := hw
    subst hw
    obtain ⟨hP1, hK1, hD1⟩ := hB
    rw [ht] at hP1
    exact kk H1 locs1 hP1 (hD1.weaken (fun _ _ _ h => hFc _ h)) hS1
  · refine va_callv (va_runU (As := []) (rest := rest) S (c4_keep l dC dI tys ws q0 b hk v he H.size) (va_cwU 0 hts g0 rfl rfl rfl rfl ⟨by decide +kernel, by decide +kernel, by decide +kernel⟩ hR) ⟨hFB, va_recv hK hP (ci := 0) (q0 := q0) rfl he, hpre⟩ rfl rfl hsize rfl (lv_room hrest) hdg hfit) hS (fun q _ h => hFc q h) hFc (fun u t H1 locs1 ht hvm hw hB hz1 hk1 hS1 => ?_)
    have hw : u = xKeep v := hw
    subst hw
    obtain ⟨hP1, hK1, hD1⟩ := hB
    rw [ht] at hP1
    exact kk H1 locs1 hP1 (hD1.weaken (fun _ _ _ h => hFc _ h)) hS1
  · refine va_callv (va_runU (As := []) (rest := rest) S (c4_keep l dC dI tys ws q0 b hk v he H.size) (va_cwU 0 hts g2 rfl rfl rfl rfl ⟨by decide +kernel, by decide +kernel, by decide +kernel⟩ hR) ⟨hFB, va_recv hK hP (ci := 2) (q0 := q0) rfl he, hpre⟩ rfl rfl hsize rfl (lv_room hrest) hdg hfit) hS (fun q _ h => hFc q h) hFc (fun u t H1 locs1 ht hvm hw hB hz1 hk1 hS1 => ?_)
    have hw : u = xKeep v := hw
    subst hw
    obtain ⟨hP1, hK1, hD1⟩ := hB
    rw [ht] at hP1
    exact kk H1 locs1 hP1 (hD1.weaken (fun _ _ _ h => hFc _ h)) hS1
  · refine va_callv (va_runU (As := []) (rest := rest) S (c4_keep l dC dI tys ws q0 b hk v he H.size) (va_cwU 0 hts g6 rfl rfl rfl rfl ⟨by decide +kernel, by decide +kernel, by decide +kernel⟩ hR) ⟨hFB, va_recv hK hP (ci := 6) (q0 := q0) rfl he, hpre⟩ rfl rfl hsize rfl (lv_room hrest) hdg hfit) hS (fun q _ h => hFc q h) hFc (fun u t H1 locs1 ht hvm hw hB hz1 hk1 hS1 => ?_)
    have hw : u = xKeep v := hw
    subst hw
    obtain ⟨hP1, hK1, hD1⟩ := hB
    rw [ht] at hP1
    exact kk H1 locs1 hP1 (hD1.weaken (fun _ _ _ h => hFc _ h)) hS1
  · refine va_callv (va_runU (As := []) (rest := rest) S (c4_keep l dC dI tys ws q0 b hk v he H.size) (va_cwU 0 hts g5 rfl rfl rfl rfl ⟨by decide +kernel, by decide +kernel, by decide +kernel⟩ hR) ⟨hFB, va_recv hK hP (ci := 5) (q0 := q0) rfl he, hpre⟩ rfl rfl hsize rfl (lv_room hrest) hdg hfit) hS (fun q _ h => hFc q h) hFc (fun u t H1 locs1 ht hvm hw hB hz1 hk1 hS1 => ?_)
    have hw : u = xKeep v := hw
    subst hw
    obtain ⟨hP1, hK1, hD1⟩ := hB
    rw [ht] at hP1
    exact kk H1 locs1 hP1 (hD1.weaken (fun _ _ _ h => hFc _ h)) hS1

theorem cf_goBack {own : String} {index : Nat} {Ts : List Cond} (S : CallFix p m c cc nL s args Ts own) (hts : ∀ w ∈ Ts, w.before args s = true) (g0 : GoodIn Ts (va_wsU own index RX0 "EachEye$Person" ⟨"EachEye$Person", "goBack", "()V"⟩ yX4_goBack wsX4_goBack)) (g2 : GoodIn Ts (va_wsU own index RX2 "EachEye$Person" ⟨"EachEye$Person", "goBack", "()V"⟩ yX4_goBack wsX4_goBack)) (g4 : GoodIn Ts (wsV own index RX4 yX4_goBack wsX4_goBack)) (g5 : GoodIn Ts (va_wsU own index RX5 "EachEye$Person" ⟨"EachEye$Person", "goBack", "()V"⟩ yX4_goBack wsX4_goBack)) (g6 : GoodIn Ts (va_wsU own index RX6 "EachEye$Person" ⟨"EachEye$Person", "goBack", "()V"⟩ yX4_goBack wsX4_goBack)) (hK : va_K (dC, dI) vwCl tys s) (hP : va_P (dC, dI) vwCl ws H) (hD : va_D A ws) (hS : va_S A H0 H locs) (hA : ∀ q, H0.size ≤ q → A q) (q0 : Nat) {k : Nat} (hk : k < 5) {v : Nat → Int32} (he : ws[q0]? = some (b, .inr (kc k, pF v))) (hsize : ls.size = nL) (hrest : (rest.map fun v => v.category).sum ≤ 8) (hR : 1 ≤ R.frames ∧ 20 ≤ R.locals) (hfit : cells ≤ R.cells ∧ slots ≤ R.slots) (hdg : decode cc pc = .ok (.invokevirtual index, 3))
    (kk : ∀ (H1 : Heap) (locs1 : List Loc), va_P (dC, dI) vwCl (ws.set q0 (b, .inr (kc k, pF (xBack v)))) H1 → va_D A (ws.set q0 (b, .inr (kc k, pF (xBack v)))) → va_S A H0 H1 locs1 → W p l e R s m args below meth c H1 locs1 cells slots Q (F0 m (pc + 3) ls rest)) : W p l e R s m args below meth c H locs cells slots Q (F0 m pc ls (.ref b :: rest)) := by
  have hFB : FrameBlind (va_Pc [.ref b] (fun U => U.heap.size = H.size ∧ va_P (dC, dI) vwCl ws U.heap ∧ va_K (dC, dI) vwCl tys U ∧ va_D (fun _ => True) ws)) := fun a U g mk q => by obtain ⟨q0, q1, qP, qK, qD⟩ := q; exact ⟨q0, q1, qP, va_K.moved (u := U) (U := U.calling g mk a) (Vm.Alike.refl U.vm) qK, qD⟩
  have hpre : ∀ U : State, U.heap = H → s.WarmedH U.vm → va_Pc [.ref b] (fun U => U.heap.size = H.size ∧ va_P (dC, dI) vwCl ws U.heap ∧ va_K (dC, dI) vwCl tys U ∧ va_D (fun _ => True) ws) (Value.ref b :: []).toArray U := fun U hU hW => ⟨rfl, by rw [hU], by rw [hU]; exact hP, va_K.moved hW.alike hK, hD.weaken (fun _ _ _ _ => trivial)⟩
  have hFc : ∀ q, va_A ws H.size q → A q := fun q h => h.elim (fun ⟨j, e, hj⟩ => hD.2 j (q, e) hj) (fun h => hA q (Nat.le_trans hS.1 h))
  rcases (show k = 0 ∨ k = 1 ∨ k = 2 ∨ k = 3 ∨ k = 4 by omega) with rfl | rfl | rfl | rfl | rfl
  · refine va_callv (va_runV (As := []) (rest := rest) S (c4_goBack l dC dI tys ws q0 b hk v he H.size) (cwV 0 hts g4 rfl rfl rfl (by decide +kernel) hR) ⟨hFB, va_recv hK hP (ci := 4) (q0 := q0) rfl he, hpre⟩ rfl rfl hsize rfl (lv_room hrest) hdg hfit) hS (fun q _ h => hFc q h) hFc (fun u t H1 locs1 ht hvm hw hB hz1 hk1 hS1 => ?_)
    have hw : u = xBack v := hw
    subst hw
    obtain ⟨hP1, hK1, hD1⟩ := hB
    rw [ht] at hP1
    exact kk H1 locs1 hP1 (hD1.weaken (fun _ _ _ h => hFc _ h)) hS1
  · refine va_callv (va_runU (As := []) (rest := rest) S (c4_goBack l dC dI tys ws q0 b hk v he H.size) (va_cwU 0 hts g0 rfl rfl rfl rfl ⟨by decide +kernel, by decide +kernel, by decide +kernel⟩ hR) ⟨hFB, va_recv hK hP (ci := 0) (q0 := q0) rfl he, hpre⟩ rfl rfl hsize rfl (lv_room hrest) hdg hfit) hS (fun q _ h => hFc q h) hFc (fun u t H1 locs1 ht hvm hw hB hz1 hk1 hS1 => ?_)
    have hw : u = xBack v := hw
    subst hw
    obtain ⟨hP1, hK1, hD1⟩ := hB
    rw [ht] at hP1
    exact kk H1 locs1 hP1 (hD1.weaken (fun _ _ _ h => hFc _ h)) hS1
  · refine va_callv (va_runU (As := []) (rest := rest) S (c4_goBack l dC dI tys ws q0 b hk v he H.size) (va_cwU 0 hts g2 rfl rfl rfl rfl ⟨by decide +kernel, by decide +kernel, by decide +kernel⟩ hR) ⟨hFB, va_recv hK hP (ci := 2) (q0 := q0) rfl he, hpre⟩ rfl rfl hsize rfl (lv_room hrest) hdg hfit) hS (fun q _ h => hFc q h) hFc (fun u t H1 locs1 ht hvm hw hB hz1 hk1 hS1 => ?_)
    have hw : u = xBack v := hw
    subst hw
    obtain ⟨hP1, hK1, hD1⟩ := hB
    rw [ht] at hP1
    exact kk H1 locs1 hP1 (hD1.weaken (fun _ _ _ h => hFc _ h)) hS1
  · refine va_callv (va_runU (As := []) (rest := rest) S (c4_goBack l dC dI tys ws q0 b hk v he H.size) (va_cwU 0 hts g6 rfl rfl rfl rfl ⟨by decide +kernel, by decide +kernel, by decide +kernel⟩ hR) ⟨hFB, va_recv hK hP (ci := 6) (q0 := q0) rfl he, hpre⟩ rfl rfl hsize rfl (lv_room hrest) hdg hfit) hS (fun q _ h => hFc q h) hFc (fun u t H1 locs1 ht hvm hw hB hz1 hk1 hS1 => ?_)
    have hw : u = xBack v := hw
    subst hw
    obtain ⟨hP1, hK1, hD1⟩ := hB
    rw [ht] at hP1
    exact kk H1 locs1 hP1 (hD1.weaken (fun _ _ _ h => hFc _ h)) hS1
  · refine va_callv (va_runU (As := []) (rest := rest) S (c4_goBack l dC dI tys ws q0 b hk v he H.size) (va_cwU 0 hts g5 rfl rfl rfl rfl ⟨by decide +kernel, by decide +kernel, by decide +kernel⟩ hR) ⟨hFB, va_recv hK hP (ci := 5) (q0 := q0) rfl he, hpre⟩ rfl rfl hsize rfl (lv_room hrest) hdg hfit) hS (fun q _ h => hFc q h) hFc (fun u t H1 locs1 ht hvm hw hB hz1 hk1 hS1 => ?_)
    have hw : u = xBack v := hw
    subst hw
    obtain ⟨hP1, hK1, hD1⟩ := hB
    rw [ht] at hP1
    exact kk H1 locs1 hP1 (hD1.weaken (fun _ _ _ h => hFc _ h)) hS1

end XCALF