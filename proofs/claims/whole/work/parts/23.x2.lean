set_option maxHeartbeats 1200000 in
set_option maxRecDepth 100000 in
theorem c4_truths (l : Launch) (dC : Nat → ClassId) (dI : Nat → Nat → Nat) (tys : List (ClassId × FieldType)) (ws : va_W) (q0 b : Nat) {k : Nat} (hk : k < 5) (v : Nat → Int32) (he : ws[q0]? = some (b, .inr (kc k, pF v))) : Met l yX4_truths wsX4_truths ({ frames := 1, cells := 0, slots := 0, locals := 22 } : Room) (va_Pc [.ref (b)] (fun U => va_P (dC, dI) vwCl ws U.heap ∧ va_K (dC, dI) vwCl tys U)) (vp_Si (fun r => r = xTrue k (v 0) (v 1) 8)) 0 0 (fun _ => False) := by
  refine Met.ofW (cc := cX4_truths) (maxL := 3) (ret := (some .int)) (by decide) rfl ?_
  intro p_ e_ s m args below meth c_0 s₁ B hml hv
  obtain ⟨rfl, hP, hK⟩ := hv
  have hx := B.exec
  have hb := B.bytes
  have hr := B.returns
  have hts := atoms_spec (ws := wsX4_truths) B.pre
  have hown : s.vm.findClass RX4 = some m.cls := findClass_of_methodNamed B.named
  have hlocks := B.notSynchronized
  have hP : va_P (dC, dI) vwCl (ws) s.heap := hP
  have hl := lv_entry ([.ref (b)]) (n := 3) (Nat.le_of_ble_eq_true rfl)
  rw [lg_entry_eq]
  generalize (lg_sl ([.ref (b)]) ++ List.replicate (3 - (lg_sl ([.ref (b)])).length) Slot.unset).toArray = ls at hl ⊢
  have hl : lv_has ls 3 [(0, .ref (b))] := hl
  refine lv_iconst (v := nI (0)) hx hb dX4_truths_0 (by decide +kernel) ?_
  refine lv_istore_n (lv' := [(1, .int (nI (0))), (0, .ref (b))]) hx hb dX4_truths_1 rfl hl (by decide) rfl (fun ls hl => ?_)
  refine lv_iconst (v := nI (0)) hx hb dX4_truths_2 (by decide +kernel) ?_
  refine lv_istore_n (lv' := [(2, .int (nI (0))), (1, .int (nI (0))), (0, .ref (b))]) hx hb dX4_truths_3 rfl hl (by decide) rfl (fun ls hl => ?_)
  have e0_1 : (nI (0)) = xTrue k (v 0) (v 1) 0 := rfl
  refine lp_ro (fun j : Nat => 8 - j) (fun j : Nat => j ≤ 8) (fun j : Nat => [(0, .ref (b)), (1, .int (xTrue k (v 0) (v 1) j)), (2, .int (nI (j)))]) (0) (by omega) (by show lv_has ls 3 [(0, .ref (b)), (1, .int (xTrue k (v 0) (v 1) 0)), (2, .int (nI (0)))]; rw [← e0_1]; exact lv_sub hl [2, 1, 0] rfl) (fun j hI ih_4 ls hl => ?_)
  have hI : j ≤ 8 := hI
  have hl : lv_has ls 3 [(0, .ref (b)), (1, .int (xTrue k (v 0) (v 1) j)), (2, .int (nI (j)))] := hl
  refine lv_iload_n hx hb dX4_truths_4 rfl (lv_at hl 2 rfl) ?_
  refine lv_bipush (v := nI (8)) hx hb dX4_truths_5 (by decide +kernel) ?_
  refine lv_icmp_ge (tgt := 28) hx hb dX4_truths_7 (by decide) (fun c_1 => ?_) (fun c_1 => ?_)
  · skip
    rw [nI_leI (a := 8) (b := j) (by omega) (by omega)] at c_1
    have hE : 8 = j := by omega
    subst hE
    refine lv_iload_n hx hb dX4_truths_28 rfl (lv_at hl 1 rfl) ?_
    exact W.iret (v := xTrue k (v 0) (v 1) 8) hx hb hr (fun t ht hW => ⟨xTrue k (v 0) (v 1) 8, rfl, (by show xTrue k (v 0) (v 1) 8 = xTrue k (v 0) (v 1) 8; rfl), ht⟩) (fun _ h => by cases h) dX4_truths_29
  · skip
    rw [nI_leI (a := 8) (b := j) (by omega) (by omega)] at c_1
    refine lv_aload_n hx hb dX4_truths_10 rfl (lv_at hl 0 rfl) ?_
    refine lv_iload_n hx hb dX4_truths_11 rfl (lv_at hl 2 rfl) ?_
    refine cg_glimpse ⟨hx, hb, hml, hown, hts⟩ hts gX4_truths_X0_glimpse_u28X0 gX4_truths_X2_glimpse_u28X2 gX4_truths_X4_glimpse gX4_truths_X5_glimpse_u28X5 gX4_truths_X6_glimpse_u28X6 hK hP (q0) hk he hl.1 (Nat.le_of_ble_eq_true rfl) ⟨Nat.le_of_ble_eq_true rfl, Nat.le_of_ble_eq_true rfl⟩ ⟨Nat.le_of_ble_eq_true rfl, Nat.le_of_ble_eq_true rfl⟩ dX4_truths_12 ?_
    refine lv_iload_n hx hb dX4_truths_15 rfl (lv_at hl 2 rfl) ?_
    refine lv_icmp_ne (tgt := 22) hx hb dX4_truths_16 (by decide) (fun c_2 => ?_) (fun c_2 => ?_)
    · skip
      refine lv_iinc (v := nI (j + 1)) (lv' := [(2, .int (nI (j + 1))), (0, .ref (b)), (1, .int (xTrue k (v 0) (v 1) j))]) hx hb dX4_truths_22 hl (k := 2) rfl (nI_1 _) (by decide) rfl (fun ls hl => ?_)
      refine lv_goto (tgt := 4) hx hb dX4_truths_25 (by decide) ?_
      have e1_1 : (xTrue k (v 0) (v 1) j) = xTrue k (v 0) (v 1) (j + 1) := by rw [xTrue]; first | (rw [if_pos c_2]; done) | (rw [if_neg c_2]; done)
      exact ih_4 (j + 1) ls (by show _ < _; omega) (by show _; omega) (by show lv_has ls 3 [(0, .ref (b)), (1, .int (xTrue k (v 0) (v 1) (j + 1))), (2, .int (nI ((j + 1))))]; rw [← e1_1]; exact lv_sub hl [1, 2, 0] rfl)
    · skip
      refine lv_iinc (v := xTrue k (v 0) (v 1) j + 1) (lv' := [(1, .int (xTrue k (v 0) (v 1) j + 1)), (0, .ref (b)), (2, .int (nI (j)))]) hx hb dX4_truths_19 hl (k := 1) rfl rfl (by decide) rfl (fun ls hl => ?_)
      refine lv_iinc (v := nI (j + 1)) (lv' := [(2, .int (nI (j + 1))), (1, .int (xTrue k (v 0) (v 1) j + 1)), (0, .ref (b))]) hx hb dX4_truths_22 hl (k := 2) rfl (nI_1 _) (by decide) rfl (fun ls hl => ?_)
      refine lv_goto (tgt := 4) hx hb dX4_truths_25 (by decide) ?_
      have e1_1 : (xTrue k (v 0) (v 1) j + 1) = xTrue k (v 0) (v 1) (j + 1) := by rw [xTrue]; first | (rw [if_pos c_2]; done) | (rw [if_neg c_2]; done)
      exact ih_4 (j + 1) ls (by show _ < _; omega) (by show _; omega) (by show lv_has ls 3 [(0, .ref (b)), (1, .int (xTrue k (v 0) (v 1) (j + 1))), (2, .int (nI ((j + 1))))]; rw [← e1_1]; exact lv_sub hl [2, 1, 0] rfl)

set_option maxHeartbeats 1200000 in
set_option maxRecDepth 100000 in
theorem c4_reading (l : Launch) (dC : Nat → ClassId) (dI : Nat → Nat → Nat) (tys : List (ClassId × FieldType)) (ws : va_W) (q0 b : Nat) {k : Nat} (hk : k < 5) (v : Nat → Int32) (he : ws[q0]? = some (b, .inr (kc k, pF v))) (x : Int32) : Met l yX4_reading wsX4_reading ({ frames := 1, cells := 0, slots := 0, locals := 23 } : Room) (va_Pc [.ref (b), .int (x)] (fun U => va_P (dC, dI) vwCl ws U.heap ∧ va_K (dC, dI) vwCl tys U ∧ xN U)) (vp_Si (fun r => r = xRead k (v 0) (v 1) x 6)) 0 0 (fun _ => False) := by
  refine Met.ofW (cc := cX4_reading) (maxL := 4) (ret := (some .int)) (by decide) rfl ?_
  intro p_ e_ s m args below meth c_0 s₁ B hml hv
  obtain ⟨rfl, hP, hK, hN⟩ := hv
  have hx := B.exec
  have hb := B.bytes
  have hr := B.returns
  have hts := atoms_spec (ws := wsX4_reading) B.pre
  have hown : s.vm.findClass RX4 = some m.cls := findClass_of_methodNamed B.named
  have hlocks := B.notSynchronized
  have hP : va_P (dC, dI) vwCl (ws) s.heap := hP
  have hl := lv_entry ([.ref (b), .int (x)]) (n := 4) (Nat.le_of_ble_eq_true rfl)
  rw [lg_entry_eq]
  generalize (lg_sl ([.ref (b), .int (x)]) ++ List.replicate (4 - (lg_sl ([.ref (b), .int (x)])).length) Slot.unset).toArray = ls at hl ⊢
  have hl : lv_has ls 4 [(0, .ref (b)), (1, .int (x))] := hl
  have hW0 := hts (.initialized RX7) (by decide +kernel)
  have hW1 := hts (.static yX7_hueAt) (by decide +kernel)
  have hW2 := hts (.static yX7_withHue) (by decide +kernel)
  refine lv_iconst (v := nI (0)) hx hb dX4_reading_0 (by decide +kernel) ?_
  refine lv_istore_n (lv' := [(2, .int (nI (0))), (0, .ref (b)), (1, .int (x))]) hx hb dX4_reading_1 rfl hl (by decide) rfl (fun ls hl => ?_)
  refine lv_iconst (v := nI (0)) hx hb dX4_reading_2 (by decide +kernel) ?_
  refine lv_istore_n (lv' := [(3, .int (nI (0))), (2, .int (nI (0))), (0, .ref (b)), (1, .int (x))]) hx hb dX4_reading_3 rfl hl (by decide) rfl (fun ls hl => ?_)
  have e0_2 : (nI (0)) = xRead k (v 0) (v 1) x 0 := rfl
  refine lp_ro (fun j : Nat => 6 - j) (fun j : Nat => j ≤ 6) (fun j : Nat => [(0, .ref (b)), (1, .int (x)), (2, .int (xRead k (v 0) (v 1) x j)), (3, .int (nI (j)))]) (0) (by omega) (by show lv_has ls 4 [(0, .ref (b)), (1, .int (x)), (2, .int (xRead k (v 0) (v 1) x 0)), (3, .int (nI (0)))]; rw [← e0_2]; exact lv_sub hl [2, 3, 1, 0] rfl) (fun j hI ih_4 ls hl => ?_)
  have hI : j ≤ 6 := hI
  have hl : lv_has ls 4 [(0, .ref (b)), (1, .int (x)), (2, .int (xRead k (v 0) (v 1) x j)), (3, .int (nI (j)))] := hl
  refine lv_iload_n hx hb dX4_reading_4 rfl (lv_at hl 3 rfl) ?_
  refine lv_bipush (v := nI (6)) hx hb dX4_reading_5 (by decide +kernel) ?_
  refine lv_icmp_ge (tgt := 31) hx hb dX4_reading_7 (by decide) (fun c_1 => ?_) (fun c_1 => ?_)
  · skip
    rw [nI_leI (a := 6) (b := j) (by omega) (by omega)] at c_1
    have hE : 6 = j := by omega
    subst hE
    refine lv_iload_n hx hb dX4_reading_31 rfl (lv_at hl 2 rfl) ?_
    exact W.iret (v := xRead k (v 0) (v 1) x 6) hx hb hr (fun t ht hW => ⟨xRead k (v 0) (v 1) x 6, rfl, (by show xRead k (v 0) (v 1) x 6 = xRead k (v 0) (v 1) x 6; rfl), ht⟩) (fun _ h => by cases h) dX4_reading_32
  · skip
    rw [nI_leI (a := 6) (b := j) (by omega) (by omega)] at c_1
    refine lv_iload_n hx hb dX4_reading_10 rfl (lv_at hl 2 rfl) ?_
    refine lv_iload_n hx hb dX4_reading_11 rfl (lv_at hl 3 rfl) ?_
    refine lv_aload_n hx hb dX4_reading_12 rfl (lv_at hl 0 rfl) ?_
    refine lv_iload_n hx hb dX4_reading_13 rfl (lv_at hl 1 rfl) ?_
    refine lv_iload_n hx hb dX4_reading_14 rfl (lv_at hl 3 rfl) ?_
    refine vp_callSi (va_Run.run (va_runSN (As := [.int (x), .int (nI (j))]) (rest := [.ref (b), .int (nI (j)), .int (xRead k (v 0) (v 1) x j)]) ⟨hx, hb, hml, hown, hts⟩ (c7_hueAt l (x) (j)) ⟨va_cnB 2 hts gX4_reading_X7_hueAt_n24 rfl rfl rfl (hN.1 _ (List.mem_of_getElem? (i := 16) rfl)) hW0 (by decide +kernel) ⟨Nat.le_of_ble_eq_true rfl, Nat.le_of_ble_eq_true rfl⟩, hW1, trivial⟩ ⟨fun _ _ _ _ q => q, fun U hU hW => ⟨rfl, trivial⟩⟩ rfl rfl hl.1 rfl (lv_room (Nat.le_of_ble_eq_true rfl)) dX4_reading_15 ⟨Nat.le_of_ble_eq_true rfl, Nat.le_of_ble_eq_true rfl⟩)) (fun r hrc => ?_)
    have hrc : r = xHa (x) (j) := hrc
    subst hrc
    refine cg_glimpse ⟨hx, hb, hml, hown, hts⟩ hts gX4_reading_X0_glimpse_u28X0 gX4_reading_X2_glimpse_u28X2 gX4_reading_X4_glimpse gX4_reading_X5_glimpse_u28X5 gX4_reading_X6_glimpse_u28X6 hK hP (q0) hk he hl.1 (Nat.le_of_ble_eq_true rfl) ⟨Nat.le_of_ble_eq_true rfl, Nat.le_of_ble_eq_true rfl⟩ ⟨Nat.le_of_ble_eq_true rfl, Nat.le_of_ble_eq_true rfl⟩ dX4_reading_18 ?_
    refine vp_callSi (va_Run.run (va_runSN (As := [.int (xRead k (v 0) (v 1) x j), .int (nI (j)), .int (see (nI (k)) (v 0) (v 1) (xHa (x) (j)))]) (rest := []) ⟨hx, hb, hml, hown, hts⟩ (c7_withHue l (xRead k (v 0) (v 1) x j) (j) (see (nI (k)) (v 0) (v 1) (xHa (x) (j)))) ⟨va_cnB 3 hts gX4_reading_X7_withHue_n32 rfl rfl rfl (hN.1 _ (List.mem_of_getElem? (i := 17) rfl)) hW0 (by decide +kernel) ⟨Nat.le_of_ble_eq_true rfl, Nat.le_of_ble_eq_true rfl⟩, hW2, trivial⟩ ⟨fun _ _ _ _ q => q, fun U hU hW => ⟨rfl, trivial⟩⟩ rfl rfl hl.1 rfl (lv_room (Nat.le_of_ble_eq_true rfl)) dX4_reading_21 ⟨Nat.le_of_ble_eq_true rfl, Nat.le_of_ble_eq_true rfl⟩)) (fun r hrc => ?_)
    have hrc : r = xWh (xRead k (v 0) (v 1) x j) (j) (see (nI (k)) (v 0) (v 1) (xHa (x) (j))) := hrc
    subst hrc
    refine lv_istore_n (lv' := [(2, .int (xWh (xRead k (v 0) (v 1) x j) (j) (see (nI (k)) (v 0) (v 1) (xHa (x) (j))))), (0, .ref (b)), (1, .int (x)), (3, .int (nI (j)))]) hx hb dX4_reading_24 rfl hl (by decide) rfl (fun ls hl => ?_)
    refine lv_iinc (v := nI (j + 1)) (lv' := [(3, .int (nI (j + 1))), (2, .int (xWh (xRead k (v 0) (v 1) x j) (j) (see (nI (k)) (v 0) (v 1) (xHa (x) (j))))), (0, .ref (b)), (1, .int (x))]) hx hb dX4_reading_25 hl (k := 3) rfl (nI_1 _) (by decide) rfl (fun ls hl => ?_)
    refine lv_goto (tgt := 4) hx hb dX4_reading_28 (by decide) ?_
    have e1_2 : (xWh (xRead k (v 0) (v 1) x j) (j) (see (nI (k)) (v 0) (v 1) (xHa (x) (j)))) = xRead k (v 0) (v 1) x (j + 1) := by rfl
    exact ih_4 (j + 1) ls (by show _ < _; omega) (by show _; omega) (by show lv_has ls 4 [(0, .ref (b)), (1, .int (x)), (2, .int (xRead k (v 0) (v 1) x (j + 1))), (3, .int (nI ((j + 1))))]; rw [← e1_2]; exact lv_sub hl [2, 3, 1, 0] rfl)
