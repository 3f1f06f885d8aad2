set_option maxHeartbeats 2000000 in
set_option maxRecDepth 100000 in
theorem lc_sees {p : Program} {l : Launch} {e : Env} {s : State} {m : MethodId} {below : List Frame} {meth : Method} {c : Code} {b L : Nat} {xs : Nat → Int32} (C0 : lwC p s m meth c b L xs) {dC : Nat → ClassId} {dI : Nat → Nat → Nat} {cI cP : ClassId} {a : Nat} {o : Nat → Nat} {a' : Nat} {o' : Nat → Nat} (hK : va_K (dC, dI) vwCl [(cI, .int), (cP, .object RX4)] s) (hN : xN s) {N : Nat} (hNL : 5 * N + 5 ≤ L) {k1 n k8 cn9 q d : Nat} {f : Nat → Int32} {g : Nat → Nat → Int32} {pa : Nat → Option Nat} {t9 : Nat → Nat → Int32} {pd pk : Nat → Nat} {pv : Nat → Nat → Int32} {f' : Nat → Int32} {g' : Nat → Nat → Int32} {h' : Int64} (R : RR N k1 n k8 cn9 q d f g pa pd pk pv f' g') {H : Heap} {locs : List Loc} {ls : Array Slot} (hP : va_P (dC, dI) vwCl (mW cI a' o' f' g' h' ++ xW cI cP a o f g pa t9 n pd pk pv) H) (hD : va_D (fun q : Nat => s.heap.size ≤ q) (mW cI a' o' f' g' h' ++ xW cI cP a o f g pa t9 n pd pk pv)) (hS : va_S (fun q : Nat => s.heap.size ≤ q) s.heap H locs) (hl : lv_has ls 4 (lwL N b a a')) (K : lwK p l e s m b below meth c dC dI cI cP a o a' o' N) : W p l e room_1 s m #[Value.ref b] below meth c H locs (28 + N) (351 + 6 * N) (lw_Z below #[Value.ref b] s) (F0 m 383 ls []) := by
  obtain ⟨hx, hb, hml, hown, htl, hX, hbl, hL⟩ := id C0
  have hA : ∀ q : Nat, s.heap.size ≤ q → (fun q : Nat => s.heap.size ≤ q) q := fun _ h => h
  have hbA : ¬ (fun q : Nat => s.heap.size ≤ q) b := Nat.not_le.mpr hbl
  have hl : lv_has ls 4 [(3, .int (nI (5 * N))), (2, .ref a'), (1, .ref a), (0, .ref b)] := hl
  have hPp := R.2.2.2.2.1
  have hCn := R.2.2.2.1
  have hKm := hK.sub (tys' := [(cI, .int)]) [0] rfl
  refine lv_aload_n hx hb dL_law_383 rfl (lv_at hl 2 rfl) ?_
  refine lv_aload_n hx hb dL_law_384 rfl (lv_at hl 3 rfl) ?_
  refine lv_iload_n hx hb dL_law_385 rfl (lv_at hl 0 rfl) ?_
  refine lv_iconst (v := nI (1)) hx hb dL_law_386 (by decide +kernel) ?_
  refine lv_iadd hx hb dL_law_387 ?_
  refine tq (nI_add (5 * N) (1)) ?_
  refine va_sld hx hb hX hbl hbA hS (vp_in_nI (show 5 * N + 1 < L by omega) (by omega)) dL_law_388 ?_
  refine lv_aload_n hx hb dL_law_389 rfl (lv_at hl 3 rfl) ?_
  refine lv_iload_n hx hb dL_law_390 rfl (lv_at hl 0 rfl) ?_
  refine lv_iconst (v := nI (2)) hx hb dL_law_391 (by decide +kernel) ?_
  refine lv_iadd hx hb dL_law_392 ?_
  refine tq (nI_add (5 * N) (2)) ?_
  refine va_sld hx hb hX hbl hbA hS (vp_in_nI (show 5 * N + 2 < L by omega) (by omega)) dL_law_393 ?_
  have hPx := va_P_r hP
  have hDx := va_D_r hD
  refine vp_callSi (va_Run.run (va_runV (As := [.int (xs (nI (5 * N + 1)).toNatClampNeg), .int (xs (nI (5 * N + 2)).toNatClampNeg)]) (rest := []) ⟨hx, hb, hml, hown, htl⟩ (c7_sees l dC dI cI cP a o f g pa t9 n pd pk pv hPp.2.1 hPp.1 (fun i hi => (hPp.2.2.2 i hi).1) (fun i hi => (hPp.2.2.2 i hi).2.1) (xs (nI (5 * N + 1)).toNatClampNeg) (xs (nI (5 * N + 2)).toNatClampNeg)) (cwV 2 htl gL_law_X7_sees rfl rfl rfl (by decide +kernel) ⟨Nat.le_of_ble_eq_true rfl, Nat.le_of_ble_eq_true rfl⟩) ⟨fun a U g mk q => ⟨q.1, q.2.1, va_K.moved (u := U) (U := U.calling g mk a) (Vm.Alike.refl U.vm) q.2.2.1, xN.same (u := U) (U := U.calling g mk a) rfl q.2.2.2⟩, va_recv hK hPx (ci := 7) (q0 := 0) rfl rfl, fun U hU hW => ⟨rfl, by rw [hU]; exact hPx, va_K.moved hW.alike hK, xN.warm hW hN⟩⟩ rfl rfl hl.1 rfl (lv_room (Nat.le_of_ble_eq_true rfl)) dL_law_394 ⟨(by show 28 + N + 0 ≤ 600000; omega), (by show 351 + 6 * N + 0 ≤ 7302250; omega)⟩)) (fun r1 hr1 => ?_)
  refine lv_aload_n hx hb dL_law_397 rfl (lv_at hl 1 rfl) ?_
  refine lv_aload_n hx hb dL_law_398 rfl (lv_at hl 3 rfl) ?_
  refine lv_iload_n hx hb dL_law_399 rfl (lv_at hl 0 rfl) ?_
  refine lv_iconst (v := nI (1)) hx hb dL_law_400 (by decide +kernel) ?_
  refine lv_iadd hx hb dL_law_401 ?_
  refine tq (nI_add (5 * N) (1)) ?_
  refine va_sld hx hb hX hbl hbA hS (vp_in_nI (show 5 * N + 1 < L by omega) (by omega)) dL_law_402 ?_
  refine lv_aload_n hx hb dL_law_403 rfl (lv_at hl 3 rfl) ?_
  refine lv_iload_n hx hb dL_law_404 rfl (lv_at hl 0 rfl) ?_
  refine lv_iconst (v := nI (2)) hx hb dL_law_405 (by decide +kernel) ?_
  refine lv_iadd hx hb dL_law_406 ?_
  refine tq (nI_add (5 * N) (2)) ?_
  refine va_sld hx hb hX hbl hbA hS (vp_in_nI (show 5 * N + 2 < L by omega) (by omega)) dL_law_407 ?_
  have hPm := va_P_l hP
  have hDm := va_D_l hD
  refine vp_callSi (va_Run.run (va_runV (As := [.int (xs (nI (5 * N + 1)).toNatClampNeg), .int (xs (nI (5 * N + 2)).toNatClampNeg)]) (rest := [.int r1]) ⟨hx, hb, hml, hown, htl⟩ (c8_sees l dC dI cI a' o' f' g' h' hPp.2.2.1 hPp.1 (xs (nI (5 * N + 1)).toNatClampNeg) (xs (nI (5 * N + 2)).toNatClampNeg)) (cwV 2 htl gL_law_X8_sees rfl rfl rfl (by decide +kernel) ⟨Nat.le_of_ble_eq_true rfl, Nat.le_of_ble_eq_true rfl⟩) ⟨fun a U g mk q => ⟨q.1, q.2.1, va_K.moved (u := U) (U := U.calling g mk a) (Vm.Alike.refl U.vm) q.2.2⟩, va_recv hKm hPm (ci := 8) (q0 := 0) rfl rfl, fun U hU hW => ⟨rfl, by rw [hU]; exact hPm, va_K.moved hW.alike hKm⟩⟩ rfl rfl hl.1 rfl (lv_room (Nat.le_of_ble_eq_true rfl)) dL_law_408 ⟨(by show 28 + N + 0 + 0 ≤ 600000; omega), (by show 351 + 6 * N + 0 + 0 ≤ 7302250; omega)⟩)) (fun r2 hr2 => ?_)
  have hq : r1 = r2 ∧ RS (N + 1) (f, g, pa, t9, n, pd, pk, pv) (f', g', h') := ⟨by rw [hr1, hr2]; exact p_sees R (xs (nI (5 * N + 1)).toNatClampNeg) (xs (nI (5 * N + 2)).toNatClampNeg), R.rs1⟩
  refine lv_icmp_eq (tgt := 838) hx hb dL_law_411 (by decide) (fun c_9 => ?_) (fun c_9 => absurd hq.1 c_9)
  refine W.widen (k := 28 + (N + 1)) (n := 351 + 6 * (N + 1)) (by omega) (by omega) ?_
  exact K (f, g, pa, t9, n, pd, pk, pv) (f', g', h') H _ ls hq.2 hP hD hS hl
set_option maxHeartbeats 2000000 in
set_option maxRecDepth 100000 in
theorem lc_eye {p : Program} {l : Launch} {e : Env} {s : State} {m : MethodId} {below : List Frame} {meth : Method} {c : Code} {b L : Nat} {xs : Nat → Int32} (C0 : lwC p s m meth c b L xs) {dC : Nat → ClassId} {dI : Nat → Nat → Nat} {cI cP : ClassId} {a : Nat} {o : Nat → Nat} {a' : Nat} {o' : Nat → Nat} (hK : va_K (dC, dI) vwCl [(cI, .int), (cP, .object RX4)] s) (hN : xN s) {N : Nat} (hNL : 5 * N + 5 ≤ L) {k1 n k8 cn9 q d : Nat} {f : Nat → Int32} {g : Nat → Nat → Int32} {pa : Nat → Option Nat} {t9 : Nat → Nat → Int32} {pd pk : Nat → Nat} {pv : Nat → Nat → Int32} {f' : Nat → Int32} {g' : Nat → Nat → Int32} {h' : Int64} (R : RR N k1 n k8 cn9 q d f g pa pd pk pv f' g') {H : Heap} {locs : List Loc} {ls : Array Slot} (hP : va_P (dC, dI) vwCl (mW cI a' o' f' g' h' ++ xW cI cP a o f g pa t9 n pd pk pv) H) (hD : va_D (fun q : Nat => s.heap.size ≤ q) (mW cI a' o' f' g' h' ++ xW cI cP a o f g pa t9 n pd pk pv)) (hS : va_S (fun q : Nat => s.heap.size ≤ q) s.heap H locs) (hl : lv_has ls 4 (lwL N b a a')) (K : lwK p l e s m b below meth c dC dI cI cP a o a' o' N) : W p l e room_1 s m #[Value.ref b] below meth c H locs (28 + N) (351 + 6 * N) (lw_Z below #[Value.ref b] s) (F0 m 416 ls []) := by
  obtain ⟨hx, hb, hml, hown, htl, hX, hbl, hL⟩ := id C0
  have hA : ∀ q : Nat, s.heap.size ≤ q → (fun q : Nat => s.heap.size ≤ q) q := fun _ h => h
  have hbA : ¬ (fun q : Nat => s.heap.size ≤ q) b := Nat.not_le.mpr hbl
  have hl : lv_has ls 4 [(3, .int (nI (5 * N))), (2, .ref a'), (1, .ref a), (0, .ref b)] := hl
  have hPp := R.2.2.2.2.1
  have hCn := R.2.2.2.1
  have hKm := hK.sub (tys' := [(cI, .int)]) [0] rfl
  refine lv_aload_n hx hb dL_law_416 rfl (lv_at hl 2 rfl) ?_
  refine lv_aload_n hx hb dL_law_417 rfl (lv_at hl 3 rfl) ?_
  refine lv_iload_n hx hb dL_law_418 rfl (lv_at hl 0 rfl) ?_
  refine lv_iconst (v := nI (1)) hx hb dL_law_419 (by decide +kernel) ?_
  refine lv_iadd hx hb dL_law_420 ?_
  refine tq (nI_add (5 * N) (1)) ?_
  refine va_sld hx hb hX hbl hbA hS (vp_in_nI (show 5 * N + 1 < L by omega) (by omega)) dL_law_421 ?_
  refine lv_aload_n hx hb dL_law_422 rfl (lv_at hl 3 rfl) ?_
  refine lv_iload_n hx hb dL_law_423 rfl (lv_at hl 0 rfl) ?_
  refine lv_iconst (v := nI (2)) hx hb dL_law_424 (by decide +kernel) ?_
  refine lv_iadd hx hb dL_law_425 ?_
  refine tq (nI_add (5 * N) (2)) ?_
  refine va_sld hx hb hX hbl hbA hS (vp_in_nI (show 5 * N + 2 < L by omega) (by omega)) dL_law_426 ?_
  refine lv_aload_n hx hb dL_law_427 rfl (lv_at hl 3 rfl) ?_
  refine lv_iload_n hx hb dL_law_428 rfl (lv_at hl 0 rfl) ?_
  refine lv_iconst (v := nI (3)) hx hb dL_law_429 (by decide +kernel) ?_
  refine lv_iadd hx hb dL_law_430 ?_
  refine tq (nI_add (5 * N) (3)) ?_
  refine va_sld hx hb hX hbl hbA hS (vp_in_nI (show 5 * N + 3 < L by omega) (by omega)) dL_law_431 ?_
  have hPx := va_P_r hP
  have hDx := va_D_r hD
  have hFx := va_Af hDx hS hA
  refine va_calli (va_runV (As := [.int (xs (nI (5 * N + 1)).toNatClampNeg), .int (xs (nI (5 * N + 2)).toNatClampNeg), .int (xs (nI (5 * N + 3)).toNatClampNeg)]) (rest := []) ⟨hx, hb, hml, hown, htl⟩ (c7_eye l dC dI cI cP a o f g pa t9 n pd pk pv H.size hPp.2.1 hPp.1 (fun i hi => (hPp.2.2.2 i hi).1) (fun i hi => (hPp.2.2.2 i hi).2.1) (xs (nI (5 * N + 1)).toNatClampNeg) (xs (nI (5 * N + 2)).toNatClampNeg) (xs (nI (5 * N + 3)).toNatClampNeg)) (cwV 3 htl gL_law_X7_eye rfl rfl rfl (by decide +kernel) ⟨Nat.le_of_ble_eq_true rfl, Nat.le_of_ble_eq_true rfl⟩) ⟨fun a U g mk q => by obtain ⟨q0, q1, qP, qK, qN, qD⟩ := q; exact ⟨q0, q1, qP, va_K.moved (u := U) (U := U.calling g mk a) (Vm.Alike.refl U.vm) qK, xN.same (u := U) (U := U.calling g mk a) rfl qN, qD⟩, va_recv hK hPx (ci := 7) (q0 := 0) rfl rfl, fun U hU hW => ⟨rfl, by rw [hU], by rw [hU]; exact hPx, va_K.moved hW.alike hK, xN.warm hW hN, hDx.weaken (fun _ _ _ _ => trivial)⟩⟩ rfl rfl hl.1 rfl (lv_room (Nat.le_of_ble_eq_true rfl)) dL_law_432 ⟨(by show 28 + N + 0 ≤ 600000; omega), (by show 351 + 6 * N + 0 ≤ 7302250; omega)⟩) hS (fun q _ h => hFx q h) hFx (fun r1 u t H1 locs ht hvm hw hB hz1 hk1 hS => ?_)
  obtain ⟨hP1, hK1, hD1⟩ := hB
  rw [ht] at hP1
  obtain ⟨hP, hD⟩ := jr hP hD hk1 hFx hP1 hD1
  clear hP1 hD1 hK1 hPx hDx hFx hk1 hz1
  generalize H1 = H at hP hS ⊢
  refine lv_aload_n hx hb dL_law_435 rfl (lv_at hl 1 rfl) ?_
  refine lv_aload_n hx hb dL_law_436 rfl (lv_at hl 3 rfl) ?_
  refine lv_iload_n hx hb dL_law_437 rfl (lv_at hl 0 rfl) ?_
  refine lv_iconst (v := nI (1)) hx hb dL_law_438 (by decide +kernel) ?_
  refine lv_iadd hx hb dL_law_439 ?_
  refine tq (nI_add (5 * N) (1)) ?_
  refine va_sld hx hb hX hbl hbA hS (vp_in_nI (show 5 * N + 1 < L by omega) (by omega)) dL_law_440 ?_
  refine lv_aload_n hx hb dL_law_441 rfl (lv_at hl 3 rfl) ?_
  refine lv_iload_n hx hb dL_law_442 rfl (lv_at hl 0 rfl) ?_
  refine lv_iconst (v := nI (2)) hx hb dL_law_443 (by decide +kernel) ?_
  refine lv_iadd hx hb dL_law_444 ?_
  refine tq (nI_add (5 * N) (2)) ?_
  refine va_sld hx hb hX hbl hbA hS (vp_in_nI (show 5 * N + 2 < L by omega) (by omega)) dL_law_445 ?_
  refine lv_aload_n hx hb dL_law_446 rfl (lv_at hl 3 rfl) ?_
  refine lv_iload_n hx hb dL_law_447 rfl (lv_at hl 0 rfl) ?_
  refine lv_iconst (v := nI (3)) hx hb dL_law_448 (by decide +kernel) ?_
  refine lv_iadd hx hb dL_law_449 ?_
  refine tq (nI_add (5 * N) (3)) ?_
  refine va_sld hx hb hX hbl hbA hS (vp_in_nI (show 5 * N + 3 < L by omega) (by omega)) dL_law_450 ?_
  have hPm := va_P_l hP
  have hDm := va_D_l hD
  have hFm := va_Af hDm hS hA
  refine va_calli (va_runV (As := [.int (xs (nI (5 * N + 1)).toNatClampNeg), .int (xs (nI (5 * N + 2)).toNatClampNeg), .int (xs (nI (5 * N + 3)).toNatClampNeg)]) (rest := [.int r1]) ⟨hx, hb, hml, hown, htl⟩ (c8_eye l dC dI cI a' o' f' g' h' H.size hPp.2.2.1 hPp.1 (xs (nI (5 * N + 1)).toNatClampNeg) (xs (nI (5 * N + 2)).toNatClampNeg) (xs (nI (5 * N + 3)).toNatClampNeg)) (cwV 3 htl gL_law_X8_eye rfl rfl rfl (by decide +kernel) ⟨Nat.le_of_ble_eq_true rfl, Nat.le_of_ble_eq_true rfl⟩) ⟨fun a U g mk q => by obtain ⟨q0, q1, qP, qK, qD⟩ := q; exact ⟨q0, q1, qP, va_K.moved (u := U) (U := U.calling g mk a) (Vm.Alike.refl U.vm) qK, qD⟩, va_recv hKm hPm (ci := 8) (q0 := 0) rfl rfl, fun U hU hW => ⟨rfl, by rw [hU], by rw [hU]; exact hPm, va_K.moved hW.alike hKm, hDm.weaken (fun _ _ _ _ => trivial)⟩⟩ rfl rfl hl.1 rfl (lv_room (Nat.le_of_ble_eq_true rfl)) dL_law_451 ⟨(by show 28 + N + 0 + 0 ≤ 600000; omega), (by show 351 + 6 * N + 0 + 0 ≤ 7302250; omega)⟩) hS (fun q _ h => hFm q h) hFm (fun r2 v t H1 locs ht hvm hwm hB hz1 hk1 hS => ?_)
  obtain ⟨hP1, hK1, hD1⟩ := hB
  rw [ht] at hP1
  obtain ⟨hP, hD⟩ := jl hP hD hk1 hFm hP1 hD1
  clear hP1 hD1 hK1 hPm hDm hFm hk1 hz1
  generalize H1 = H at hP hS ⊢
  have hq : ((((xEye pv n (xs (nI (5 * N + 1)).toNatClampNeg) (xs (nI (5 * N + 2)).toNatClampNeg) (xs (nI (5 * N + 3)).toNatClampNeg)).1, f, g, pa, t9, n, pd, pk, (xEye pv n (xs (nI (5 * N + 1)).toNatClampNeg) (xs (nI (5 * N + 2)).toNatClampNeg) (xs (nI (5 * N + 3)).toNatClampNeg)).2) : Int32 × XSt)).1 = (mEye f' g' h' n (xs (nI (5 * N + 1)).toNatClampNeg) (xs (nI (5 * N + 2)).toNatClampNeg) (xs (nI (5 * N + 3)).toNatClampNeg)).1 ∧ RS (N + 1) ((((xEye pv n (xs (nI (5 * N + 1)).toNatClampNeg) (xs (nI (5 * N + 2)).toNatClampNeg) (xs (nI (5 * N + 3)).toNatClampNeg)).1, f, g, pa, t9, n, pd, pk, (xEye pv n (xs (nI (5 * N + 1)).toNatClampNeg) (xs (nI (5 * N + 2)).toNatClampNeg) (xs (nI (5 * N + 3)).toNatClampNeg)).2) : Int32 × XSt)).2 (mEye f' g' h' n (xs (nI (5 * N + 1)).toNatClampNeg) (xs (nI (5 * N + 2)).toNatClampNeg) (xs (nI (5 * N + 3)).toNatClampNeg)).2 := p_eye R (xs (nI (5 * N + 1)).toNatClampNeg) (xs (nI (5 * N + 2)).toNatClampNeg) (xs (nI (5 * N + 3)).toNatClampNeg)
  rw [← hw, ← hwm] at hq
  have hq : r1 = r2 ∧ RS (N + 1) u v := hq
  refine lv_icmp_eq (tgt := 838) hx hb dL_law_454 (by decide) (fun c_9 => ?_) (fun c_9 => absurd hq.1 c_9)
  refine W.widen (k := 28 + (N + 1)) (n := 351 + 6 * (N + 1)) (by omega) (by omega) ?_
  exact K u v H _ ls hq.2 hP hD hS hl
set_option maxHeartbeats 2000000 in
set_option maxRecDepth 100000 in
theorem lc_ink {p : Program} {l : Launch} {e : Env} {s : State} {m : MethodId} {below : List Frame} {meth : Method} {c : Code} {b L : Nat} {xs : Nat → Int32} (C0 : lwC p s m meth c b L xs) {dC : Nat → ClassId} {dI : Nat → Nat → Nat} {cI cP : ClassId} {a : Nat} {o : Nat → Nat} {a' : Nat} {o' : Nat → Nat} (hK : va_K (dC, dI) vwCl [(cI, .int), (cP, .object RX4)] s) (hN : xN s) {N : Nat} (hNL : 5 * N + 5 ≤ L) {k1 n k8 cn9 q d : Nat} {f : Nat → Int32} {g : Nat → Nat → Int32} {pa : Nat → Option Nat} {t9 : Nat → Nat → Int32} {pd pk : Nat → Nat} {pv : Nat → Nat → Int32} {f' : Nat → Int32} {g' : Nat → Nat → Int32} {h' : Int64} (R : RR N k1 n k8 cn9 q d f g pa pd pk pv f' g') {H : Heap} {locs : List Loc} {ls : Array Slot} (hP : va_P (dC, dI) vwCl (mW cI a' o' f' g' h' ++ xW cI cP a o f g pa t9 n pd pk pv) H) (hD : va_D (fun q : Nat => s.heap.size ≤ q) (mW cI a' o' f' g' h' ++ xW cI cP a o f g pa t9 n pd pk pv)) (hS : va_S (fun q : Nat => s.heap.size ≤ q) s.heap H locs) (hl : lv_has ls 4 (lwL N b a a')) (K : lwK p l e s m b below meth c dC dI cI cP a o a' o' N) : W p l e room_1 s m #[Value.ref b] below meth c H locs (28 + N) (351 + 6 * N) (lw_Z below #[Value.ref b] s) (F0 m 459 ls []) := by
  obtain ⟨hx, hb, hml, hown, htl, hX, hbl, hL⟩ := id C0
  have hA : ∀ q : Nat, s.heap.size ≤ q → (fun q : Nat => s.heap.size ≤ q) q := fun _ h => h
  have hbA : ¬ (fun q : Nat => s.heap.size ≤ q) b := Nat.not_le.mpr hbl
  have hl : lv_has ls 4 [(3, .int (nI (5 * N))), (2, .ref a'), (1, .ref a), (0, .ref b)] := hl
  have hPp := R.2.2.2.2.1
  have hCn := R.2.2.2.1
  have hKm := hK.sub (tys' := [(cI, .int)]) [0] rfl
  refine lv_aload_n hx hb dL_law_459 rfl (lv_at hl 2 rfl) ?_
  refine lv_aload_n hx hb dL_law_460 rfl (lv_at hl 3 rfl) ?_
  refine lv_iload_n hx hb dL_law_461 rfl (lv_at hl 0 rfl) ?_
  refine lv_iconst (v := nI (1)) hx hb dL_law_462 (by decide +kernel) ?_
  refine lv_iadd hx hb dL_law_463 ?_
  refine tq (nI_add (5 * N) (1)) ?_
  refine va_sld hx hb hX hbl hbA hS (vp_in_nI (show 5 * N + 1 < L by omega) (by omega)) dL_law_464 ?_
  have hPx := va_P_r hP
  have hDx := va_D_r hD
  have hFx := va_Af hDx hS hA
  refine va_calli (va_runV (As := [.int (xs (nI (5 * N + 1)).toNatClampNeg)]) (rest := []) ⟨hx, hb, hml, hown, htl⟩ (c7_ink l dC dI cI cP a o f g pa t9 n pd pk pv H.size R.2.2.1.2.1 R.2.2.1.1 (xs (nI (5 * N + 1)).toNatClampNeg)) (cwV 1 htl gL_law_X7_ink rfl rfl rfl (by decide +kernel) ⟨Nat.le_of_ble_eq_true rfl, Nat.le_of_ble_eq_true rfl⟩) ⟨fun a U g mk q => by obtain ⟨q0, q1, qP, qK, qN, qD⟩ := q; exact ⟨q0, q1, qP, va_K.moved (u := U) (U := U.calling g mk a) (Vm.Alike.refl U.vm) qK, xN.same (u := U) (U := U.calling g mk a) rfl qN, qD⟩, va_recv hK hPx (ci := 7) (q0 := 0) rfl rfl, fun U hU hW => ⟨rfl, by rw [hU], by rw [hU]; exact hPx, va_K.moved hW.alike hK, xN.warm hW hN, hDx.weaken (fun _ _ _ _ => trivial)⟩⟩ rfl rfl hl.1 rfl (lv_room (Nat.le_of_ble_eq_true rfl)) dL_law_465 ⟨(by show 28 + N + 0 ≤ 600000; omega), (by show 351 + 6 * N + 0 ≤ 7302250; omega)⟩) hS (fun q _ h => hFx q h) hFx (fun r1 u t H1 locs ht hvm hw hB hz1 hk1 hS => ?_)
  obtain ⟨hP1, hK1, hD1⟩ := hB
  rw [ht] at hP1
  obtain ⟨hP, hD⟩ := jr hP hD hk1 hFx hP1 hD1
  clear hP1 hD1 hK1 hPx hDx hFx hk1 hz1
  generalize H1 = H at hP hS ⊢
  refine lv_aload_n hx hb dL_law_468 rfl (lv_at hl 1 rfl) ?_
  refine lv_aload_n hx hb dL_law_469 rfl (lv_at hl 3 rfl) ?_
  refine lv_iload_n hx hb dL_law_470 rfl (lv_at hl 0 rfl) ?_
  refine lv_iconst (v := nI (1)) hx hb dL_law_471 (by decide +kernel) ?_
  refine lv_iadd hx hb dL_law_472 ?_
  refine tq (nI_add (5 * N) (1)) ?_
  refine va_sld hx hb hX hbl hbA hS (vp_in_nI (show 5 * N + 1 < L by omega) (by omega)) dL_law_473 ?_
  have hPm := va_P_l hP
  have hDm := va_D_l hD
  have hFm := va_Af hDm hS hA
  refine va_calli (va_runV (As := [.int (xs (nI (5 * N + 1)).toNatClampNeg)]) (rest := [.int r1]) ⟨hx, hb, hml, hown, htl⟩ (c8_ink l dC dI cI a' o' f' g' h' H.size R.2.2.1.2.2.1 R.2.2.1.1 (xs (nI (5 * N + 1)).toNatClampNeg)) (cwV 1 htl gL_law_X8_ink rfl rfl rfl (by decide +kernel) ⟨Nat.le_of_ble_eq_true rfl, Nat.le_of_ble_eq_true rfl⟩) ⟨fun a U g mk q => by obtain ⟨q0, q1, qP, qK, qD⟩ := q; exact ⟨q0, q1, qP, va_K.moved (u := U) (U := U.calling g mk a) (Vm.Alike.refl U.vm) qK, qD⟩, va_recv hKm hPm (ci := 8) (q0 := 0) rfl rfl, fun U hU hW => ⟨rfl, by rw [hU], by rw [hU]; exact hPm, va_K.moved hW.alike hKm, hDm.weaken (fun _ _ _ _ => trivial)⟩⟩ rfl rfl hl.1 rfl (lv_room (Nat.le_of_ble_eq_true rfl)) dL_law_474 ⟨(by show 28 + N + 0 + 0 ≤ 600000; omega), (by show 351 + 6 * N + 0 + 0 ≤ 7302250; omega)⟩) hS (fun q _ h => hFm q h) hFm (fun r2 v t H1 locs ht hvm hwm hB hz1 hk1 hS => ?_)
  obtain ⟨hP1, hK1, hD1⟩ := hB
  rw [ht] at hP1
  obtain ⟨hP, hD⟩ := jl hP hD hk1 hFm hP1 hD1
  clear hP1 hD1 hK1 hPm hDm hFm hk1 hz1
  generalize H1 = H at hP hS ⊢
  have hq := p_ink (tq := t9) (h' := h') R (xs (nI (5 * N + 1)).toNatClampNeg)
  rw [← hw, ← hwm] at hq
  have hq : r1 = r2 ∧ RS (N + 1) u v := hq
  refine lv_icmp_eq (tgt := 838) hx hb dL_law_477 (by decide) (fun c_9 => ?_) (fun c_9 => absurd hq.1 c_9)
  refine W.widen (k := 28 + (N + 1)) (n := 351 + 6 * (N + 1)) (by omega) (by omega) ?_
  exact K u v H _ ls hq.2 hP hD hS hl
set_option maxHeartbeats 2000000 in
set_option maxRecDepth 100000 in
theorem lc_inkOf {p : Program} {l : Launch} {e : Env} {s : State} {m : MethodId} {below : List Frame} {meth : Method} {c : Code} {b L : Nat} {xs : Nat → Int32} (C0 : lwC p s m meth c b L xs) {dC : Nat → ClassId} {dI : Nat → Nat → Nat} {cI cP : ClassId} {a : Nat} {o : Nat → Nat} {a' : Nat} {o' : Nat → Nat} (hK : va_K (dC, dI) vwCl [(cI, .int), (cP, .object RX4)] s) (hN : xN s) {N : Nat} (hNL : 5 * N + 5 ≤ L) {k1 n k8 cn9 q d : Nat} {f : Nat → Int32} {g : Nat → Nat → Int32} {pa : Nat → Option Nat} {t9 : Nat → Nat → Int32} {pd pk : Nat → Nat} {pv : Nat → Nat → Int32} {f' : Nat → Int32} {g' : Nat → Nat → Int32} {h' : Int64} (R : RR N k1 n k8 cn9 q d f g pa pd pk pv f' g') {H : Heap} {locs : List Loc} {ls : Array Slot} (hP : va_P (dC, dI) vwCl (mW cI a' o' f' g' h' ++ xW cI cP a o f g pa t9 n pd pk pv) H) (hD : va_D (fun q : Nat => s.heap.size ≤ q) (mW cI a' o' f' g' h' ++ xW cI cP a o f g pa t9 n pd pk pv)) (hS : va_S (fun q : Nat => s.heap.size ≤ q) s.heap H locs) (hl : lv_has ls 4 (lwL N b a a')) (K : lwK p l e s m b below meth c dC dI cI cP a o a' o' N) : W p l e room_1 s m #[Value.ref b] below meth c H locs (28 + N) (351 + 6 * N) (lw_Z below #[Value.ref b] s) (F0 m 482 ls []) := by
  obtain ⟨hx, hb, hml, hown, htl, hX, hbl, hL⟩ := id C0
  have hA : ∀ q : Nat, s.heap.size ≤ q → (fun q : Nat => s.heap.size ≤ q) q := fun _ h => h
  have hbA : ¬ (fun q : Nat => s.heap.size ≤ q) b := Nat.not_le.mpr hbl
  have hl : lv_has ls 4 [(3, .int (nI (5 * N))), (2, .ref a'), (1, .ref a), (0, .ref b)] := hl
  have hPp := R.2.2.2.2.1
  have hCn := R.2.2.2.1
  have hKm := hK.sub (tys' := [(cI, .int)]) [0] rfl
  refine lv_aload_n hx hb dL_law_482 rfl (lv_at hl 2 rfl) ?_
  refine lv_aload_n hx hb dL_law_483 rfl (lv_at hl 3 rfl) ?_
  refine lv_iload_n hx hb dL_law_484 rfl (lv_at hl 0 rfl) ?_
  refine lv_iconst (v := nI (1)) hx hb dL_law_485 (by decide +kernel) ?_
  refine lv_iadd hx hb dL_law_486 ?_
  refine tq (nI_add (5 * N) (1)) ?_
  refine va_sld hx hb hX hbl hbA hS (vp_in_nI (show 5 * N + 1 < L by omega) (by omega)) dL_law_487 ?_
  have hPx := va_P_r hP
  have hDx := va_D_r hD
  refine vp_callSi (va_Run.run (va_runV (As := [.int (xs (nI (5 * N + 1)).toNatClampNeg)]) (rest := []) ⟨hx, hb, hml, hown, htl⟩ (c7_inkOf l dC dI cI cP a o f g pa t9 n pd pk pv R.2.2.1.2.1 R.2.2.1.1 (xs (nI (5 * N + 1)).toNatClampNeg)) (cwV 1 htl gL_law_X7_inkOf rfl rfl rfl (by decide +kernel) ⟨Nat.le_of_ble_eq_true rfl, Nat.le_of_ble_eq_true rfl⟩) ⟨fun a U g mk q => ⟨q.1, q.2.1, va_K.moved (u := U) (U := U.calling g mk a) (Vm.Alike.refl U.vm) q.2.2.1, xN.same (u := U) (U := U.calling g mk a) rfl q.2.2.2⟩, va_recv hK hPx (ci := 7) (q0 := 0) rfl rfl, fun U hU hW => ⟨rfl, by rw [hU]; exact hPx, va_K.moved hW.alike hK, xN.warm hW hN⟩⟩ rfl rfl hl.1 rfl (lv_room (Nat.le_of_ble_eq_true rfl)) dL_law_488 ⟨(by show 28 + N + 0 ≤ 600000; omega), (by show 351 + 6 * N + 0 ≤ 7302250; omega)⟩)) (fun r1 hr1 => ?_)
  refine lv_aload_n hx hb dL_law_491 rfl (lv_at hl 1 rfl) ?_
  refine lv_aload_n hx hb dL_law_492 rfl (lv_at hl 3 rfl) ?_
  refine lv_iload_n hx hb dL_law_493 rfl (lv_at hl 0 rfl) ?_
  refine lv_iconst (v := nI (1)) hx hb dL_law_494 (by decide +kernel) ?_
  refine lv_iadd hx hb dL_law_495 ?_
  refine tq (nI_add (5 * N) (1)) ?_
  refine va_sld hx hb hX hbl hbA hS (vp_in_nI (show 5 * N + 1 < L by omega) (by omega)) dL_law_496 ?_
  have hPm := va_P_l hP
  have hDm := va_D_l hD
  refine vp_callSi (va_Run.run (va_runV (As := [.int (xs (nI (5 * N + 1)).toNatClampNeg)]) (rest := [.int r1]) ⟨hx, hb, hml, hown, htl⟩ (c8_inkOf l dC dI cI a' o' f' g' h' R.2.2.1.2.2.1 R.2.2.1.1 (xs (nI (5 * N + 1)).toNatClampNeg)) (cwV 1 htl gL_law_X8_inkOf rfl rfl rfl (by decide +kernel) ⟨Nat.le_of_ble_eq_true rfl, Nat.le_of_ble_eq_true rfl⟩) ⟨fun a U g mk q => ⟨q.1, q.2.1, va_K.moved (u := U) (U := U.calling g mk a) (Vm.Alike.refl U.vm) q.2.2⟩, va_recv hKm hPm (ci := 8) (q0 := 0) rfl rfl, fun U hU hW => ⟨rfl, by rw [hU]; exact hPm, va_K.moved hW.alike hKm⟩⟩ rfl rfl hl.1 rfl (lv_room (Nat.le_of_ble_eq_true rfl)) dL_law_497 ⟨(by show 28 + N + 0 + 0 ≤ 600000; omega), (by show 351 + 6 * N + 0 + 0 ≤ 7302250; omega)⟩)) (fun r2 hr2 => ?_)
  have hq : r1 = r2 ∧ RS (N + 1) (f, g, pa, t9, n, pd, pk, pv) (f', g', h') := ⟨by rw [hr1, hr2]; exact p_inkOf R (xs (nI (5 * N + 1)).toNatClampNeg), R.rs1⟩
  refine lv_icmp_eq (tgt := 838) hx hb dL_law_500 (by decide) (fun c_9 => ?_) (fun c_9 => absurd hq.1 c_9)
  refine W.widen (k := 28 + (N + 1)) (n := 351 + 6 * (N + 1)) (by omega) (by omega) ?_
  exact K (f, g, pa, t9, n, pd, pk, pv) (f', g', h') H _ ls hq.2 hP hD hS hl
set_option maxHeartbeats 2000000 in
set_option maxRecDepth 100000 in
theorem lc_word {p : Program} {l : Launch} {e : Env} {s : State} {m : MethodId} {below : List Frame} {meth : Method} {c : Code} {b L : Nat} {xs : Nat → Int32} (C0 : lwC p s m meth c b L xs) {dC : Nat → ClassId} {dI : Nat → Nat → Nat} {cI cP : ClassId} {a : Nat} {o : Nat → Nat} {a' : Nat} {o' : Nat → Nat} (hK : va_K (dC, dI) vwCl [(cI, .int), (cP, .object RX4)] s) (hN : xN s) {N : Nat} (hNL : 5 * N + 5 ≤ L) {k1 n k8 cn9 q d : Nat} {f : Nat → Int32} {g : Nat → Nat → Int32} {pa : Nat → Option Nat} {t9 : Nat → Nat → Int32} {pd pk : Nat → Nat} {pv : Nat → Nat → Int32} {f' : Nat → Int32} {g' : Nat → Nat → Int32} {h' : Int64} (R : RR N k1 n k8 cn9 q d f g pa pd pk pv f' g') {H : Heap} {locs : List Loc} {ls : Array Slot} (hP : va_P (dC, dI) vwCl (mW cI a' o' f' g' h' ++ xW cI cP a o f g pa t9 n pd pk pv) H) (hD : va_D (fun q : Nat => s.heap.size ≤ q) (mW cI a' o' f' g' h' ++ xW cI cP a o f g pa t9 n pd pk pv)) (hS : va_S (fun q : Nat => s.heap.size ≤ q) s.heap H locs) (hl : lv_has ls 4 (lwL N b a a')) (K : lwK p l e s m b below meth c dC dI cI cP a o a' o' N) : W p l e room_1 s m #[Value.ref b] below meth c H locs (28 + N) (351 + 6 * N) (lw_Z below #[Value.ref b] s) (F0 m 505 ls []) := by
  obtain ⟨hx, hb, hml, hown, htl, hX, hbl, hL⟩ := id C0
  have hA : ∀ q : Nat, s.heap.size ≤ q → (fun q : Nat => s.heap.size ≤ q) q := fun _ h => h
  have hbA : ¬ (fun q : Nat => s.heap.size ≤ q) b := Nat.not_le.mpr hbl
  have hl : lv_has ls 4 [(3, .int (nI (5 * N))), (2, .ref a'), (1, .ref a), (0, .ref b)] := hl
  have hPp := R.2.2.2.2.1
  have hCn := R.2.2.2.1
  have hKm := hK.sub (tys' := [(cI, .int)]) [0] rfl
  refine lv_aload_n hx hb dL_law_505 rfl (lv_at hl 2 rfl) ?_
  refine lv_aload_n hx hb dL_law_506 rfl (lv_at hl 3 rfl) ?_
  refine lv_iload_n hx hb dL_law_507 rfl (lv_at hl 0 rfl) ?_
  refine lv_iconst (v := nI (1)) hx hb dL_law_508 (by decide +kernel) ?_
  refine lv_iadd hx hb dL_law_509 ?_
  refine tq (nI_add (5 * N) (1)) ?_
  refine va_sld hx hb hX hbl hbA hS (vp_in_nI (show 5 * N + 1 < L by omega) (by omega)) dL_law_510 ?_
  have hPx := va_P_r hP
  have hDx := va_D_r hD
  have hFx := va_Af hDx hS hA
  refine va_calli (va_runV (As := [.int (xs (nI (5 * N + 1)).toNatClampNeg)]) (rest := []) ⟨hx, hb, hml, hown, htl⟩ (c7_word l dC dI cI cP a o f g pa t9 n pd pk pv H.size hPp.2.1 hPp.1 (fun i hi => (hPp.2.2.2 i hi).1) (fun i hi => (hPp.2.2.2 i hi).2.1) R.1.2.1 R.1.1 (xs (nI (5 * N + 1)).toNatClampNeg)) (cwV 1 htl gL_law_X7_word rfl rfl rfl (by decide +kernel) ⟨Nat.le_of_ble_eq_true rfl, Nat.le_of_ble_eq_true rfl⟩) ⟨fun a U g mk q => by obtain ⟨q0, q1, qP, qK, qN, qD⟩ := q; exact ⟨q0, q1, qP, va_K.moved (u := U) (U := U.calling g mk a) (Vm.Alike.refl U.vm) qK, xN.same (u := U) (U := U.calling g mk a) rfl qN, qD⟩, va_recv hK hPx (ci := 7) (q0 := 0) rfl rfl, fun U hU hW => ⟨rfl, by rw [hU], by rw [hU]; exact hPx, va_K.moved hW.alike hK, xN.warm hW hN, hDx.weaken (fun _ _ _ _ => trivial)⟩⟩ rfl rfl hl.1 rfl (lv_room (Nat.le_of_ble_eq_true rfl)) dL_law_511 ⟨(by show 28 + N + 0 ≤ 600000; omega), (by show 351 + 6 * N + 0 ≤ 7302250; omega)⟩) hS (fun q _ h => hFx q h) hFx (fun r1 u t H1 locs ht hvm hw hB hz1 hk1 hS => ?_)
  obtain ⟨hP1, hK1, hD1⟩ := hB
  rw [ht] at hP1
  obtain ⟨hP, hD⟩ := jr hP hD hk1 hFx hP1 hD1
  clear hP1 hD1 hK1 hPx hDx hFx hk1 hz1
  generalize H1 = H at hP hS ⊢
  refine lv_aload_n hx hb dL_law_514 rfl (lv_at hl 1 rfl) ?_
  refine lv_aload_n hx hb dL_law_515 rfl (lv_at hl 3 rfl) ?_
  refine lv_iload_n hx hb dL_law_516 rfl (lv_at hl 0 rfl) ?_
  refine lv_iconst (v := nI (1)) hx hb dL_law_517 (by decide +kernel) ?_
  refine lv_iadd hx hb dL_law_518 ?_
  refine tq (nI_add (5 * N) (1)) ?_
  refine va_sld hx hb hX hbl hbA hS (vp_in_nI (show 5 * N + 1 < L by omega) (by omega)) dL_law_519 ?_
  have hPm := va_P_l hP
  have hDm := va_D_l hD
  have hFm := va_Af hDm hS hA
  refine va_calli (va_runV (As := [.int (xs (nI (5 * N + 1)).toNatClampNeg)]) (rest := [.int r1]) ⟨hx, hb, hml, hown, htl⟩ (c8_word l dC dI cI a' o' f' g' h' H.size R.1.2.2.1 R.1.1 hPp.2.2.1 hPp.1 (xs (nI (5 * N + 1)).toNatClampNeg)) (cwV 1 htl gL_law_X8_word rfl rfl rfl (by decide +kernel) ⟨Nat.le_of_ble_eq_true rfl, Nat.le_of_ble_eq_true rfl⟩) ⟨fun a U g mk q => by obtain ⟨q0, q1, qP, qK, qD⟩ := q; exact ⟨q0, q1, qP, va_K.moved (u := U) (U := U.calling g mk a) (Vm.Alike.refl U.vm) qK, qD⟩, va_recv hKm hPm (ci := 8) (q0 := 0) rfl rfl, fun U hU hW => ⟨rfl, by rw [hU], by rw [hU]; exact hPm, va_K.moved hW.alike hKm, hDm.weaken (fun _ _ _ _ => trivial)⟩⟩ rfl rfl hl.1 rfl (lv_room (Nat.le_of_ble_eq_true rfl)) dL_law_520 ⟨(by show 28 + N + 0 + 0 ≤ 600000; omega), (by show 351 + 6 * N + 0 + 0 ≤ 7302250; omega)⟩) hS (fun q _ h => hFm q h) hFm (fun r2 v t H1 locs ht hvm hwm hB hz1 hk1 hS => ?_)
  obtain ⟨hP1, hK1, hD1⟩ := hB
  rw [ht] at hP1
  obtain ⟨hP, hD⟩ := jl hP hD hk1 hFm hP1 hD1
  clear hP1 hD1 hK1 hPm hDm hFm hk1 hz1
  generalize H1 = H at hP hS ⊢
  have hq := p_word (tq := t9) (h' := h') R (xs (nI (5 * N + 1)).toNatClampNeg)
  rw [← hw, ← hwm] at hq
  have hq : r1 = r2 ∧ RS (N + 1) u v := hq
  refine lv_icmp_eq (tgt := 838) hx hb dL_law_523 (by decide) (fun c_9 => ?_) (fun c_9 => absurd hq.1 c_9)
  refine W.widen (k := 28 + (N + 1)) (n := 351 + 6 * (N + 1)) (by omega) (by omega) ?_
  exact K u v H _ ls hq.2 hP hD hS hl
set_option maxHeartbeats 2000000 in
set_option maxRecDepth 100000 in
theorem lc_unword {p : Program} {l : Launch} {e : Env} {s : State} {m : MethodId} {below : List Frame} {meth : Method} {c : Code} {b L : Nat} {xs : Nat → Int32} (C0 : lwC p s m meth c b L xs) {dC : Nat → ClassId} {dI : Nat → Nat → Nat} {cI cP : ClassId} {a : Nat} {o : Nat → Nat} {a' : Nat} {o' : Nat → Nat} (hK : va_K (dC, dI) vwCl [(cI, .int), (cP, .object RX4)] s) (hN : xN s) {N : Nat} (hNL : 5 * N + 5 ≤ L) {k1 n k8 cn9 q d : Nat} {f : Nat → Int32} {g : Nat → Nat → Int32} {pa : Nat → Option Nat} {t9 : Nat → Nat → Int32} {pd pk : Nat → Nat} {pv : Nat → Nat → Int32} {f' : Nat → Int32} {g' : Nat → Nat → Int32} {h' : Int64} (R : RR N k1 n k8 cn9 q d f g pa pd pk pv f' g') {H : Heap} {locs : List Loc} {ls : Array Slot} (hP : va_P (dC, dI) vwCl (mW cI a' o' f' g' h' ++ xW cI cP a o f g pa t9 n pd pk pv) H) (hD : va_D (fun q : Nat => s.heap.size ≤ q) (mW cI a' o' f' g' h' ++ xW cI cP a o f g pa t9 n pd pk pv)) (hS : va_S (fun q : Nat => s.heap.size ≤ q) s.heap H locs) (hl : lv_has ls 4 (lwL N b a a')) (K : lwK p l e s m b below meth c dC dI cI cP a o a' o' N) : W p l e room_1 s m #[Value.ref b] below meth c H locs (28 + N) (351 + 6 * N) (lw_Z below #[Value.ref b] s) (F0 m 528 ls []) := by
  obtain ⟨hx, hb, hml, hown, htl, hX, hbl, hL⟩ := id C0
  have hA : ∀ q : Nat, s.heap.size ≤ q → (fun q : Nat => s.heap.size ≤ q) q := fun _ h => h
  have hbA : ¬ (fun q : Nat => s.heap.size ≤ q) b := Nat.not_le.mpr hbl
  have hl : lv_has ls 4 [(3, .int (nI (5 * N))), (2, .ref a'), (1, .ref a), (0, .ref b)] := hl
  have hPp := R.2.2.2.2.1
  have hCn := R.2.2.2.1
  have hKm := hK.sub (tys' := [(cI, .int)]) [0] rfl
  refine lv_aload_n hx hb dL_law_528 rfl (lv_at hl 2 rfl) ?_
  refine lv_aload_n hx hb dL_law_529 rfl (lv_at hl 3 rfl) ?_
  refine lv_iload_n hx hb dL_law_530 rfl (lv_at hl 0 rfl) ?_
  refine lv_iconst (v := nI (1)) hx hb dL_law_531 (by decide +kernel) ?_
  refine lv_iadd hx hb dL_law_532 ?_
  refine tq (nI_add (5 * N) (1)) ?_
  refine va_sld hx hb hX hbl hbA hS (vp_in_nI (show 5 * N + 1 < L by omega) (by omega)) dL_law_533 ?_
  have hPx := va_P_r hP
  have hDx := va_D_r hD
  have hFx := va_Af hDx hS hA
  refine va_calli (va_runV (As := [.int (xs (nI (5 * N + 1)).toNatClampNeg)]) (rest := []) ⟨hx, hb, hml, hown, htl⟩ (c7_unword l dC dI cI cP a o f g pa t9 n pd pk pv H.size hPp.2.1 hPp.1 (fun i hi => (hPp.2.2.2 i hi).1) (fun i hi => (hPp.2.2.2 i hi).2.1) (xs (nI (5 * N + 1)).toNatClampNeg)) (cwV 1 htl gL_law_X7_unword rfl rfl rfl (by decide +kernel) ⟨Nat.le_of_ble_eq_true rfl, Nat.le_of_ble_eq_true rfl⟩) ⟨fun a U g mk q => by obtain ⟨q0, q1, qP, qK, qN, qD⟩ := q; exact ⟨q0, q1, qP, va_K.moved (u := U) (U := U.calling g mk a) (Vm.Alike.refl U.vm) qK, xN.same (u := U) (U := U.calling g mk a) rfl qN, qD⟩, va_recv hK hPx (ci := 7) (q0 := 0) rfl rfl, fun U hU hW => ⟨rfl, by rw [hU], by rw [hU]; exact hPx, va_K.moved hW.alike hK, xN.warm hW hN, hDx.weaken (fun _ _ _ _ => trivial)⟩⟩ rfl rfl hl.1 rfl (lv_room (Nat.le_of_ble_eq_true rfl)) dL_law_534 ⟨(by show 28 + N + 0 ≤ 600000; omega), (by show 351 + 6 * N + 0 ≤ 7302250; omega)⟩) hS (fun q _ h => hFx q h) hFx (fun r1 u t H1 locs ht hvm hw hB hz1 hk1 hS => ?_)
  obtain ⟨hP1, hK1, hD1⟩ := hB
  rw [ht] at hP1
  obtain ⟨hP, hD⟩ := jr hP hD hk1 hFx hP1 hD1
  clear hP1 hD1 hK1 hPx hDx hFx hk1 hz1
  generalize H1 = H at hP hS ⊢
  refine lv_aload_n hx hb dL_law_537 rfl (lv_at hl 1 rfl) ?_
  refine lv_aload_n hx hb dL_law_538 rfl (lv_at hl 3 rfl) ?_
  refine lv_iload_n hx hb dL_law_539 rfl (lv_at hl 0 rfl) ?_
  refine lv_iconst (v := nI (1)) hx hb dL_law_540 (by decide +kernel) ?_
  refine lv_iadd hx hb dL_law_541 ?_
  refine tq (nI_add (5 * N) (1)) ?_
  refine va_sld hx hb hX hbl hbA hS (vp_in_nI (show 5 * N + 1 < L by omega) (by omega)) dL_law_542 ?_
  have hPm := va_P_l hP
  have hDm := va_D_l hD
  have hFm := va_Af hDm hS hA
  refine va_calli (va_runV (As := [.int (xs (nI (5 * N + 1)).toNatClampNeg)]) (rest := [.int r1]) ⟨hx, hb, hml, hown, htl⟩ (c8_unword l dC dI cI a' o' f' g' h' H.size hPp.2.2.1 hPp.1 (xs (nI (5 * N + 1)).toNatClampNeg)) (cwV 1 htl gL_law_X8_unword rfl rfl rfl (by decide +kernel) ⟨Nat.le_of_ble_eq_true rfl, Nat.le_of_ble_eq_true rfl⟩) ⟨fun a U g mk q => by obtain ⟨q0, q1, qP, qK, qD⟩ := q; exact ⟨q0, q1, qP, va_K.moved (u := U) (U := U.calling g mk a) (Vm.Alike.refl U.vm) qK, qD⟩, va_recv hKm hPm (ci := 8) (q0 := 0) rfl rfl, fun U hU hW => ⟨rfl, by rw [hU], by rw [hU]; exact hPm, va_K.moved hW.alike hKm, hDm.weaken (fun _ _ _ _ => trivial)⟩⟩ rfl rfl hl.1 rfl (lv_room (Nat.le_of_ble_eq_true rfl)) dL_law_543 ⟨(by show 28 + N + 0 + 0 ≤ 600000; omega), (by show 351 + 6 * N + 0 + 0 ≤ 7302250; omega)⟩) hS (fun q _ h => hFm q h) hFm (fun r2 v t H1 locs ht hvm hwm hB hz1 hk1 hS => ?_)
  obtain ⟨hP1, hK1, hD1⟩ := hB
  rw [ht] at hP1
  obtain ⟨hP, hD⟩ := jl hP hD hk1 hFm hP1 hD1
  clear hP1 hD1 hK1 hPm hDm hFm hk1 hz1
  generalize H1 = H at hP hS ⊢
  have hq : ((((xUnword pv n (xs (nI (5 * N + 1)).toNatClampNeg)).1, f, g, pa, t9, n, pd, pk, (xUnword pv n (xs (nI (5 * N + 1)).toNatClampNeg)).2) : Int32 × XSt)).1 = (mUnword f' g' h' n (xs (nI (5 * N + 1)).toNatClampNeg)).1 ∧ RS (N + 1) ((((xUnword pv n (xs (nI (5 * N + 1)).toNatClampNeg)).1, f, g, pa, t9, n, pd, pk, (xUnword pv n (xs (nI (5 * N + 1)).toNatClampNeg)).2) : Int32 × XSt)).2 (mUnword f' g' h' n (xs (nI (5 * N + 1)).toNatClampNeg)).2 := p_unword R (xs (nI (5 * N + 1)).toNatClampNeg)
  rw [← hw, ← hwm] at hq
  have hq : r1 = r2 ∧ RS (N + 1) u v := hq
  refine lv_icmp_eq (tgt := 838) hx hb dL_law_546 (by decide) (fun c_9 => ?_) (fun c_9 => absurd hq.1 c_9)
  refine W.widen (k := 28 + (N + 1)) (n := 351 + 6 * (N + 1)) (by omega) (by omega) ?_
  exact K u v H _ ls hq.2 hP hD hS hl
set_option maxHeartbeats 2000000 in
set_option maxRecDepth 100000 in
theorem lc_differ {p : Program} {l : Launch} {e : Env} {s : State} {m : MethodId} {below : List Frame} {meth : Method} {c : Code} {b L : Nat} {xs : Nat → Int32} (C0 : lwC p s m meth c b L xs) {dC : Nat → ClassId} {dI : Nat → Nat → Nat} {cI cP : ClassId} {a : Nat} {o : Nat → Nat} {a' : Nat} {o' : Nat → Nat} (hK : va_K (dC, dI) vwCl [(cI, .int), (cP, .object RX4)] s) (hN : xN s) {N : Nat} (hNL : 5 * N + 5 ≤ L) {k1 n k8 cn9 q d : Nat} {f : Nat → Int32} {g : Nat → Nat → Int32} {pa : Nat → Option Nat} {t9 : Nat → Nat → Int32} {pd pk : Nat → Nat} {pv : Nat → Nat → Int32} {f' : Nat → Int32} {g' : Nat → Nat → Int32} {h' : Int64} (R : RR N k1 n k8 cn9 q d f g pa pd pk pv f' g') {H : Heap} {locs : List Loc} {ls : Array Slot} (hP : va_P (dC, dI) vwCl (mW cI a' o' f' g' h' ++ xW cI cP a o f g pa t9 n pd pk pv) H) (hD : va_D (fun q : Nat => s.heap.size ≤ q) (mW cI a' o' f' g' h' ++ xW cI cP a o f g pa t9 n pd pk pv)) (hS : va_S (fun q : Nat => s.heap.size ≤ q) s.heap H locs) (hl : lv_has ls 4 (lwL N b a a')) (K : lwK p l e s m b below meth c dC dI cI cP a o a' o' N) : W p l e room_1 s m #[Value.ref b] below meth c H locs (28 + N) (351 + 6 * N) (lw_Z below #[Value.ref b] s) (F0 m 551 ls []) := by
  obtain ⟨hx, hb, hml, hown, htl, hX, hbl, hL⟩ := id C0
  have hA : ∀ q : Nat, s.heap.size ≤ q → (fun q : Nat => s.heap.size ≤ q) q := fun _ h => h
  have hbA : ¬ (fun q : Nat => s.heap.size ≤ q) b := Nat.not_le.mpr hbl
  have hl : lv_has ls 4 [(3, .int (nI (5 * N))), (2, .ref a'), (1, .ref a), (0, .ref b)] := hl
  have hPp := R.2.2.2.2.1
  have hCn := R.2.2.2.1
  have hKm := hK.sub (tys' := [(cI, .int)]) [0] rfl
  refine lv_aload_n hx hb dL_law_551 rfl (lv_at hl 2 rfl) ?_
  refine lv_aload_n hx hb dL_law_552 rfl (lv_at hl 3 rfl) ?_
  refine lv_iload_n hx hb dL_law_553 rfl (lv_at hl 0 rfl) ?_
  refine lv_iconst (v := nI (1)) hx hb dL_law_554 (by decide +kernel) ?_
  refine lv_iadd hx hb dL_law_555 ?_
  refine tq (nI_add (5 * N) (1)) ?_
  refine va_sld hx hb hX hbl hbA hS (vp_in_nI (show 5 * N + 1 < L by omega) (by omega)) dL_law_556 ?_
  refine lv_aload_n hx hb dL_law_557 rfl (lv_at hl 3 rfl) ?_
  refine lv_iload_n hx hb dL_law_558 rfl (lv_at hl 0 rfl) ?_
  refine lv_iconst (v := nI (2)) hx hb dL_law_559 (by decide +kernel) ?_
  refine lv_iadd hx hb dL_law_560 ?_
  refine tq (nI_add (5 * N) (2)) ?_
  refine va_sld hx hb hX hbl hbA hS (vp_in_nI (show 5 * N + 2 < L by omega) (by omega)) dL_law_561 ?_
  have hPx := va_P_r hP
  have hDx := va_D_r hD
  refine vp_callSi (va_Run.run (va_runV (As := [.int (xs (nI (5 * N + 1)).toNatClampNeg), .int (xs (nI (5 * N + 2)).toNatClampNeg)]) (rest := []) ⟨hx, hb, hml, hown, htl⟩ (c7_differ l dC dI cI cP a o f g pa t9 n pd pk pv hPp.2.1 hPp.1 (fun i hi => (hPp.2.2.2 i hi).1) (fun i hi => (hPp.2.2.2 i hi).2.1) (xs (nI (5 * N + 1)).toNatClampNeg) (xs (nI (5 * N + 2)).toNatClampNeg)) (cwV 2 htl gL_law_X7_differ rfl rfl rfl (by decide +kernel) ⟨Nat.le_of_ble_eq_true rfl, Nat.le_of_ble_eq_true rfl⟩) ⟨fun a U g mk q => ⟨q.1, q.2.1, va_K.moved (u := U) (U := U.calling g mk a) (Vm.Alike.refl U.vm) q.2.2.1, xN.same (u := U) (U := U.calling g mk a) rfl q.2.2.2⟩, va_recv hK hPx (ci := 7) (q0 := 0) rfl rfl, fun U hU hW => ⟨rfl, by rw [hU]; exact hPx, va_K.moved hW.alike hK, xN.warm hW hN⟩⟩ rfl rfl hl.1 rfl (lv_room (Nat.le_of_ble_eq_true rfl)) dL_law_562 ⟨(by show 28 + N + 0 ≤ 600000; omega), (by show 351 + 6 * N + 0 ≤ 7302250; omega)⟩)) (fun r1 hr1 => ?_)
  refine lv_aload_n hx hb dL_law_565 rfl (lv_at hl 1 rfl) ?_
  refine lv_aload_n hx hb dL_law_566 rfl (lv_at hl 3 rfl) ?_
  refine lv_iload_n hx hb dL_law_567 rfl (lv_at hl 0 rfl) ?_
  refine lv_iconst (v := nI (1)) hx hb dL_law_568 (by decide +kernel) ?_
  refine lv_iadd hx hb dL_law_569 ?_
  refine tq (nI_add (5 * N) (1)) ?_
  refine va_sld hx hb hX hbl hbA hS (vp_in_nI (show 5 * N + 1 < L by omega) (by omega)) dL_law_570 ?_
  refine lv_aload_n hx hb dL_law_571 rfl (lv_at hl 3 rfl) ?_
  refine lv_iload_n hx hb dL_law_572 rfl (lv_at hl 0 rfl) ?_
  refine lv_iconst (v := nI (2)) hx hb dL_law_573 (by decide +kernel) ?_
  refine lv_iadd hx hb dL_law_574 ?_
  refine tq (nI_add (5 * N) (2)) ?_
  refine va_sld hx hb hX hbl hbA hS (vp_in_nI (show 5 * N + 2 < L by omega) (by omega)) dL_law_575 ?_
  have hPm := va_P_l hP
  have hDm := va_D_l hD
  refine vp_callSi (va_Run.run (va_runV (As := [.int (xs (nI (5 * N + 1)).toNatClampNeg), .int (xs (nI (5 * N + 2)).toNatClampNeg)]) (rest := [.int r1]) ⟨hx, hb, hml, hown, htl⟩ (c8_differ l dC dI cI a' o' f' g' h' hPp.2.2.1 hPp.1 (xs (nI (5 * N + 1)).toNatClampNeg) (xs (nI (5 * N + 2)).toNatClampNeg)) (cwV 2 htl gL_law_X8_differ rfl rfl rfl (by decide +kernel) ⟨Nat.le_of_ble_eq_true rfl, Nat.le_of_ble_eq_true rfl⟩) ⟨fun a U g mk q => ⟨q.1, q.2.1, va_K.moved (u := U) (U := U.calling g mk a) (Vm.Alike.refl U.vm) q.2.2⟩, va_recv hKm hPm (ci := 8) (q0 := 0) rfl rfl, fun U hU hW => ⟨rfl, by rw [hU]; exact hPm, va_K.moved hW.alike hKm⟩⟩ rfl rfl hl.1 rfl (lv_room (Nat.le_of_ble_eq_true rfl)) dL_law_576 ⟨(by show 28 + N + 0 + 0 ≤ 600000; omega), (by show 351 + 6 * N + 0 + 0 ≤ 7302250; omega)⟩)) (fun r2 hr2 => ?_)
  have hq : r1 = r2 ∧ RS (N + 1) (f, g, pa, t9, n, pd, pk, pv) (f', g', h') := ⟨by rw [hr1, hr2]; exact p_differ R (xs (nI (5 * N + 1)).toNatClampNeg) (xs (nI (5 * N + 2)).toNatClampNeg), R.rs1⟩
  refine lv_icmp_eq (tgt := 838) hx hb dL_law_579 (by decide) (fun c_9 => ?_) (fun c_9 => absurd hq.1 c_9)
  refine W.widen (k := 28 + (N + 1)) (n := 351 + 6 * (N + 1)) (by omega) (by omega) ?_
  exact K (f, g, pa, t9, n, pd, pk, pv) (f', g', h') H _ ls hq.2 hP hD hS hl
set_option maxHeartbeats 2000000 in
set_option maxRecDepth 100000 in
theorem lc_alike {p : Program} {l : Launch} {e : Env} {s : State} {m : MethodId} {below : List Frame} {meth : Method} {c : Code} {b L : Nat} {xs : Nat → Int32} (C0 : lwC p s m meth c b L xs) {dC : Nat → ClassId} {dI : Nat → Nat → Nat} {cI cP : ClassId} {a : Nat} {o : Nat → Nat} {a' : Nat} {o' : Nat → Nat} (hK : va_K (dC, dI) vwCl [(cI, .int), (cP, .object RX4)] s) (hN : xN s) {N : Nat} (hNL : 5 * N + 5 ≤ L) {k1 n k8 cn9 q d : Nat} {f : Nat → Int32} {g : Nat → Nat → Int32} {pa : Nat → Option Nat} {t9 : Nat → Nat → Int32} {pd pk : Nat → Nat} {pv : Nat → Nat → Int32} {f' : Nat → Int32} {g' : Nat → Nat → Int32} {h' : Int64} (R : RR N k1 n k8 cn9 q d f g pa pd pk pv f' g') {H : Heap} {locs : List Loc} {ls : Array Slot} (hP : va_P (dC, dI) vwCl (mW cI a' o' f' g' h' ++ xW cI cP a o f g pa t9 n pd pk pv) H) (hD : va_D (fun q : Nat => s.heap.size ≤ q) (mW cI a' o' f' g' h' ++ xW cI cP a o f g pa t9 n pd pk pv)) (hS : va_S (fun q : Nat => s.heap.size ≤ q) s.heap H locs) (hl : lv_has ls 4 (lwL N b a a')) (K : lwK p l e s m b below meth c dC dI cI cP a o a' o' N) : W p l e room_1 s m #[Value.ref b] below meth c H locs (28 + N) (351 + 6 * N) (lw_Z below #[Value.ref b] s) (F0 m 584 ls []) := by
  obtain ⟨hx, hb, hml, hown, htl, hX, hbl, hL⟩ := id C0
  have hA : ∀ q : Nat, s.heap.size ≤ q → (fun q : Nat => s.heap.size ≤ q) q := fun _ h => h
  have hbA : ¬ (fun q : Nat => s.heap.size ≤ q) b := Nat.not_le.mpr hbl
  have hl : lv_has ls 4 [(3, .int (nI (5 * N))), (2, .ref a'), (1, .ref a), (0, .ref b)] := hl
  have hPp := R.2.2.2.2.1
  have hCn := R.2.2.2.1
  have hKm := hK.sub (tys' := [(cI, .int)]) [0] rfl
  refine lv_aload_n hx hb dL_law_584 rfl (lv_at hl 2 rfl) ?_
  refine lv_aload_n hx hb dL_law_585 rfl (lv_at hl 3 rfl) ?_
  refine lv_iload_n hx hb dL_law_586 rfl (lv_at hl 0 rfl) ?_
  refine lv_iconst (v := nI (1)) hx hb dL_law_587 (by decide +kernel) ?_
  refine lv_iadd hx hb dL_law_588 ?_
  refine tq (nI_add (5 * N) (1)) ?_
  refine va_sld hx hb hX hbl hbA hS (vp_in_nI (show 5 * N + 1 < L by omega) (by omega)) dL_law_589 ?_
  refine lv_aload_n hx hb dL_law_590 rfl (lv_at hl 3 rfl) ?_
  refine lv_iload_n hx hb dL_law_591 rfl (lv_at hl 0 rfl) ?_
  refine lv_iconst (v := nI (2)) hx hb dL_law_592 (by decide +kernel) ?_
  refine lv_iadd hx hb dL_law_593 ?_
  refine tq (nI_add (5 * N) (2)) ?_
  refine va_sld hx hb hX hbl hbA hS (vp_in_nI (show 5 * N + 2 < L by omega) (by omega)) dL_law_594 ?_
  have hPx := va_P_r hP
  have hDx := va_D_r hD
  refine vp_callSi (va_Run.run (va_runV (As := [.int (xs (nI (5 * N + 1)).toNatClampNeg), .int (xs (nI (5 * N + 2)).toNatClampNeg)]) (rest := []) ⟨hx, hb, hml, hown, htl⟩ (c7_alike l dC dI cI cP a o f g pa t9 n pd pk pv hPp.2.1 hPp.1 (fun i hi => (hPp.2.2.2 i hi).1) (fun i hi => (hPp.2.2.2 i hi).2.1) (xs (nI (5 * N + 1)).toNatClampNeg) (xs (nI (5 * N + 2)).toNatClampNeg)) (cwV 2 htl gL_law_X7_alike rfl rfl rfl (by decide +kernel) ⟨Nat.le_of_ble_eq_true rfl, Nat.le_of_ble_eq_true rfl⟩) ⟨fun a U g mk q => ⟨q.1, q.2.1, va_K.moved (u := U) (U := U.calling g mk a) (Vm.Alike.refl U.vm) q.2.2.1, xN.same (u := U) (U := U.calling g mk a) rfl q.2.2.2⟩, va_recv hK hPx (ci := 7) (q0 := 0) rfl rfl, fun U hU hW => ⟨rfl, by rw [hU]; exact hPx, va_K.moved hW.alike hK, xN.warm hW hN⟩⟩ rfl rfl hl.1 rfl (lv_room (Nat.le_of_ble_eq_true rfl)) dL_law_595 ⟨(by show 28 + N + 0 ≤ 600000; omega), (by show 351 + 6 * N + 0 ≤ 7302250; omega)⟩)) (fun r1 hr1 => ?_)
  refine lv_aload_n hx hb dL_law_598 rfl (lv_at hl 1 rfl) ?_
  refine lv_aload_n hx hb dL_law_599 rfl (lv_at hl 3 rfl) ?_
  refine lv_iload_n hx hb dL_law_600 rfl (lv_at hl 0 rfl) ?_
  refine lv_iconst (v := nI (1)) hx hb dL_law_601 (by decide +kernel) ?_
  refine lv_iadd hx hb dL_law_602 ?_
  refine tq (nI_add (5 * N) (1)) ?_
  refine va_sld hx hb hX hbl hbA hS (vp_in_nI (show 5 * N + 1 < L by omega) (by omega)) dL_law_603 ?_
  refine lv_aload_n hx hb dL_law_604 rfl (lv_at hl 3 rfl) ?_
  refine lv_iload_n hx hb dL_law_605 rfl (lv_at hl 0 rfl) ?_
  refine lv_iconst (v := nI (2)) hx hb dL_law_606 (by decide +kernel) ?_
  refine lv_iadd hx hb dL_law_607 ?_
  refine tq (nI_add (5 * N) (2)) ?_
  refine va_sld hx hb hX hbl hbA hS (vp_in_nI (show 5 * N + 2 < L by omega) (by omega)) dL_law_608 ?_
  have hPm := va_P_l hP
  have hDm := va_D_l hD
  refine vp_callSi (va_Run.run (va_runV (As := [.int (xs (nI (5 * N + 1)).toNatClampNeg), .int (xs (nI (5 * N + 2)).toNatClampNeg)]) (rest := [.int r1]) ⟨hx, hb, hml, hown, htl⟩ (c8_alike l dC dI cI a' o' f' g' h' hPp.2.2.1 hPp.1 (xs (nI (5 * N + 1)).toNatClampNeg) (xs (nI (5 * N + 2)).toNatClampNeg)) (cwV 2 htl gL_law_X8_alike rfl rfl rfl (by decide +kernel) ⟨Nat.le_of_ble_eq_true rfl, Nat.le_of_ble_eq_true rfl⟩) ⟨fun a U g mk q => ⟨q.1, q.2.1, va_K.moved (u := U) (U := U.calling g mk a) (Vm.Alike.refl U.vm) q.2.2⟩, va_recv hKm hPm (ci := 8) (q0 := 0) rfl rfl, fun U hU hW => ⟨rfl, by rw [hU]; exact hPm, va_K.moved hW.alike hKm⟩⟩ rfl rfl hl.1 rfl (lv_room (Nat.le_of_ble_eq_true rfl)) dL_law_609 ⟨(by show 28 + N + 0 + 0 ≤ 600000; omega), (by show 351 + 6 * N + 0 + 0 ≤ 7302250; omega)⟩)) (fun r2 hr2 => ?_)
  have hq : r1 = r2 ∧ RS (N + 1) (f, g, pa, t9, n, pd, pk, pv) (f', g', h') := ⟨by rw [hr1, hr2]; exact p_alike R (xs (nI (5 * N + 1)).toNatClampNeg) (xs (nI (5 * N + 2)).toNatClampNeg), R.rs1⟩
  refine lv_icmp_eq (tgt := 838) hx hb dL_law_612 (by decide) (fun c_9 => ?_) (fun c_9 => absurd hq.1 c_9)
  refine W.widen (k := 28 + (N + 1)) (n := 351 + 6 * (N + 1)) (by omega) (by omega) ?_
  exact K (f, g, pa, t9, n, pd, pk, pv) (f', g', h') H _ ls hq.2 hP hD hS hl
set_option maxHeartbeats 2000000 in
set_option maxRecDepth 100000 in
theorem lc_few {p : Program} {l : Launch} {e : Env} {s : State} {m : MethodId} {below : List Frame} {meth : Method} {c : Code} {b L : Nat} {xs : Nat → Int32} (C0 : lwC p s m meth c b L xs) {dC : Nat → ClassId} {dI : Nat → Nat → Nat} {cI cP : ClassId} {a : Nat} {o : Nat → Nat} {a' : Nat} {o' : Nat → Nat} (hK : va_K (dC, dI) vwCl [(cI, .int), (cP, .object RX4)] s) (hN : xN s) {N : Nat} (hNL : 5 * N + 5 ≤ L) {k1 n k8 cn9 q d : Nat} {f : Nat → Int32} {g : Nat → Nat → Int32} {pa : Nat → Option Nat} {t9 : Nat → Nat → Int32} {pd pk : Nat → Nat} {pv : Nat → Nat → Int32} {f' : Nat → Int32} {g' : Nat → Nat → Int32} {h' : Int64} (R : RR N k1 n k8 cn9 q d f g pa pd pk pv f' g') {H : Heap} {locs : List Loc} {ls : Array Slot} (hP : va_P (dC, dI) vwCl (mW cI a' o' f' g' h' ++ xW cI cP a o f g pa t9 n pd pk pv) H) (hD : va_D (fun q : Nat => s.heap.size ≤ q) (mW cI a' o' f' g' h' ++ xW cI cP a o f g pa t9 n pd pk pv)) (hS : va_S (fun q : Nat => s.heap.size ≤ q) s.heap H locs) (hl : lv_has ls 4 (lwL N b a a')) (K : lwK p l e s m b below meth c dC dI cI cP a o a' o' N) : W p l e room_1 s m #[Value.ref b] below meth c H locs (28 + N) (351 + 6 * N) (lw_Z below #[Value.ref b] s) (F0 m 617 ls []) := by
  obtain ⟨hx, hb, hml, hown, htl, hX, hbl, hL⟩ := id C0
  have hA : ∀ q : Nat, s.heap.size ≤ q → (fun q : Nat => s.heap.size ≤ q) q := fun _ h => h
  have hbA : ¬ (fun q : Nat => s.heap.size ≤ q) b := Nat.not_le.mpr hbl
  have hl : lv_has ls 4 [(3, .int (nI (5 * N))), (2, .ref a'), (1, .ref a), (0, .ref b)] := hl
  have hPp := R.2.2.2.2.1
  have hCn := R.2.2.2.1
  have hKm := hK.sub (tys' := [(cI, .int)]) [0] rfl
  refine lv_aload_n hx hb dL_law_617 rfl (lv_at hl 2 rfl) ?_
  refine lv_aload_n hx hb dL_law_618 rfl (lv_at hl 3 rfl) ?_
  refine lv_iload_n hx hb dL_law_619 rfl (lv_at hl 0 rfl) ?_
  refine lv_iconst (v := nI (1)) hx hb dL_law_620 (by decide +kernel) ?_
  refine lv_iadd hx hb dL_law_621 ?_
  refine tq (nI_add (5 * N) (1)) ?_
  refine va_sld hx hb hX hbl hbA hS (vp_in_nI (show 5 * N + 1 < L by omega) (by omega)) dL_law_622 ?_
  have hPx := va_P_r hP
  have hDx := va_D_r hD
  refine vp_callSi (va_Run.run (va_runV (As := [.int (xs (nI (5 * N + 1)).toNatClampNeg)]) (rest := []) ⟨hx, hb, hml, hown, htl⟩ (c7_few l dC dI cI cP a o f g pa t9 n pd pk pv hPp.2.1 hPp.1 (fun i hi => (hPp.2.2.2 i hi).1) (fun i hi => (hPp.2.2.2 i hi).2.1) R.2.2.1.2.1 R.2.2.1.1 (xs (nI (5 * N + 1)).toNatClampNeg)) (cwV 1 htl gL_law_X7_few rfl rfl rfl (by decide +kernel) ⟨Nat.le_of_ble_eq_true rfl, Nat.le_of_ble_eq_true rfl⟩) ⟨fun a U g mk q => ⟨q.1, q.2.1, va_K.moved (u := U) (U := U.calling g mk a) (Vm.Alike.refl U.vm) q.2.2.1, xN.same (u := U) (U := U.calling g mk a) rfl q.2.2.2⟩, va_recv hK hPx (ci := 7) (q0 := 0) rfl rfl, fun U hU hW => ⟨rfl, by rw [hU]; exact hPx, va_K.moved hW.alike hK, xN.warm hW hN⟩⟩ rfl rfl hl.1 rfl (lv_room (Nat.le_of_ble_eq_true rfl)) dL_law_623 ⟨(by show 28 + N + 0 ≤ 600000; omega), (by show 351 + 6 * N + 0 ≤ 7302250; omega)⟩)) (fun r1 hr1 => ?_)
  refine lv_aload_n hx hb dL_law_626 rfl (lv_at hl 1 rfl) ?_
  refine lv_aload_n hx hb dL_law_627 rfl (lv_at hl 3 rfl) ?_
  refine lv_iload_n hx hb dL_law_628 rfl (lv_at hl 0 rfl) ?_
  refine lv_iconst (v := nI (1)) hx hb dL_law_629 (by decide +kernel) ?_
  refine lv_iadd hx hb dL_law_630 ?_
  refine tq (nI_add (5 * N) (1)) ?_
  refine va_sld hx hb hX hbl hbA hS (vp_in_nI (show 5 * N + 1 < L by omega) (by omega)) dL_law_631 ?_
  have hPm := va_P_l hP
  have hDm := va_D_l hD
  refine vp_callSi (va_Run.run (va_runV (As := [.int (xs (nI (5 * N + 1)).toNatClampNeg)]) (rest := [.int r1]) ⟨hx, hb, hml, hown, htl⟩ (c8_few l dC dI cI a' o' f' g' h' hPp.2.2.1 hPp.1 R.2.2.1.2.2.1 R.2.2.1.1 (xs (nI (5 * N + 1)).toNatClampNeg)) (cwV 1 htl gL_law_X8_few rfl rfl rfl (by decide +kernel) ⟨Nat.le_of_ble_eq_true rfl, Nat.le_of_ble_eq_true rfl⟩) ⟨fun a U g mk q => ⟨q.1, q.2.1, va_K.moved (u := U) (U := U.calling g mk a) (Vm.Alike.refl U.vm) q.2.2⟩, va_recv hKm hPm (ci := 8) (q0 := 0) rfl rfl, fun U hU hW => ⟨rfl, by rw [hU]; exact hPm, va_K.moved hW.alike hKm⟩⟩ rfl rfl hl.1 rfl (lv_room (Nat.le_of_ble_eq_true rfl)) dL_law_632 ⟨(by show 28 + N + 0 + 0 ≤ 600000; omega), (by show 351 + 6 * N + 0 + 0 ≤ 7302250; omega)⟩)) (fun r2 hr2 => ?_)
  have hq : r1 = r2 ∧ RS (N + 1) (f, g, pa, t9, n, pd, pk, pv) (f', g', h') := ⟨by rw [hr1, hr2]; exact p_few R (xs (nI (5 * N + 1)).toNatClampNeg), R.rs1⟩
  refine lv_icmp_eq (tgt := 838) hx hb dL_law_635 (by decide) (fun c_9 => ?_) (fun c_9 => absurd hq.1 c_9)
  refine W.widen (k := 28 + (N + 1)) (n := 351 + 6 * (N + 1)) (by omega) (by omega) ?_
  exact K (f, g, pa, t9, n, pd, pk, pv) (f', g', h') H _ ls hq.2 hP hD hS hl
