set_option maxHeartbeats 2000000 in
set_option maxRecDepth 100000 in
theorem lc_card {p : Program} {l : Launch} {e : Env} {s : State} {m : MethodId} {below : List Frame} {meth : Method} {c : Code} {b L : Nat} {xs : Nat → Int32} (C0 : lwC p s m meth c b L xs) {dC : Nat → ClassId} {dI : Nat → Nat → Nat} {cI cP : ClassId} {a : Nat} {o : Nat → Nat} {a' : Nat} {o' : Nat → Nat} (hK : va_K (dC, dI) vwCl [(cI, .int), (cP, .object RX4)] s) (hN : xN s) {N : Nat} (hNL : 5 * N + 5 ≤ L) {k1 n k8 cn9 q d : Nat} {f : Nat → Int32} {g : Nat → Nat → Int32} {pa : Nat → Option Nat} {t9 : Nat → Nat → Int32} {pd pk : Nat → Nat} {pv : Nat → Nat → Int32} {f' : Nat → Int32} {g' : Nat → Nat → Int32} {h' : Int64} (R : RR N k1 n k8 cn9 q d f g pa pd pk pv f' g') {H : Heap} {locs : List Loc} {ls : Array Slot} (hP : va_P (dC, dI) vwCl (mW cI a' o' f' g' h' ++ xW cI cP a o f g pa t9 n pd pk pv) H) (hD : va_D (fun q : Nat => s.heap.size ≤ q) (mW cI a' o' f' g' h' ++ xW cI cP a o f g pa t9 n pd pk pv)) (hS : va_S (fun q : Nat => s.heap.size ≤ q) s.heap H locs) (hl : lv_has ls 4 (lwL N b a a')) (K : lwK p l e s m b below meth c dC dI cI cP a o a' o' N) : W p l e room_1 s m #[Value.ref b] below meth c H locs (28 + N) (351 + 6 * N) (lw_Z below #[Value.ref b] s) (F0 m 640 ls []) := by
  obtain ⟨hx, hb, hml, hown, htl, hX, hbl, hL⟩ := id C0
  have hA : ∀ q : Nat, s.heap.size ≤ q → (fun q : Nat => s.heap.size ≤ q) q := fun _ h => h
  have hbA : ¬ (fun q : Nat => s.heap.size ≤ q) b := Nat.not_le.mpr hbl
  have hl : lv_has ls 4 [(3, .int (nI (5 * N))), (2, .ref a'), (1, .ref a), (0, .ref b)] := hl
  have hPp := R.2.2.2.2.1
  have hCn := R.2.2.2.1
  have hKm := hK.sub (tys' := [(cI, .int)]) [0] rfl
  refine lv_aload_n hx hb dL_law_640 rfl (lv_at hl 2 rfl) ?_
  refine lv_aload_n hx hb dL_law_641 rfl (lv_at hl 3 rfl) ?_
  refine lv_iload_n hx hb dL_law_642 rfl (lv_at hl 0 rfl) ?_
  refine lv_iconst (v := nI (1)) hx hb dL_law_643 (by decide +kernel) ?_
  refine lv_iadd hx hb dL_law_644 ?_
  refine tq (nI_add (5 * N) (1)) ?_
  refine va_sld hx hb hX hbl hbA hS (vp_in_nI (show 5 * N + 1 < L by omega) (by omega)) dL_law_645 ?_
  refine lv_aload_n hx hb dL_law_646 rfl (lv_at hl 3 rfl) ?_
  refine lv_iload_n hx hb dL_law_647 rfl (lv_at hl 0 rfl) ?_
  refine lv_iconst (v := nI (2)) hx hb dL_law_648 (by decide +kernel) ?_
  refine lv_iadd hx hb dL_law_649 ?_
  refine tq (nI_add (5 * N) (2)) ?_
  refine va_sld hx hb hX hbl hbA hS (vp_in_nI (show 5 * N + 2 < L by omega) (by omega)) dL_law_650 ?_
  have hPx := va_P_r hP
  have hDx := va_D_r hD
  have hFx := va_Af hDx hS hA
  refine va_calli (va_runV (As := [.int (xs (nI (5 * N + 1)).toNatClampNeg), .int (xs (nI (5 * N + 2)).toNatClampNeg)]) (rest := []) ⟨hx, hb, hml, hown, htl⟩ (c7_card l dC dI cI cP a o f g pa t9 n pd pk pv H.size R.2.2.2.2.2.1.2.1 R.2.2.2.2.2.1.1 (xs (nI (5 * N + 1)).toNatClampNeg) (xs (nI (5 * N + 2)).toNatClampNeg)) (cwV 2 htl gL_law_X7_card rfl rfl rfl (by decide +kernel) ⟨Nat.le_of_ble_eq_true rfl, Nat.le_of_ble_eq_true rfl⟩) ⟨fun a U g mk q => by obtain ⟨q0, q1, qP, qK, qN, qD⟩ := q; exact ⟨q0, q1, qP, va_K.moved (u := U) (U := U.calling g mk a) (Vm.Alike.refl U.vm) qK, xN.same (u := U) (U := U.calling g mk a) rfl qN, qD⟩, va_recv hK hPx (ci := 7) (q0 := 0) rfl rfl, fun U hU hW => ⟨rfl, by rw [hU], by rw [hU]; exact hPx, va_K.moved hW.alike hK, xN.warm hW hN, hDx.weaken (fun _ _ _ _ => trivial)⟩⟩ rfl rfl hl.1 rfl (lv_room (Nat.le_of_ble_eq_true rfl)) dL_law_651 ⟨(by show 28 + N + 0 ≤ 600000; omega), (by show 351 + 6 * N + 0 ≤ 7302250; omega)⟩) hS (fun q _ h => hFx q h) hFx (fun r1 u t H1 locs ht hvm hw hB hz1 hk1 hS => ?_)
  obtain ⟨hP1, hK1, hD1⟩ := hB
  rw [ht] at hP1
  obtain ⟨hP, hD⟩ := jr hP hD hk1 hFx hP1 hD1
  clear hP1 hD1 hK1 hPx hDx hFx hk1 hz1
  generalize H1 = H at hP hS ⊢
  refine lv_aload_n hx hb dL_law_654 rfl (lv_at hl 1 rfl) ?_
  refine lv_aload_n hx hb dL_law_655 rfl (lv_at hl 3 rfl) ?_
  refine lv_iload_n hx hb dL_law_656 rfl (lv_at hl 0 rfl) ?_
  refine lv_iconst (v := nI (1)) hx hb dL_law_657 (by decide +kernel) ?_
  refine lv_iadd hx hb dL_law_658 ?_
  refine tq (nI_add (5 * N) (1)) ?_
  refine va_sld hx hb hX hbl hbA hS (vp_in_nI (show 5 * N + 1 < L by omega) (by omega)) dL_law_659 ?_
  refine lv_aload_n hx hb dL_law_660 rfl (lv_at hl 3 rfl) ?_
  refine lv_iload_n hx hb dL_law_661 rfl (lv_at hl 0 rfl) ?_
  refine lv_iconst (v := nI (2)) hx hb dL_law_662 (by decide +kernel) ?_
  refine lv_iadd hx hb dL_law_663 ?_
  refine tq (nI_add (5 * N) (2)) ?_
  refine va_sld hx hb hX hbl hbA hS (vp_in_nI (show 5 * N + 2 < L by omega) (by omega)) dL_law_664 ?_
  have hPm := va_P_l hP
  have hDm := va_D_l hD
  have hFm := va_Af hDm hS hA
  refine va_calli (va_runV (As := [.int (xs (nI (5 * N + 1)).toNatClampNeg), .int (xs (nI (5 * N + 2)).toNatClampNeg)]) (rest := [.int r1]) ⟨hx, hb, hml, hown, htl⟩ (c8_card l dC dI cI a' o' f' g' h' H.size R.2.2.2.2.2.1.2.2.1 R.2.2.2.2.2.1.1 (xs (nI (5 * N + 1)).toNatClampNeg) (xs (nI (5 * N + 2)).toNatClampNeg)) (cwV 2 htl gL_law_X8_card rfl rfl rfl (by decide +kernel) ⟨Nat.le_of_ble_eq_true rfl, Nat.le_of_ble_eq_true rfl⟩) ⟨fun a U g mk q => by obtain ⟨q0, q1, qP, qK, qD⟩ := q; exact ⟨q0, q1, qP, va_K.moved (u := U) (U := U.calling g mk a) (Vm.Alike.refl U.vm) qK, qD⟩, va_recv hKm hPm (ci := 8) (q0 := 0) rfl rfl, fun U hU hW => ⟨rfl, by rw [hU], by rw [hU]; exact hPm, va_K.moved hW.alike hKm, hDm.weaken (fun _ _ _ _ => trivial)⟩⟩ rfl rfl hl.1 rfl (lv_room (Nat.le_of_ble_eq_true rfl)) dL_law_665 ⟨(by show 28 + N + 0 + 0 ≤ 600000; omega), (by show 351 + 6 * N + 0 + 0 ≤ 7302250; omega)⟩) hS (fun q _ h => hFm q h) hFm (fun r2 v t H1 locs ht hvm hwm hB hz1 hk1 hS => ?_)
  obtain ⟨hP1, hK1, hD1⟩ := hB
  rw [ht] at hP1
  obtain ⟨hP, hD⟩ := jl hP hD hk1 hFm hP1 hD1
  clear hP1 hD1 hK1 hPm hDm hFm hk1 hz1
  generalize H1 = H at hP hS ⊢
  have hq := p_card (tq := t9) (h' := h') R (xs (nI (5 * N + 1)).toNatClampNeg) (xs (nI (5 * N + 2)).toNatClampNeg)
  rw [← hw, ← hwm] at hq
  have hq : r1 = r2 ∧ RS (N + 1) u v := hq
  refine lv_icmp_eq (tgt := 838) hx hb dL_law_668 (by decide) (fun c_9 => ?_) (fun c_9 => absurd hq.1 c_9)
  refine W.widen (k := 28 + (N + 1)) (n := 351 + 6 * (N + 1)) (by omega) (by omega) ?_
  exact K u v H _ ls hq.2 hP hD hS hl
set_option maxHeartbeats 2000000 in
set_option maxRecDepth 100000 in
theorem lc_forget {p : Program} {l : Launch} {e : Env} {s : State} {m : MethodId} {below : List Frame} {meth : Method} {c : Code} {b L : Nat} {xs : Nat → Int32} (C0 : lwC p s m meth c b L xs) {dC : Nat → ClassId} {dI : Nat → Nat → Nat} {cI cP : ClassId} {a : Nat} {o : Nat → Nat} {a' : Nat} {o' : Nat → Nat} (hK : va_K (dC, dI) vwCl [(cI, .int), (cP, .object RX4)] s) (hN : xN s) {N : Nat} (hNL : 5 * N + 5 ≤ L) {k1 n k8 cn9 q d : Nat} {f : Nat → Int32} {g : Nat → Nat → Int32} {pa : Nat → Option Nat} {t9 : Nat → Nat → Int32} {pd pk : Nat → Nat} {pv : Nat → Nat → Int32} {f' : Nat → Int32} {g' : Nat → Nat → Int32} {h' : Int64} (R : RR N k1 n k8 cn9 q d f g pa pd pk pv f' g') {H : Heap} {locs : List Loc} {ls : Array Slot} (hP : va_P (dC, dI) vwCl (mW cI a' o' f' g' h' ++ xW cI cP a o f g pa t9 n pd pk pv) H) (hD : va_D (fun q : Nat => s.heap.size ≤ q) (mW cI a' o' f' g' h' ++ xW cI cP a o f g pa t9 n pd pk pv)) (hS : va_S (fun q : Nat => s.heap.size ≤ q) s.heap H locs) (hl : lv_has ls 4 (lwL N b a a')) (K : lwK p l e s m b below meth c dC dI cI cP a o a' o' N) : W p l e room_1 s m #[Value.ref b] below meth c H locs (28 + N) (351 + 6 * N) (lw_Z below #[Value.ref b] s) (F0 m 673 ls []) := by
  obtain ⟨hx, hb, hml, hown, htl, hX, hbl, hL⟩ := id C0
  have hA : ∀ q : Nat, s.heap.size ≤ q → (fun q : Nat => s.heap.size ≤ q) q := fun _ h => h
  have hbA : ¬ (fun q : Nat => s.heap.size ≤ q) b := Nat.not_le.mpr hbl
  have hl : lv_has ls 4 [(3, .int (nI (5 * N))), (2, .ref a'), (1, .ref a), (0, .ref b)] := hl
  have hPp := R.2.2.2.2.1
  have hCn := R.2.2.2.1
  have hKm := hK.sub (tys' := [(cI, .int)]) [0] rfl
  refine lv_aload_n hx hb dL_law_673 rfl (lv_at hl 2 rfl) ?_
  have hPx := va_P_r hP
  have hDx := va_D_r hD
  have hFx := va_Af hDx hS hA
  refine va_calli (va_runV (As := []) (rest := []) ⟨hx, hb, hml, hown, htl⟩ (c7_forget l dC dI cI cP a o f g pa t9 n pd pk pv H.size R.2.2.2.2.2.1.2.1 R.2.2.2.2.2.1.1) (cwV 0 htl gL_law_X7_forget rfl rfl rfl (by decide +kernel) ⟨Nat.le_of_ble_eq_true rfl, Nat.le_of_ble_eq_true rfl⟩) ⟨fun a U g mk q => by obtain ⟨q0, q1, qP, qK, qN, qD⟩ := q; exact ⟨q0, q1, qP, va_K.moved (u := U) (U := U.calling g mk a) (Vm.Alike.refl U.vm) qK, xN.same (u := U) (U := U.calling g mk a) rfl qN, qD⟩, va_recv hK hPx (ci := 7) (q0 := 0) rfl rfl, fun U hU hW => ⟨rfl, by rw [hU], by rw [hU]; exact hPx, va_K.moved hW.alike hK, xN.warm hW hN, hDx.weaken (fun _ _ _ _ => trivial)⟩⟩ rfl rfl hl.1 rfl (lv_room (Nat.le_of_ble_eq_true rfl)) dL_law_674 ⟨(by show 28 + N + 0 ≤ 600000; omega), (by show 351 + 6 * N + 0 ≤ 7302250; omega)⟩) hS (fun q _ h => hFx q h) hFx (fun r1 u t H1 locs ht hvm hw hB hz1 hk1 hS => ?_)
  obtain ⟨hP1, hK1, hD1⟩ := hB
  rw [ht] at hP1
  obtain ⟨hP, hD⟩ := jr hP hD hk1 hFx hP1 hD1
  clear hP1 hD1 hK1 hPx hDx hFx hk1 hz1
  generalize H1 = H at hP hS ⊢
  refine lv_aload_n hx hb dL_law_677 rfl (lv_at hl 1 rfl) ?_
  have hPm := va_P_l hP
  have hDm := va_D_l hD
  have hFm := va_Af hDm hS hA
  refine va_calli (va_runV (As := []) (rest := [.int r1]) ⟨hx, hb, hml, hown, htl⟩ (c8_forget l dC dI cI a' o' f' g' h' H.size R.2.2.2.2.2.1.2.2.1 R.2.2.2.2.2.1.1) (cwV 0 htl gL_law_X8_forget rfl rfl rfl (by decide +kernel) ⟨Nat.le_of_ble_eq_true rfl, Nat.le_of_ble_eq_true rfl⟩) ⟨fun a U g mk q => by obtain ⟨q0, q1, qP, qK, qD⟩ := q; exact ⟨q0, q1, qP, va_K.moved (u := U) (U := U.calling g mk a) (Vm.Alike.refl U.vm) qK, qD⟩, va_recv hKm hPm (ci := 8) (q0 := 0) rfl rfl, fun U hU hW => ⟨rfl, by rw [hU], by rw [hU]; exact hPm, va_K.moved hW.alike hKm, hDm.weaken (fun _ _ _ _ => trivial)⟩⟩ rfl rfl hl.1 rfl (lv_room (Nat.le_of_ble_eq_true rfl)) dL_law_678 ⟨(by show 28 + N + 0 + 0 ≤ 600000; omega), (by show 351 + 6 * N + 0 + 0 ≤ 7302250; omega)⟩) hS (fun q _ h => hFm q h) hFm (fun r2 v t H1 locs ht hvm hwm hB hz1 hk1 hS => ?_)
  obtain ⟨hP1, hK1, hD1⟩ := hB
  rw [ht] at hP1
  obtain ⟨hP, hD⟩ := jl hP hD hk1 hFm hP1 hD1
  clear hP1 hD1 hK1 hPm hDm hFm hk1 hz1
  generalize H1 = H at hP hS ⊢
  have hq : (((nI d, su f 17 (nI 0), g, pa, t9, n, pd, pk, pv) : Int32 × XSt)).1 = (mForget f' g' h' d).1 ∧ RS (N + 1) (((nI d, su f 17 (nI 0), g, pa, t9, n, pd, pk, pv) : Int32 × XSt)).2 (mForget f' g' h' d).2 := ⟨rfl, p_forget R⟩
  rw [← hw, ← hwm] at hq
  have hq : r1 = r2 ∧ RS (N + 1) u v := hq
  refine lv_icmp_eq (tgt := 838) hx hb dL_law_681 (by decide) (fun c_9 => ?_) (fun c_9 => absurd hq.1 c_9)
  refine W.widen (k := 28 + (N + 1)) (n := 351 + 6 * (N + 1)) (by omega) (by omega) ?_
  exact K u v H _ ls hq.2 hP hD hS hl
set_option maxHeartbeats 2000000 in
set_option maxRecDepth 100000 in
theorem lc_who {p : Program} {l : Launch} {e : Env} {s : State} {m : MethodId} {below : List Frame} {meth : Method} {c : Code} {b L : Nat} {xs : Nat → Int32} (C0 : lwC p s m meth c b L xs) {dC : Nat → ClassId} {dI : Nat → Nat → Nat} {cI cP : ClassId} {a : Nat} {o : Nat → Nat} {a' : Nat} {o' : Nat → Nat} (hK : va_K (dC, dI) vwCl [(cI, .int), (cP, .object RX4)] s) (hN : xN s) {N : Nat} (hNL : 5 * N + 5 ≤ L) {k1 n k8 cn9 q d : Nat} {f : Nat → Int32} {g : Nat → Nat → Int32} {pa : Nat → Option Nat} {t9 : Nat → Nat → Int32} {pd pk : Nat → Nat} {pv : Nat → Nat → Int32} {f' : Nat → Int32} {g' : Nat → Nat → Int32} {h' : Int64} (R : RR N k1 n k8 cn9 q d f g pa pd pk pv f' g') {H : Heap} {locs : List Loc} {ls : Array Slot} (hP : va_P (dC, dI) vwCl (mW cI a' o' f' g' h' ++ xW cI cP a o f g pa t9 n pd pk pv) H) (hD : va_D (fun q : Nat => s.heap.size ≤ q) (mW cI a' o' f' g' h' ++ xW cI cP a o f g pa t9 n pd pk pv)) (hS : va_S (fun q : Nat => s.heap.size ≤ q) s.heap H locs) (hl : lv_has ls 4 (lwL N b a a')) (K : lwK p l e s m b below meth c dC dI cI cP a o a' o' N) : W p l e room_1 s m #[Value.ref b] below meth c H locs (28 + N) (351 + 6 * N) (lw_Z below #[Value.ref b] s) (F0 m 686 ls []) := by
  obtain ⟨hx, hb, hml, hown, htl, hX, hbl, hL⟩ := id C0
  have hA : ∀ q : Nat, s.heap.size ≤ q → (fun q : Nat => s.heap.size ≤ q) q := fun _ h => h
  have hbA : ¬ (fun q : Nat => s.heap.size ≤ q) b := Nat.not_le.mpr hbl
  have hl : lv_has ls 4 [(3, .int (nI (5 * N))), (2, .ref a'), (1, .ref a), (0, .ref b)] := hl
  have hPp := R.2.2.2.2.1
  have hCn := R.2.2.2.1
  have hKm := hK.sub (tys' := [(cI, .int)]) [0] rfl
  refine lv_aload_n hx hb dL_law_686 rfl (lv_at hl 2 rfl) ?_
  refine lv_aload_n hx hb dL_law_687 rfl (lv_at hl 3 rfl) ?_
  refine lv_iload_n hx hb dL_law_688 rfl (lv_at hl 0 rfl) ?_
  refine lv_iconst (v := nI (1)) hx hb dL_law_689 (by decide +kernel) ?_
  refine lv_iadd hx hb dL_law_690 ?_
  refine tq (nI_add (5 * N) (1)) ?_
  refine va_sld hx hb hX hbl hbA hS (vp_in_nI (show 5 * N + 1 < L by omega) (by omega)) dL_law_691 ?_
  have hPx := va_P_r hP
  have hDx := va_D_r hD
  have hFx := va_Af hDx hS hA
  refine va_calli (va_runV (As := [.int (xs (nI (5 * N + 1)).toNatClampNeg)]) (rest := []) ⟨hx, hb, hml, hown, htl⟩ (c7_who l dC dI cI cP a o f g pa t9 n pd pk pv H.size R.2.2.2.2.2.1.2.1 R.2.2.2.2.2.1.1 hCn.2.2.2.2.2.1 hCn.2.2.2.2.1 (xs (nI (5 * N + 1)).toNatClampNeg)) (cwV 1 htl gL_law_X7_who rfl rfl rfl (by decide +kernel) ⟨Nat.le_of_ble_eq_true rfl, Nat.le_of_ble_eq_true rfl⟩) ⟨fun a U g mk q => by obtain ⟨q0, q1, qP, qK, qN, qD⟩ := q; exact ⟨q0, q1, qP, va_K.moved (u := U) (U := U.calling g mk a) (Vm.Alike.refl U.vm) qK, xN.same (u := U) (U := U.calling g mk a) rfl qN, qD⟩, va_recv hK hPx (ci := 7) (q0 := 0) rfl rfl, fun U hU hW => ⟨rfl, by rw [hU], by rw [hU]; exact hPx, va_K.moved hW.alike hK, xN.warm hW hN, hDx.weaken (fun _ _ _ _ => trivial)⟩⟩ rfl rfl hl.1 rfl (lv_room (Nat.le_of_ble_eq_true rfl)) dL_law_692 ⟨(by show 28 + N + 0 ≤ 600000; omega), (by show 351 + 6 * N + 0 ≤ 7302250; omega)⟩) hS (fun q _ h => hFx q h) hFx (fun r1 u t H1 locs ht hvm hw hB hz1 hk1 hS => ?_)
  obtain ⟨hP1, hK1, hD1⟩ := hB
  rw [ht] at hP1
  obtain ⟨hP, hD⟩ := jr hP hD hk1 hFx hP1 hD1
  clear hP1 hD1 hK1 hPx hDx hFx hk1 hz1
  generalize H1 = H at hP hS ⊢
  refine lv_aload_n hx hb dL_law_695 rfl (lv_at hl 1 rfl) ?_
  refine lv_aload_n hx hb dL_law_696 rfl (lv_at hl 3 rfl) ?_
  refine lv_iload_n hx hb dL_law_697 rfl (lv_at hl 0 rfl) ?_
  refine lv_iconst (v := nI (1)) hx hb dL_law_698 (by decide +kernel) ?_
  refine lv_iadd hx hb dL_law_699 ?_
  refine tq (nI_add (5 * N) (1)) ?_
  refine va_sld hx hb hX hbl hbA hS (vp_in_nI (show 5 * N + 1 < L by omega) (by omega)) dL_law_700 ?_
  have hPm := va_P_l hP
  have hDm := va_D_l hD
  have hFm := va_Af hDm hS hA
  refine va_calli (va_runV (As := [.int (xs (nI (5 * N + 1)).toNatClampNeg)]) (rest := [.int r1]) ⟨hx, hb, hml, hown, htl⟩ (c8_who l dC dI cI a' o' f' g' h' H.size R.2.2.2.2.2.1.2.2.1 R.2.2.2.2.2.1.1 hCn.2.2.2.2.2.2 hCn.2.2.2.2.1 (xs (nI (5 * N + 1)).toNatClampNeg)) (cwV 1 htl gL_law_X8_who rfl rfl rfl (by decide +kernel) ⟨Nat.le_of_ble_eq_true rfl, Nat.le_of_ble_eq_true rfl⟩) ⟨fun a U g mk q => by obtain ⟨q0, q1, qP, qK, qD⟩ := q; exact ⟨q0, q1, qP, va_K.moved (u := U) (U := U.calling g mk a) (Vm.Alike.refl U.vm) qK, qD⟩, va_recv hKm hPm (ci := 8) (q0 := 0) rfl rfl, fun U hU hW => ⟨rfl, by rw [hU], by rw [hU]; exact hPm, va_K.moved hW.alike hKm, hDm.weaken (fun _ _ _ _ => trivial)⟩⟩ rfl rfl hl.1 rfl (lv_room (Nat.le_of_ble_eq_true rfl)) dL_law_701 ⟨(by show 28 + N + 0 + 0 ≤ 600000; omega), (by show 351 + 6 * N + 0 + 0 ≤ 7302250; omega)⟩) hS (fun q _ h => hFm q h) hFm (fun r2 v t H1 locs ht hvm hwm hB hz1 hk1 hS => ?_)
  obtain ⟨hP1, hK1, hD1⟩ := hB
  rw [ht] at hP1
  obtain ⟨hP, hD⟩ := jl hP hD hk1 hFm hP1 hD1
  clear hP1 hD1 hK1 hPm hDm hFm hk1 hz1
  generalize H1 = H at hP hS ⊢
  have hq := p_who (tq := t9) (h' := h') R (xs (nI (5 * N + 1)).toNatClampNeg)
  rw [← hw, ← hwm] at hq
  have hq : r1 = r2 ∧ RS (N + 1) u v := hq
  refine lv_icmp_eq (tgt := 838) hx hb dL_law_704 (by decide) (fun c_9 => ?_) (fun c_9 => absurd hq.1 c_9)
  refine W.widen (k := 28 + (N + 1)) (n := 351 + 6 * (N + 1)) (by omega) (by omega) ?_
  exact K u v H _ ls hq.2 hP hD hS hl
set_option maxHeartbeats 2000000 in
set_option maxRecDepth 100000 in
theorem lc_next {p : Program} {l : Launch} {e : Env} {s : State} {m : MethodId} {below : List Frame} {meth : Method} {c : Code} {b L : Nat} {xs : Nat → Int32} (C0 : lwC p s m meth c b L xs) {dC : Nat → ClassId} {dI : Nat → Nat → Nat} {cI cP : ClassId} {a : Nat} {o : Nat → Nat} {a' : Nat} {o' : Nat → Nat} (hK : va_K (dC, dI) vwCl [(cI, .int), (cP, .object RX4)] s) (hN : xN s) {N : Nat} (hNL : 5 * N + 5 ≤ L) {k1 n k8 cn9 q d : Nat} {f : Nat → Int32} {g : Nat → Nat → Int32} {pa : Nat → Option Nat} {t9 : Nat → Nat → Int32} {pd pk : Nat → Nat} {pv : Nat → Nat → Int32} {f' : Nat → Int32} {g' : Nat → Nat → Int32} {h' : Int64} (R : RR N k1 n k8 cn9 q d f g pa pd pk pv f' g') {H : Heap} {locs : List Loc} {ls : Array Slot} (hP : va_P (dC, dI) vwCl (mW cI a' o' f' g' h' ++ xW cI cP a o f g pa t9 n pd pk pv) H) (hD : va_D (fun q : Nat => s.heap.size ≤ q) (mW cI a' o' f' g' h' ++ xW cI cP a o f g pa t9 n pd pk pv)) (hS : va_S (fun q : Nat => s.heap.size ≤ q) s.heap H locs) (hl : lv_has ls 4 (lwL N b a a')) (K : lwK p l e s m b below meth c dC dI cI cP a o a' o' N) : W p l e room_1 s m #[Value.ref b] below meth c H locs (28 + N) (351 + 6 * N) (lw_Z below #[Value.ref b] s) (F0 m 709 ls []) := by
  obtain ⟨hx, hb, hml, hown, htl, hX, hbl, hL⟩ := id C0
  have hA : ∀ q : Nat, s.heap.size ≤ q → (fun q : Nat => s.heap.size ≤ q) q := fun _ h => h
  have hbA : ¬ (fun q : Nat => s.heap.size ≤ q) b := Nat.not_le.mpr hbl
  have hl : lv_has ls 4 [(3, .int (nI (5 * N))), (2, .ref a'), (1, .ref a), (0, .ref b)] := hl
  have hPp := R.2.2.2.2.1
  have hCn := R.2.2.2.1
  have hKm := hK.sub (tys' := [(cI, .int)]) [0] rfl
  refine lv_aload_n hx hb dL_law_709 rfl (lv_at hl 2 rfl) ?_
  have hPx := va_P_r hP
  have hDx := va_D_r hD
  have hFx := va_Af hDx hS hA
  refine va_calli (va_runV (As := []) (rest := []) ⟨hx, hb, hml, hown, htl⟩ (c7_next l dC dI cI cP a o f g pa t9 n pd pk pv H.size R.2.2.2.2.2.1.2.1 R.2.2.2.2.2.1.1 hCn.2.2.2.2.2.1 hCn.2.2.2.2.1) (cwV 0 htl gL_law_X7_next rfl rfl rfl (by decide +kernel) ⟨Nat.le_of_ble_eq_true rfl, Nat.le_of_ble_eq_true rfl⟩) ⟨fun a U g mk q => by obtain ⟨q0, q1, qP, qK, qN, qD⟩ := q; exact ⟨q0, q1, qP, va_K.moved (u := U) (U := U.calling g mk a) (Vm.Alike.refl U.vm) qK, xN.same (u := U) (U := U.calling g mk a) rfl qN, qD⟩, va_recv hK hPx (ci := 7) (q0 := 0) rfl rfl, fun U hU hW => ⟨rfl, by rw [hU], by rw [hU]; exact hPx, va_K.moved hW.alike hK, xN.warm hW hN, hDx.weaken (fun _ _ _ _ => trivial)⟩⟩ rfl rfl hl.1 rfl (lv_room (Nat.le_of_ble_eq_true rfl)) dL_law_710 ⟨(by show 28 + N + 0 ≤ 600000; omega), (by show 351 + 6 * N + 0 ≤ 7302250; omega)⟩) hS (fun q _ h => hFx q h) hFx (fun r1 u t H1 locs ht hvm hw hB hz1 hk1 hS => ?_)
  obtain ⟨hP1, hK1, hD1⟩ := hB
  rw [ht] at hP1
  obtain ⟨hP, hD⟩ := jr hP hD hk1 hFx hP1 hD1
  clear hP1 hD1 hK1 hPx hDx hFx hk1 hz1
  generalize H1 = H at hP hS ⊢
  refine lv_aload_n hx hb dL_law_713 rfl (lv_at hl 1 rfl) ?_
  have hPm := va_P_l hP
  have hDm := va_D_l hD
  have hFm := va_Af hDm hS hA
  refine va_calli (va_runV (As := []) (rest := [.int r1]) ⟨hx, hb, hml, hown, htl⟩ (c8_next l dC dI cI a' o' f' g' h' H.size R.2.2.2.2.2.1.2.2.1 R.2.2.2.2.2.1.1 hCn.2.2.2.2.2.2 hCn.2.2.2.2.1) (cwV 0 htl gL_law_X8_next rfl rfl rfl (by decide +kernel) ⟨Nat.le_of_ble_eq_true rfl, Nat.le_of_ble_eq_true rfl⟩) ⟨fun a U g mk q => by obtain ⟨q0, q1, qP, qK, qD⟩ := q; exact ⟨q0, q1, qP, va_K.moved (u := U) (U := U.calling g mk a) (Vm.Alike.refl U.vm) qK, qD⟩, va_recv hKm hPm (ci := 8) (q0 := 0) rfl rfl, fun U hU hW => ⟨rfl, by rw [hU], by rw [hU]; exact hPm, va_K.moved hW.alike hKm, hDm.weaken (fun _ _ _ _ => trivial)⟩⟩ rfl rfl hl.1 rfl (lv_room (Nat.le_of_ble_eq_true rfl)) dL_law_714 ⟨(by show 28 + N + 0 + 0 ≤ 600000; omega), (by show 351 + 6 * N + 0 + 0 ≤ 7302250; omega)⟩) hS (fun q _ h => hFm q h) hFm (fun r2 v t H1 locs ht hvm hwm hB hz1 hk1 hS => ?_)
  obtain ⟨hP1, hK1, hD1⟩ := hB
  rw [ht] at hP1
  obtain ⟨hP, hD⟩ := jl hP hD hk1 hFm hP1 hD1
  clear hP1 hD1 hK1 hPm hDm hFm hk1 hz1
  generalize H1 = H at hP hS ⊢
  have hq := p_next (tq := t9) (h' := h') R 
  rw [← hw, ← hwm] at hq
  have hq : r1 = r2 ∧ RS (N + 1) u v := hq
  refine lv_icmp_eq (tgt := 838) hx hb dL_law_717 (by decide) (fun c_9 => ?_) (fun c_9 => absurd hq.1 c_9)
  refine W.widen (k := 28 + (N + 1)) (n := 351 + 6 * (N + 1)) (by omega) (by omega) ?_
  exact K u v H _ ls hq.2 hP hD hS hl
set_option maxHeartbeats 2000000 in
set_option maxRecDepth 100000 in
theorem lc_ageing {p : Program} {l : Launch} {e : Env} {s : State} {m : MethodId} {below : List Frame} {meth : Method} {c : Code} {b L : Nat} {xs : Nat → Int32} (C0 : lwC p s m meth c b L xs) {dC : Nat → ClassId} {dI : Nat → Nat → Nat} {cI cP : ClassId} {a : Nat} {o : Nat → Nat} {a' : Nat} {o' : Nat → Nat} (hK : va_K (dC, dI) vwCl [(cI, .int), (cP, .object RX4)] s) (hN : xN s) {N : Nat} (hNL : 5 * N + 5 ≤ L) {k1 n k8 cn9 q d : Nat} {f : Nat → Int32} {g : Nat → Nat → Int32} {pa : Nat → Option Nat} {t9 : Nat → Nat → Int32} {pd pk : Nat → Nat} {pv : Nat → Nat → Int32} {f' : Nat → Int32} {g' : Nat → Nat → Int32} {h' : Int64} (R : RR N k1 n k8 cn9 q d f g pa pd pk pv f' g') {H : Heap} {locs : List Loc} {ls : Array Slot} (hP : va_P (dC, dI) vwCl (mW cI a' o' f' g' h' ++ xW cI cP a o f g pa t9 n pd pk pv) H) (hD : va_D (fun q : Nat => s.heap.size ≤ q) (mW cI a' o' f' g' h' ++ xW cI cP a o f g pa t9 n pd pk pv)) (hS : va_S (fun q : Nat => s.heap.size ≤ q) s.heap H locs) (hl : lv_has ls 4 (lwL N b a a')) (K : lwK p l e s m b below meth c dC dI cI cP a o a' o' N) : W p l e room_1 s m #[Value.ref b] below meth c H locs (28 + N) (351 + 6 * N) (lw_Z below #[Value.ref b] s) (F0 m 722 ls []) := by
  obtain ⟨hx, hb, hml, hown, htl, hX, hbl, hL⟩ := id C0
  have hA : ∀ q : Nat, s.heap.size ≤ q → (fun q : Nat => s.heap.size ≤ q) q := fun _ h => h
  have hbA : ¬ (fun q : Nat => s.heap.size ≤ q) b := Nat.not_le.mpr hbl
  have hl : lv_has ls 4 [(3, .int (nI (5 * N))), (2, .ref a'), (1, .ref a), (0, .ref b)] := hl
  have hPp := R.2.2.2.2.1
  have hCn := R.2.2.2.1
  have hKm := hK.sub (tys' := [(cI, .int)]) [0] rfl
  refine lv_aload_n hx hb dL_law_722 rfl (lv_at hl 2 rfl) ?_
  refine lv_aload_n hx hb dL_law_723 rfl (lv_at hl 3 rfl) ?_
  refine lv_iload_n hx hb dL_law_724 rfl (lv_at hl 0 rfl) ?_
  refine lv_iconst (v := nI (1)) hx hb dL_law_725 (by decide +kernel) ?_
  refine lv_iadd hx hb dL_law_726 ?_
  refine tq (nI_add (5 * N) (1)) ?_
  refine va_sld hx hb hX hbl hbA hS (vp_in_nI (show 5 * N + 1 < L by omega) (by omega)) dL_law_727 ?_
  refine lv_aload_n hx hb dL_law_728 rfl (lv_at hl 3 rfl) ?_
  refine lv_iload_n hx hb dL_law_729 rfl (lv_at hl 0 rfl) ?_
  refine lv_iconst (v := nI (2)) hx hb dL_law_730 (by decide +kernel) ?_
  refine lv_iadd hx hb dL_law_731 ?_
  refine tq (nI_add (5 * N) (2)) ?_
  refine va_sld hx hb hX hbl hbA hS (vp_in_nI (show 5 * N + 2 < L by omega) (by omega)) dL_law_732 ?_
  refine lv_aload_n hx hb dL_law_733 rfl (lv_at hl 3 rfl) ?_
  refine lv_iload_n hx hb dL_law_734 rfl (lv_at hl 0 rfl) ?_
  refine lv_iconst (v := nI (3)) hx hb dL_law_735 (by decide +kernel) ?_
  refine lv_iadd hx hb dL_law_736 ?_
  refine tq (nI_add (5 * N) (3)) ?_
  refine va_sld hx hb hX hbl hbA hS (vp_in_nI (show 5 * N + 3 < L by omega) (by omega)) dL_law_737 ?_
  refine lv_aload_n hx hb dL_law_738 rfl (lv_at hl 3 rfl) ?_
  refine lv_iload_n hx hb dL_law_739 rfl (lv_at hl 0 rfl) ?_
  refine lv_iconst (v := nI (4)) hx hb dL_law_740 (by decide +kernel) ?_
  refine lv_iadd hx hb dL_law_741 ?_
  refine tq (nI_add (5 * N) (4)) ?_
  refine va_sld hx hb hX hbl hbA hS (vp_in_nI (show 5 * N + 4 < L by omega) (by omega)) dL_law_742 ?_
  have hPx := va_P_r hP
  have hDx := va_D_r hD
  have hFx := va_Af hDx hS hA
  refine va_calli (va_runV (As := [.int (xs (nI (5 * N + 1)).toNatClampNeg), .int (xs (nI (5 * N + 2)).toNatClampNeg), .int (xs (nI (5 * N + 3)).toNatClampNeg), .int (xs (nI (5 * N + 4)).toNatClampNeg)]) (rest := []) ⟨hx, hb, hml, hown, htl⟩ (c7_ageing l dC dI cI cP a o f g pa t9 n pd pk pv H.size hPp.2.1 hPp.1 (fun i hi => (hPp.2.2.2 i hi).1) (fun i hi => (hPp.2.2.2 i hi).2.1) (xs (nI (5 * N + 1)).toNatClampNeg) (xs (nI (5 * N + 2)).toNatClampNeg) (xs (nI (5 * N + 3)).toNatClampNeg) (xs (nI (5 * N + 4)).toNatClampNeg)) (cwV 4 htl gL_law_X7_ageing rfl rfl rfl (by decide +kernel) ⟨Nat.le_of_ble_eq_true rfl, Nat.le_of_ble_eq_true rfl⟩) ⟨fun a U g mk q => by obtain ⟨q0, q1, qP, qK, qN, qD⟩ := q; exact ⟨q0, q1, qP, va_K.moved (u := U) (U := U.calling g mk a) (Vm.Alike.refl U.vm) qK, xN.same (u := U) (U := U.calling g mk a) rfl qN, qD⟩, va_recv hK hPx (ci := 7) (q0 := 0) rfl rfl, fun U hU hW => ⟨rfl, by rw [hU], by rw [hU]; exact hPx, va_K.moved hW.alike hK, xN.warm hW hN, hDx.weaken (fun _ _ _ _ => trivial)⟩⟩ rfl rfl hl.1 rfl (lv_room (Nat.le_of_ble_eq_true rfl)) dL_law_743 ⟨(by show 28 + N + 0 ≤ 600000; omega), (by show 351 + 6 * N + 0 ≤ 7302250; omega)⟩) hS (fun q _ h => hFx q h) hFx (fun r1 u t H1 locs ht hvm hw hB hz1 hk1 hS => ?_)
  obtain ⟨hP1, hK1, hD1⟩ := hB
  rw [ht] at hP1
  obtain ⟨hP, hD⟩ := jr hP hD hk1 hFx hP1 hD1
  clear hP1 hD1 hK1 hPx hDx hFx hk1 hz1
  generalize H1 = H at hP hS ⊢
  refine lv_aload_n hx hb dL_law_746 rfl (lv_at hl 1 rfl) ?_
  refine lv_aload_n hx hb dL_law_747 rfl (lv_at hl 3 rfl) ?_
  refine lv_iload_n hx hb dL_law_748 rfl (lv_at hl 0 rfl) ?_
  refine lv_iconst (v := nI (1)) hx hb dL_law_749 (by decide +kernel) ?_
  refine lv_iadd hx hb dL_law_750 ?_
  refine tq (nI_add (5 * N) (1)) ?_
  refine va_sld hx hb hX hbl hbA hS (vp_in_nI (show 5 * N + 1 < L by omega) (by omega)) dL_law_751 ?_
  refine lv_aload_n hx hb dL_law_752 rfl (lv_at hl 3 rfl) ?_
  refine lv_iload_n hx hb dL_law_753 rfl (lv_at hl 0 rfl) ?_
  refine lv_iconst (v := nI (2)) hx hb dL_law_754 (by decide +kernel) ?_
  refine lv_iadd hx hb dL_law_755 ?_
  refine tq (nI_add (5 * N) (2)) ?_
  refine va_sld hx hb hX hbl hbA hS (vp_in_nI (show 5 * N + 2 < L by omega) (by omega)) dL_law_756 ?_
  refine lv_aload_n hx hb dL_law_757 rfl (lv_at hl 3 rfl) ?_
  refine lv_iload_n hx hb dL_law_758 rfl (lv_at hl 0 rfl) ?_
  refine lv_iconst (v := nI (3)) hx hb dL_law_759 (by decide +kernel) ?_
  refine lv_iadd hx hb dL_law_760 ?_
  refine tq (nI_add (5 * N) (3)) ?_
  refine va_sld hx hb hX hbl hbA hS (vp_in_nI (show 5 * N + 3 < L by omega) (by omega)) dL_law_761 ?_
  refine lv_aload_n hx hb dL_law_762 rfl (lv_at hl 3 rfl) ?_
  refine lv_iload_n hx hb dL_law_763 rfl (lv_at hl 0 rfl) ?_
  refine lv_iconst (v := nI (4)) hx hb dL_law_764 (by decide +kernel) ?_
  refine lv_iadd hx hb dL_law_765 ?_
  refine tq (nI_add (5 * N) (4)) ?_
  refine va_sld hx hb hX hbl hbA hS (vp_in_nI (show 5 * N + 4 < L by omega) (by omega)) dL_law_766 ?_
  have hPm := va_P_l hP
  have hDm := va_D_l hD
  have hFm := va_Af hDm hS hA
  refine va_calli (va_runV (As := [.int (xs (nI (5 * N + 1)).toNatClampNeg), .int (xs (nI (5 * N + 2)).toNatClampNeg), .int (xs (nI (5 * N + 3)).toNatClampNeg), .int (xs (nI (5 * N + 4)).toNatClampNeg)]) (rest := [.int r1]) ⟨hx, hb, hml, hown, htl⟩ (c8_ageing l dC dI cI a' o' f' g' h' H.size hPp.2.2.1 hPp.1 (xs (nI (5 * N + 1)).toNatClampNeg) (xs (nI (5 * N + 2)).toNatClampNeg) (xs (nI (5 * N + 3)).toNatClampNeg) (xs (nI (5 * N + 4)).toNatClampNeg)) (cwV 4 htl gL_law_X8_ageing rfl rfl rfl (by decide +kernel) ⟨Nat.le_of_ble_eq_true rfl, Nat.le_of_ble_eq_true rfl⟩) ⟨fun a U g mk q => by obtain ⟨q0, q1, qP, qK, qD⟩ := q; exact ⟨q0, q1, qP, va_K.moved (u := U) (U := U.calling g mk a) (Vm.Alike.refl U.vm) qK, qD⟩, va_recv hKm hPm (ci := 8) (q0 := 0) rfl rfl, fun U hU hW => ⟨rfl, by rw [hU], by rw [hU]; exact hPm, va_K.moved hW.alike hKm, hDm.weaken (fun _ _ _ _ => trivial)⟩⟩ rfl rfl hl.1 rfl (lv_room (Nat.le_of_ble_eq_true rfl)) dL_law_767 ⟨(by show 28 + N + 0 + 0 ≤ 600000; omega), (by show 351 + 6 * N + 0 + 0 ≤ 7302250; omega)⟩) hS (fun q _ h => hFm q h) hFm (fun r2 v t H1 locs ht hvm hwm hB hz1 hk1 hS => ?_)
  obtain ⟨hP1, hK1, hD1⟩ := hB
  rw [ht] at hP1
  obtain ⟨hP, hD⟩ := jl hP hD hk1 hFm hP1 hD1
  clear hP1 hD1 hK1 hPm hDm hFm hk1 hz1
  generalize H1 = H at hP hS ⊢
  have hq := p_ageing (tq := t9) (h' := h') R (xs (nI (5 * N + 1)).toNatClampNeg) (xs (nI (5 * N + 2)).toNatClampNeg) (xs (nI (5 * N + 3)).toNatClampNeg) (xs (nI (5 * N + 4)).toNatClampNeg)
  rw [← hw, ← hwm] at hq
  have hq : r1 = r2 ∧ RS (N + 1) u v := hq
  refine lv_icmp_eq (tgt := 838) hx hb dL_law_770 (by decide) (fun c_9 => ?_) (fun c_9 => absurd hq.1 c_9)
  refine W.widen (k := 28 + (N + 1)) (n := 351 + 6 * (N + 1)) (by omega) (by omega) ?_
  exact K u v H _ ls hq.2 hP hD hS hl
set_option maxHeartbeats 2000000 in
set_option maxRecDepth 100000 in
theorem lc_image {p : Program} {l : Launch} {e : Env} {s : State} {m : MethodId} {below : List Frame} {meth : Method} {c : Code} {b L : Nat} {xs : Nat → Int32} (C0 : lwC p s m meth c b L xs) {dC : Nat → ClassId} {dI : Nat → Nat → Nat} {cI cP : ClassId} {a : Nat} {o : Nat → Nat} {a' : Nat} {o' : Nat → Nat} (hK : va_K (dC, dI) vwCl [(cI, .int), (cP, .object RX4)] s) (hN : xN s) {N : Nat} (hNL : 5 * N + 5 ≤ L) {k1 n k8 cn9 q d : Nat} {f : Nat → Int32} {g : Nat → Nat → Int32} {pa : Nat → Option Nat} {t9 : Nat → Nat → Int32} {pd pk : Nat → Nat} {pv : Nat → Nat → Int32} {f' : Nat → Int32} {g' : Nat → Nat → Int32} {h' : Int64} (R : RR N k1 n k8 cn9 q d f g pa pd pk pv f' g') {H : Heap} {locs : List Loc} {ls : Array Slot} (hP : va_P (dC, dI) vwCl (mW cI a' o' f' g' h' ++ xW cI cP a o f g pa t9 n pd pk pv) H) (hD : va_D (fun q : Nat => s.heap.size ≤ q) (mW cI a' o' f' g' h' ++ xW cI cP a o f g pa t9 n pd pk pv)) (hS : va_S (fun q : Nat => s.heap.size ≤ q) s.heap H locs) (hl : lv_has ls 4 (lwL N b a a')) (K : lwK p l e s m b below meth c dC dI cI cP a o a' o' N) : W p l e room_1 s m #[Value.ref b] below meth c H locs (28 + N) (351 + 6 * N) (lw_Z below #[Value.ref b] s) (F0 m 775 ls []) := by
  obtain ⟨hx, hb, hml, hown, htl, hX, hbl, hL⟩ := id C0
  have hA : ∀ q : Nat, s.heap.size ≤ q → (fun q : Nat => s.heap.size ≤ q) q := fun _ h => h
  have hbA : ¬ (fun q : Nat => s.heap.size ≤ q) b := Nat.not_le.mpr hbl
  have hl : lv_has ls 4 [(3, .int (nI (5 * N))), (2, .ref a'), (1, .ref a), (0, .ref b)] := hl
  have hPp := R.2.2.2.2.1
  have hCn := R.2.2.2.1
  have hKm := hK.sub (tys' := [(cI, .int)]) [0] rfl
  refine lv_aload_n hx hb dL_law_775 rfl (lv_at hl 2 rfl) ?_
  have hPx := va_P_r hP
  have hDx := va_D_r hD
  have hFx := va_Af hDx hS hA
  refine va_calli (va_runV (As := []) (rest := []) ⟨hx, hb, hml, hown, htl⟩ (c7_image l dC dI cI cP a o f g pa t9 n pd pk pv H.size hPp.2.1 hPp.1 (fun i hi => (hPp.2.2.2 i hi).1) (fun i hi => (hPp.2.2.2 i hi).2.1) R.2.2.1.2.1 R.2.2.1.1) (cwV 0 htl gL_law_X7_image rfl rfl rfl (by decide +kernel) ⟨Nat.le_of_ble_eq_true rfl, Nat.le_of_ble_eq_true rfl⟩) ⟨fun a U g mk q => by obtain ⟨q0, q1, qP, qK, qN, qD⟩ := q; exact ⟨q0, q1, qP, va_K.moved (u := U) (U := U.calling g mk a) (Vm.Alike.refl U.vm) qK, xN.same (u := U) (U := U.calling g mk a) rfl qN, qD⟩, va_recv hK hPx (ci := 7) (q0 := 0) rfl rfl, fun U hU hW => ⟨rfl, by rw [hU], by rw [hU]; exact hPx, va_K.moved hW.alike hK, xN.warm hW hN, hDx.weaken (fun _ _ _ _ => trivial)⟩⟩ rfl rfl hl.1 rfl (lv_room (Nat.le_of_ble_eq_true rfl)) dL_law_776 ⟨(by show 28 + N + 0 ≤ 600000; omega), (by show 351 + 6 * N + 0 ≤ 7302250; omega)⟩) hS (fun q _ h => hFx q h) hFx (fun r1 u t H1 locs ht hvm hw hB hz1 hk1 hS => ?_)
  obtain ⟨hP1, hK1, hD1⟩ := hB
  rw [ht] at hP1
  obtain ⟨hP, hD⟩ := jr hP hD hk1 hFx hP1 hD1
  clear hP1 hD1 hK1 hPx hDx hFx hk1 hz1
  generalize H1 = H at hP hS ⊢
  refine lv_aload_n hx hb dL_law_779 rfl (lv_at hl 1 rfl) ?_
  have hPm := va_P_l hP
  have hDm := va_D_l hD
  have hFm := va_Af hDm hS hA
  refine va_calli (va_runV (As := []) (rest := [.int r1]) ⟨hx, hb, hml, hown, htl⟩ (c8_image l dC dI cI a' o' f' g' h' H.size hPp.2.2.1 hPp.1 R.2.2.1.2.2.1 R.2.2.1.1 R.2.2.2.2.2.1.2.2.1 R.2.2.2.2.2.1.1) (cwV 0 htl gL_law_X8_image rfl rfl rfl (by decide +kernel) ⟨Nat.le_of_ble_eq_true rfl, Nat.le_of_ble_eq_true rfl⟩) ⟨fun a U g mk q => by obtain ⟨q0, q1, qP, qK, qD⟩ := q; exact ⟨q0, q1, qP, va_K.moved (u := U) (U := U.calling g mk a) (Vm.Alike.refl U.vm) qK, qD⟩, va_recv hKm hPm (ci := 8) (q0 := 0) rfl rfl, fun U hU hW => ⟨rfl, by rw [hU], by rw [hU]; exact hPm, va_K.moved hW.alike hKm, hDm.weaken (fun _ _ _ _ => trivial)⟩⟩ rfl rfl hl.1 rfl (lv_room (Nat.le_of_ble_eq_true rfl)) dL_law_780 ⟨(by show 28 + N + 0 + 0 ≤ 600000; omega), (by show 351 + 6 * N + 0 + 0 ≤ 7302250; omega)⟩) hS (fun q _ h => hFm q h) hFm (fun r2 v t H1 locs ht hvm hwm hB hz1 hk1 hS => ?_)
  obtain ⟨hP1, hK1, hD1⟩ := hB
  rw [ht] at hP1
  obtain ⟨hP, hD⟩ := jl hP hD hk1 hFm hP1 hD1
  clear hP1 hD1 hK1 hPm hDm hFm hk1 hz1
  generalize H1 = H at hP hS ⊢
  have hq := p_image (tq := t9) (h' := h') R 
  rw [← hw, ← hwm] at hq
  have hq : r1 = r2 ∧ RS (N + 1) u v := hq
  refine lv_icmp_eq (tgt := 838) hx hb dL_law_783 (by decide) (fun c_9 => ?_) (fun c_9 => absurd hq.1 c_9)
  refine W.widen (k := 28 + (N + 1)) (n := 351 + 6 * (N + 1)) (by omega) (by omega) ?_
  exact K u v H _ ls hq.2 hP hD hS hl
set_option maxHeartbeats 2000000 in
set_option maxRecDepth 100000 in
theorem lc_restore {p : Program} {l : Launch} {e : Env} {s : State} {m : MethodId} {below : List Frame} {meth : Method} {c : Code} {b L : Nat} {xs : Nat → Int32} (C0 : lwC p s m meth c b L xs) {dC : Nat → ClassId} {dI : Nat → Nat → Nat} {cI cP : ClassId} {a : Nat} {o : Nat → Nat} {a' : Nat} {o' : Nat → Nat} (hK : va_K (dC, dI) vwCl [(cI, .int), (cP, .object RX4)] s) (hN : xN s) {N : Nat} (hNL : 5 * N + 5 ≤ L) {k1 n k8 cn9 q d : Nat} {f : Nat → Int32} {g : Nat → Nat → Int32} {pa : Nat → Option Nat} {t9 : Nat → Nat → Int32} {pd pk : Nat → Nat} {pv : Nat → Nat → Int32} {f' : Nat → Int32} {g' : Nat → Nat → Int32} {h' : Int64} (R : RR N k1 n k8 cn9 q d f g pa pd pk pv f' g') {H : Heap} {locs : List Loc} {ls : Array Slot} (hP : va_P (dC, dI) vwCl (mW cI a' o' f' g' h' ++ xW cI cP a o f g pa t9 n pd pk pv) H) (hD : va_D (fun q : Nat => s.heap.size ≤ q) (mW cI a' o' f' g' h' ++ xW cI cP a o f g pa t9 n pd pk pv)) (hS : va_S (fun q : Nat => s.heap.size ≤ q) s.heap H locs) (hl : lv_has ls 4 (lwL N b a a')) (K : lwK p l e s m b below meth c dC dI cI cP a o a' o' N) : W p l e room_1 s m #[Value.ref b] below meth c H locs (28 + N) (351 + 6 * N) (lw_Z below #[Value.ref b] s) (F0 m 788 ls []) := by
  obtain ⟨hx, hb, hml, hown, htl, hX, hbl, hL⟩ := id C0
  have hA : ∀ q : Nat, s.heap.size ≤ q → (fun q : Nat => s.heap.size ≤ q) q := fun _ h => h
  have hbA : ¬ (fun q : Nat => s.heap.size ≤ q) b := Nat.not_le.mpr hbl
  have hl : lv_has ls 4 [(3, .int (nI (5 * N))), (2, .ref a'), (1, .ref a), (0, .ref b)] := hl
  have hPp := R.2.2.2.2.1
  have hCn := R.2.2.2.1
  have hKm := hK.sub (tys' := [(cI, .int)]) [0] rfl
  obtain ⟨m9, e13, b13⟩ := kp_n R
  refine lv_aload_n hx hb dL_law_788 rfl (lv_at hl 2 rfl) ?_
  have hPx := va_P_r hP
  have hDx := va_D_r hD
  have hFx := va_Af hDx hS hA
  refine va_calli (va_runV (As := []) (rest := []) ⟨hx, hb, hml, hown, htl⟩ (c7_restore l dC dI cI cP a o f g pa t9 n pd pk pv H.size hPp.2.1 hPp.1 (fun i hi => (hPp.2.2.2 i hi).1) (fun i hi => (hPp.2.2.2 i hi).2.1) e13 b13) (cwV 0 htl gL_law_X7_restore rfl rfl rfl (by decide +kernel) ⟨Nat.le_of_ble_eq_true rfl, Nat.le_of_ble_eq_true rfl⟩) ⟨fun a U g mk q => by obtain ⟨q0, q1, qP, qK, qN, qD⟩ := q; exact ⟨q0, q1, qP, va_K.moved (u := U) (U := U.calling g mk a) (Vm.Alike.refl U.vm) qK, xN.same (u := U) (U := U.calling g mk a) rfl qN, qD⟩, va_recv hK hPx (ci := 7) (q0 := 0) rfl rfl, fun U hU hW => ⟨rfl, by rw [hU], by rw [hU]; exact hPx, va_K.moved hW.alike hK, xN.warm hW hN, hDx.weaken (fun _ _ _ _ => trivial)⟩⟩ rfl rfl hl.1 rfl (lv_room (Nat.le_of_ble_eq_true rfl)) dL_law_789 ⟨(by show 28 + N + 0 ≤ 600000; omega), (by show 351 + 6 * N + 0 ≤ 7302250; omega)⟩) hS (fun q _ h => hFx q h) hFx (fun r1 u t H1 locs ht hvm hw hB hz1 hk1 hS => ?_)
  obtain ⟨hP1, hK1, hD1⟩ := hB
  rw [ht] at hP1
  obtain ⟨hP, hD⟩ := jr hP hD hk1 hFx hP1 hD1
  clear hP1 hD1 hK1 hPx hDx hFx hk1 hz1
  generalize H1 = H at hP hS ⊢
  refine lv_aload_n hx hb dL_law_792 rfl (lv_at hl 1 rfl) ?_
  have hPm := va_P_l hP
  have hDm := va_D_l hD
  have hFm := va_Af hDm hS hA
  refine va_calli (va_runV (As := []) (rest := [.int r1]) ⟨hx, hb, hml, hown, htl⟩ (c8_restore l dC dI cI a' o' f' g' h' H.size) (cwV 0 htl gL_law_X8_restore rfl rfl rfl (by decide +kernel) ⟨Nat.le_of_ble_eq_true rfl, Nat.le_of_ble_eq_true rfl⟩) ⟨fun a U g mk q => by obtain ⟨q0, q1, qP, qK, qD⟩ := q; exact ⟨q0, q1, qP, va_K.moved (u := U) (U := U.calling g mk a) (Vm.Alike.refl U.vm) qK, qD⟩, va_recv hKm hPm (ci := 8) (q0 := 0) rfl rfl, fun U hU hW => ⟨rfl, by rw [hU], by rw [hU]; exact hPm, va_K.moved hW.alike hKm, hDm.weaken (fun _ _ _ _ => trivial)⟩⟩ rfl rfl hl.1 rfl (lv_room (Nat.le_of_ble_eq_true rfl)) dL_law_793 ⟨(by show 28 + N + 0 + 0 ≤ 600000; omega), (by show 351 + 6 * N + 0 + 0 ≤ 7302250; omega)⟩) hS (fun q _ h => hFm q h) hFm (fun r2 v t H1 locs ht hvm hwm hB hz1 hk1 hS => ?_)
  obtain ⟨hP1, hK1, hD1⟩ := hB
  rw [ht] at hP1
  obtain ⟨hP, hD⟩ := jl hP hD hk1 hFm hP1 hD1
  clear hP1 hD1 hK1 hPm hDm hFm hk1 hz1
  generalize H1 = H at hP hS ⊢
  have hq := p_restore (tq := t9) (h' := h') R e13 b13
  rw [← hw, ← hwm] at hq
  have hq : r1 = r2 ∧ RS (N + 1) u v := hq
  refine lv_icmp_eq (tgt := 838) hx hb dL_law_796 (by decide) (fun c_9 => ?_) (fun c_9 => absurd hq.1 c_9)
  refine W.widen (k := 28 + (N + 1)) (n := 351 + 6 * (N + 1)) (by omega) (by omega) ?_
  exact K u v H _ ls hq.2 hP hD hS hl
set_option maxHeartbeats 2000000 in
set_option maxRecDepth 100000 in
theorem lc_count {p : Program} {l : Launch} {e : Env} {s : State} {m : MethodId} {below : List Frame} {meth : Method} {c : Code} {b L : Nat} {xs : Nat → Int32} (C0 : lwC p s m meth c b L xs) {dC : Nat → ClassId} {dI : Nat → Nat → Nat} {cI cP : ClassId} {a : Nat} {o : Nat → Nat} {a' : Nat} {o' : Nat → Nat} (hK : va_K (dC, dI) vwCl [(cI, .int), (cP, .object RX4)] s) (hN : xN s) {N : Nat} (hNL : 5 * N + 5 ≤ L) {k1 n k8 cn9 q d : Nat} {f : Nat → Int32} {g : Nat → Nat → Int32} {pa : Nat → Option Nat} {t9 : Nat → Nat → Int32} {pd pk : Nat → Nat} {pv : Nat → Nat → Int32} {f' : Nat → Int32} {g' : Nat → Nat → Int32} {h' : Int64} (R : RR N k1 n k8 cn9 q d f g pa pd pk pv f' g') {H : Heap} {locs : List Loc} {ls : Array Slot} (hP : va_P (dC, dI) vwCl (mW cI a' o' f' g' h' ++ xW cI cP a o f g pa t9 n pd pk pv) H) (hD : va_D (fun q : Nat => s.heap.size ≤ q) (mW cI a' o' f' g' h' ++ xW cI cP a o f g pa t9 n pd pk pv)) (hS : va_S (fun q : Nat => s.heap.size ≤ q) s.heap H locs) (hl : lv_has ls 4 (lwL N b a a')) (K : lwK p l e s m b below meth c dC dI cI cP a o a' o' N) : W p l e room_1 s m #[Value.ref b] below meth c H locs (28 + N) (351 + 6 * N) (lw_Z below #[Value.ref b] s) (F0 m 801 ls []) := by
  obtain ⟨hx, hb, hml, hown, htl, hX, hbl, hL⟩ := id C0
  have hA : ∀ q : Nat, s.heap.size ≤ q → (fun q : Nat => s.heap.size ≤ q) q := fun _ h => h
  have hbA : ¬ (fun q : Nat => s.heap.size ≤ q) b := Nat.not_le.mpr hbl
  have hl : lv_has ls 4 [(3, .int (nI (5 * N))), (2, .ref a'), (1, .ref a), (0, .ref b)] := hl
  have hPp := R.2.2.2.2.1
  have hCn := R.2.2.2.1
  have hKm := hK.sub (tys' := [(cI, .int)]) [0] rfl
  refine lv_aload_n hx hb dL_law_801 rfl (lv_at hl 2 rfl) ?_
  refine lv_aload_n hx hb dL_law_802 rfl (lv_at hl 3 rfl) ?_
  refine lv_iload_n hx hb dL_law_803 rfl (lv_at hl 0 rfl) ?_
  refine lv_iconst (v := nI (1)) hx hb dL_law_804 (by decide +kernel) ?_
  refine lv_iadd hx hb dL_law_805 ?_
  refine tq (nI_add (5 * N) (1)) ?_
  refine va_sld hx hb hX hbl hbA hS (vp_in_nI (show 5 * N + 1 < L by omega) (by omega)) dL_law_806 ?_
  have hPx := va_P_r hP
  have hDx := va_D_r hD
  refine vp_callSi (va_Run.run (va_runV (As := [.int (xs (nI (5 * N + 1)).toNatClampNeg)]) (rest := []) ⟨hx, hb, hml, hown, htl⟩ (c7_count l dC dI cI cP a o f g pa t9 n pd pk pv hPp.2.1 hPp.1 (fun i hi => (hPp.2.2.2 i hi).1) (fun i hi => (hPp.2.2.2 i hi).2.1) R.2.2.1.2.1 R.2.2.1.1 R.1.2.1 R.1.1 R.2.2.2.2.2.1.2.1 R.2.2.2.2.2.1.1 (xs (nI (5 * N + 1)).toNatClampNeg)) (cwV 1 htl gL_law_X7_count rfl rfl rfl (by decide +kernel) ⟨Nat.le_of_ble_eq_true rfl, Nat.le_of_ble_eq_true rfl⟩) ⟨fun a U g mk q => ⟨q.1, q.2.1, va_K.moved (u := U) (U := U.calling g mk a) (Vm.Alike.refl U.vm) q.2.2.1, xN.same (u := U) (U := U.calling g mk a) rfl q.2.2.2⟩, va_recv hK hPx (ci := 7) (q0 := 0) rfl rfl, fun U hU hW => ⟨rfl, by rw [hU]; exact hPx, va_K.moved hW.alike hK, xN.warm hW hN⟩⟩ rfl rfl hl.1 rfl (lv_room (Nat.le_of_ble_eq_true rfl)) dL_law_807 ⟨(by show 28 + N + 0 ≤ 600000; omega), (by show 351 + 6 * N + 0 ≤ 7302250; omega)⟩)) (fun r1 hr1 => ?_)
  refine lv_aload_n hx hb dL_law_810 rfl (lv_at hl 1 rfl) ?_
  refine lv_aload_n hx hb dL_law_811 rfl (lv_at hl 3 rfl) ?_
  refine lv_iload_n hx hb dL_law_812 rfl (lv_at hl 0 rfl) ?_
  refine lv_iconst (v := nI (1)) hx hb dL_law_813 (by decide +kernel) ?_
  refine lv_iadd hx hb dL_law_814 ?_
  refine tq (nI_add (5 * N) (1)) ?_
  refine va_sld hx hb hX hbl hbA hS (vp_in_nI (show 5 * N + 1 < L by omega) (by omega)) dL_law_815 ?_
  have hPm := va_P_l hP
  have hDm := va_D_l hD
  refine vp_callSi (va_Run.run (va_runV (As := [.int (xs (nI (5 * N + 1)).toNatClampNeg)]) (rest := [.int r1]) ⟨hx, hb, hml, hown, htl⟩ (c8_count l dC dI cI a' o' f' g' h' R.1.2.2.1 R.1.1 hPp.2.2.1 hPp.1 R.2.2.1.2.2.1 R.2.2.1.1 R.2.2.2.2.2.1.2.2.1 R.2.2.2.2.2.1.1 (xs (nI (5 * N + 1)).toNatClampNeg)) (cwV 1 htl gL_law_X8_count rfl rfl rfl (by decide +kernel) ⟨Nat.le_of_ble_eq_true rfl, Nat.le_of_ble_eq_true rfl⟩) ⟨fun a U g mk q => ⟨q.1, q.2.1, va_K.moved (u := U) (U := U.calling g mk a) (Vm.Alike.refl U.vm) q.2.2⟩, va_recv hKm hPm (ci := 8) (q0 := 0) rfl rfl, fun U hU hW => ⟨rfl, by rw [hU]; exact hPm, va_K.moved hW.alike hKm⟩⟩ rfl rfl hl.1 rfl (lv_room (Nat.le_of_ble_eq_true rfl)) dL_law_816 ⟨(by show 28 + N + 0 + 0 ≤ 600000; omega), (by show 351 + 6 * N + 0 + 0 ≤ 7302250; omega)⟩)) (fun r2 hr2 => ?_)
  have hq : r1 = r2 ∧ RS (N + 1) (f, g, pa, t9, n, pd, pk, pv) (f', g', h') := ⟨by rw [hr1, hr2]; exact p_count R (xs (nI (5 * N + 1)).toNatClampNeg), R.rs1⟩
  refine lv_icmp_eq (tgt := 838) hx hb dL_law_819 (by decide) (fun c_9 => ?_) (fun c_9 => absurd hq.1 c_9)
  refine W.widen (k := 28 + (N + 1)) (n := 351 + 6 * (N + 1)) (by omega) (by omega) ?_
  exact K (f, g, pa, t9, n, pd, pk, pv) (f', g', h') H _ ls hq.2 hP hD hS hl
set_option maxHeartbeats 2000000 in
set_option maxRecDepth 100000 in
theorem lc_digest {p : Program} {l : Launch} {e : Env} {s : State} {m : MethodId} {below : List Frame} {meth : Method} {c : Code} {b L : Nat} {xs : Nat → Int32} (C0 : lwC p s m meth c b L xs) {dC : Nat → ClassId} {dI : Nat → Nat → Nat} {cI cP : ClassId} {a : Nat} {o : Nat → Nat} {a' : Nat} {o' : Nat → Nat} (hK : va_K (dC, dI) vwCl [(cI, .int), (cP, .object RX4)] s) (hN : xN s) {N : Nat} (hNL : 5 * N + 5 ≤ L) {k1 n k8 cn9 q d : Nat} {f : Nat → Int32} {g : Nat → Nat → Int32} {pa : Nat → Option Nat} {t9 : Nat → Nat → Int32} {pd pk : Nat → Nat} {pv : Nat → Nat → Int32} {f' : Nat → Int32} {g' : Nat → Nat → Int32} {h' : Int64} (R : RR N k1 n k8 cn9 q d f g pa pd pk pv f' g') {H : Heap} {locs : List Loc} {ls : Array Slot} (hP : va_P (dC, dI) vwCl (mW cI a' o' f' g' h' ++ xW cI cP a o f g pa t9 n pd pk pv) H) (hD : va_D (fun q : Nat => s.heap.size ≤ q) (mW cI a' o' f' g' h' ++ xW cI cP a o f g pa t9 n pd pk pv)) (hS : va_S (fun q : Nat => s.heap.size ≤ q) s.heap H locs) (hl : lv_has ls 4 (lwL N b a a')) (K : lwK p l e s m b below meth c dC dI cI cP a o a' o' N) : W p l e room_1 s m #[Value.ref b] below meth c H locs (28 + N) (351 + 6 * N) (lw_Z below #[Value.ref b] s) (F0 m 824 ls []) := by
  obtain ⟨hx, hb, hml, hown, htl, hX, hbl, hL⟩ := id C0
  have hA : ∀ q : Nat, s.heap.size ≤ q → (fun q : Nat => s.heap.size ≤ q) q := fun _ h => h
  have hbA : ¬ (fun q : Nat => s.heap.size ≤ q) b := Nat.not_le.mpr hbl
  have hl : lv_has ls 4 [(3, .int (nI (5 * N))), (2, .ref a'), (1, .ref a), (0, .ref b)] := hl
  have hPp := R.2.2.2.2.1
  have hCn := R.2.2.2.1
  have hKm := hK.sub (tys' := [(cI, .int)]) [0] rfl
  refine lv_aload_n hx hb dL_law_824 rfl (lv_at hl 2 rfl) ?_
  have hPx := va_P_r hP
  have hDx := va_D_r hD
  refine vp_callSl (va_Run.run (va_runV (As := []) (rest := []) ⟨hx, hb, hml, hown, htl⟩ (c7_digest l dC dI cI cP a o f g pa t9 n pd pk pv hPp.2.1 hPp.1 (fun i hi => (hPp.2.2.2 i hi).1) (fun i hi => (hPp.2.2.2 i hi).2.1) R.2.2.1.2.1 R.2.2.1.1 R.1.2.1 R.1.1 R.2.2.2.2.2.1.2.1 R.2.2.2.2.2.1.1) (cwV 0 htl gL_law_X7_digest rfl rfl rfl (by decide +kernel) ⟨Nat.le_of_ble_eq_true rfl, Nat.le_of_ble_eq_true rfl⟩) ⟨fun a U g mk q => ⟨q.1, q.2.1, va_K.moved (u := U) (U := U.calling g mk a) (Vm.Alike.refl U.vm) q.2.2.1, xN.same (u := U) (U := U.calling g mk a) rfl q.2.2.2⟩, va_recv hK hPx (ci := 7) (q0 := 0) rfl rfl, fun U hU hW => ⟨rfl, by rw [hU]; exact hPx, va_K.moved hW.alike hK, xN.warm hW hN⟩⟩ rfl rfl hl.1 rfl (lv_room (Nat.le_of_ble_eq_true rfl)) dL_law_825 ⟨(by show 28 + N + 0 ≤ 600000; omega), (by show 351 + 6 * N + 0 ≤ 7302250; omega)⟩)) (fun r1 hr1 => ?_)
  refine lv_aload_n hx hb dL_law_828 rfl (lv_at hl 1 rfl) ?_
  have hPm := va_P_l hP
  have hDm := va_D_l hD
  have hFm := va_Af hDm hS hA
  refine va_calll (va_runV (As := []) (rest := [.long r1]) ⟨hx, hb, hml, hown, htl⟩ (c8_digest l dC dI cI a' o' f' g' h' H.size R.1.2.2.1 R.1.1 hPp.2.2.1 hPp.1 R.2.2.1.2.2.1 R.2.2.1.1 R.2.2.2.2.2.1.2.2.1 R.2.2.2.2.2.1.1) (cwV 0 htl gL_law_X8_digest rfl rfl rfl (by decide +kernel) ⟨Nat.le_of_ble_eq_true rfl, Nat.le_of_ble_eq_true rfl⟩) ⟨fun a U g mk q => by obtain ⟨q0, q1, qP, qK, qD⟩ := q; exact ⟨q0, q1, qP, va_K.moved (u := U) (U := U.calling g mk a) (Vm.Alike.refl U.vm) qK, qD⟩, va_recv hKm hPm (ci := 8) (q0 := 0) rfl rfl, fun U hU hW => ⟨rfl, by rw [hU], by rw [hU]; exact hPm, va_K.moved hW.alike hKm, hDm.weaken (fun _ _ _ _ => trivial)⟩⟩ rfl rfl hl.1 rfl (lv_room (Nat.le_of_ble_eq_true rfl)) dL_law_829 ⟨(by show 28 + N + 0 + 0 ≤ 600000; omega), (by show 351 + 6 * N + 0 + 0 ≤ 7302250; omega)⟩) hS (fun q _ h => hFm q h) hFm (fun r2 v t H1 locs ht hvm hwm hB hz1 hk1 hS => ?_)
  obtain ⟨hP1, hK1, hD1⟩ := hB
  rw [ht] at hP1
  obtain ⟨hP, hD⟩ := jl hP hD hk1 hFm hP1 hD1
  clear hP1 hD1 hK1 hPm hDm hFm hk1 hz1
  generalize H1 = H at hP hS ⊢
  have hq : r1 = r2 ∧ RS (N + 1) (f, g, pa, t9, n, pd, pk, pv) v := by
    obtain ⟨e1, e2⟩ := Prod.mk.inj hwm
    subst e2
    exact ⟨by rw [hr1, e1]; exact (p_digest (tq := t9) (h' := h') R).1, R.rs1⟩
  rw [hq.1]
  refine W.lcmp hx hb dL_law_832 ?_
  refine lv_if_eq (tgt := 838) hx hb dL_law_833 (by decide) (fun c_9 => ?_) (fun c_9 => absurd (lg_self _) c_9)
  refine W.widen (k := 28 + (N + 1)) (n := 351 + 6 * (N + 1)) (by omega) (by omega) ?_
  exact K (f, g, pa, t9, n, pd, pk, pv) v H _ ls hq.2 hP hD hS hl
