/-! the law: two worlds side by side, a case for each call, the loop, from its entry -/
theorem va_P_l {D : va_G} {cl : List vw_C} {w1 w2 : va_W} {H : Heap} (h : va_P D cl (w1 ++ w2) H) : va_P D cl w1 H := fun k q hk => h k q (by
  rw [List.getElem?_append_left (List.getElem?_eq_some_iff.mp hk).1]
  exact hk)
theorem va_P_r {D : va_G} {cl : List vw_C} {w1 w2 : va_W} {H : Heap} (h : va_P D cl (w1 ++ w2) H) : va_P D cl w2 H := fun k q hk => h (w1.length + k) q (by
  rw [List.getElem?_append_right (by omega), Nat.add_sub_cancel_left]
  exact hk)
theorem va_D_l {A : Nat → Prop} {w1 w2 : va_W} (h : va_D A (w1 ++ w2)) : va_D A w1 := by
  have key : ∀ (k : Nat) (q : Nat × va_E), w1[k]? = some q → (w1 ++ w2)[k]? = some q := fun k q hk => by
    rw [List.getElem?_append_left (List.getElem?_eq_some_iff.mp hk).1]
    exact hk
  exact ⟨fun i j p q hi hj e => h.1 i j p q (key i p hi) (key j q hj) e, fun k q hk => h.2 k q (key k q hk)⟩
theorem va_D_r {A : Nat → Prop} {w1 w2 : va_W} (h : va_D A (w1 ++ w2)) : va_D A w2 := by
  have key : ∀ (k : Nat) (q : Nat × va_E), w2[k]? = some q → (w1 ++ w2)[w1.length + k]? = some q := fun k q hk => by
    rw [List.getElem?_append_right (by omega), Nat.add_sub_cancel_left]
    exact hk
  refine ⟨fun i j p q hi hj e => ?_, fun k q hk => h.2 _ q (key k q hk)⟩
  have := h.1 _ _ p q (key i p hi) (key j q hj) e
  omega
theorem va_D_x {A : Nat → Prop} {w1 w2 : va_W} (h : va_D A (w1 ++ w2)) (i j : Nat) (p q : Nat × va_E) (hi : w1[i]? = some p) (hj : w2[j]? = some q) : p.1 ≠ q.1 := by
  intro e
  have h1 := (List.getElem?_eq_some_iff.mp hi).1
  have := h.1 i (w1.length + j) p q (by rw [List.getElem?_append_left h1]; exact hi) (by rw [List.getElem?_append_right (by omega), Nat.add_sub_cancel_left]; exact hj) e
  omega
/-- behind a call on the right world, or on the left one: the other is unchanged -/
theorem jr {A0 : Nat → Prop} {D : va_G} {cl : List vw_C} {w1 w2 w3 : va_W} {H H1 : Heap} (hP : va_P D cl (w1 ++ w2) H) (hD : va_D A0 (w1 ++ w2)) (hk : ∀ q : Nat, q < H.size → ¬ va_A w2 H.size q → H1[q]? = H[q]?) (hF : ∀ q, va_A w2 H.size q → A0 q) (hP1 : va_P D cl w3 H1) (hD1 : va_D (va_A w2 H.size) w3) : va_P D cl (w1 ++ w3) H1 ∧ va_D A0 (w1 ++ w3) := by
  have hL := va_P_l hP
  have no : ∀ (k : Nat) (p : Nat × va_E), w1[k]? = some p → ¬ va_A w2 H.size p.1 := fun k p hp h => h.elim (fun ⟨j, e, hj⟩ => va_D_x hD k j p (p.1, e) hp hj rfl) (fun h => by have := (hL k p hp).lt; omega)
  refine ⟨va_P.app (fun k p hp => (hL k p hp).kept (hk p.1 (hL k p hp).lt (no k p hp))) hP1, va_D.app (va_D_l hD) (hD1.weaken (fun k q _ h => hF q.1 h)) (fun i j x y hx hy hxy => ?_)⟩
  exact no i x hx (by rw [hxy]; exact hD1.2 j y hy)
theorem jl {A0 : Nat → Prop} {D : va_G} {cl : List vw_C} {w1 w2 w3 : va_W} {H H1 : Heap} (hP : va_P D cl (w1 ++ w2) H) (hD : va_D A0 (w1 ++ w2)) (hk : ∀ q : Nat, q < H.size → ¬ va_A w1 H.size q → H1[q]? = H[q]?) (hF : ∀ q, va_A w1 H.size q → A0 q) (hP1 : va_P D cl w3 H1) (hD1 : va_D (va_A w1 H.size) w3) : va_P D cl (w3 ++ w2) H1 ∧ va_D A0 (w3 ++ w2) := by
  have hL := va_P_r hP
  have no : ∀ (k : Nat) (p : Nat × va_E), w2[k]? = some p → ¬ va_A w1 H.size p.1 := fun k p hp h => h.elim (fun ⟨j, e, hj⟩ => va_D_x hD j k (p.1, e) p hj hp rfl) (fun h => by have := (hL k p hp).lt; omega)
  refine ⟨va_P.app hP1 (fun k p hp => (hL k p hp).kept (hk p.1 (hL k p hp).lt (no k p hp))), va_D.app (hD1.weaken (fun k q _ h => hF q.1 h)) (va_D_r hD) (fun i j x y hx hy hxy => ?_)⟩
  exact no j y hy (by rw [← hxy]; exact hD1.2 i x hx)
theorem va_Af {A : Nat → Prop} {w : va_W} {H H0 : Heap} {locs : List Loc} (hD : va_D A w) (hS : va_S A H0 H locs) (hA : ∀ q : Nat, H0.size ≤ q → A q) : ∀ q, va_A w H.size q → A q := fun q h => h.elim (fun ⟨j, e, hj⟩ => hD.2 j (q, e) hj) (fun h => hA q (Nat.le_trans hS.1 h))
theorem lg_self (x : Int64) : lg_cmp x x = 0 := by
  unfold lg_cmp
  rw [if_neg (show ¬ x > x from fun z => by have := Int64.lt_iff_toInt_lt.mp z; omega), if_pos rfl]
def lwL (N b a a' : Nat) : List (Nat × Value) := [(3, .int (nI (5 * N))), (2, .ref a'), (1, .ref a), (0, .ref b)]
/-- what goes on behind a case -/
def lwK (p : Program) (l : Launch) (e : Env) (s : State) (m : MethodId) (b : Nat) (below : List Frame) (meth : Method) (c : Code) (dC : Nat → ClassId) (dI : Nat → Nat → Nat) (cI cP : ClassId) (a : Nat) (o : Nat → Nat) (a' : Nat) (o' : Nat → Nat) (N : Nat) : Prop := ∀ (u : XSt) (v : MSt) (H : Heap) (locs : List Loc) (ls : Array Slot), RS (N + 1) u v → va_P (dC, dI) vwCl (mW cI a' o' v.1 v.2.1 v.2.2 ++ xWu cI cP a o u) H → va_D (fun q : Nat => s.heap.size ≤ q) (mW cI a' o' v.1 v.2.1 v.2.2 ++ xWu cI cP a o u) → va_S (fun q : Nat => s.heap.size ≤ q) s.heap H locs → lv_has ls 4 (lwL N b a a') → W p l e room_1 s m #[Value.ref b] below meth c H locs (28 + (N + 1)) (351 + 6 * (N + 1)) (lw_Z below #[Value.ref b] s) (F0 m 838 ls [])
/-- what holds at the law's entry, with the words of its calls -/
def lwC (p : Program) (s : State) (m : MethodId) (meth : Method) (c : Code) (b L : Nat) (xs : Nat → Int32) : Prop := p.tables.exec = Jvm.exec ∧ c.code = cL_law ∧ c.maxLocals = 4 ∧ s.vm.findClass RL = some m.cls ∧ (∀ w ∈ wsL_law, w.before #[Value.ref b] s = true) ∧ va_X b L xs s s.heap ∧ b < s.heap.size ∧ L ≤ 2560
set_option maxHeartbeats 2000000 in
set_option maxRecDepth 100000 in
theorem lc_letter {p : Program} {l : Launch} {e : Env} {s : State} {m : MethodId} {below : List Frame} {meth : Method} {c : Code} {b L : Nat} {xs : Nat → Int32} (C0 : lwC p s m meth c b L xs) {dC : Nat → ClassId} {dI : Nat → Nat → Nat} {cI cP : ClassId} {a : Nat} {o : Nat → Nat} {a' : Nat} {o' : Nat → Nat} (hK : va_K (dC, dI) vwCl [(cI, .int), (cP, .object RX4)] s) (hN : xN s) {N : Nat} (hNL : 5 * N + 5 ≤ L) {k1 n k8 cn9 q d : Nat} {f : Nat → Int32} {g : Nat → Nat → Int32} {pa : Nat → Option Nat} {t9 : Nat → Nat → Int32} {pd pk : Nat → Nat} {pv : Nat → Nat → Int32} {f' : Nat → Int32} {g' : Nat → Nat → Int32} {h' : Int64} (R : RR N k1 n k8 cn9 q d f g pa pd pk pv f' g') {H : Heap} {locs : List Loc} {ls : Array Slot} (hP : va_P (dC, dI) vwCl (mW cI a' o' f' g' h' ++ xW cI cP a o f g pa t9 n pd pk pv) H) (hD : va_D (fun q : Nat => s.heap.size ≤ q) (mW cI a' o' f' g' h' ++ xW cI cP a o f g pa t9 n pd pk pv)) (hS : va_S (fun q : Nat => s.heap.size ≤ q) s.heap H locs) (hl : lv_has ls 4 (lwL N b a a')) (K : lwK p l e s m b below meth c dC dI cI cP a o a' o' N) : W p l e room_1 s m #[Value.ref b] below meth c H locs (28 + N) (351 + 6 * N) (lw_Z below #[Value.ref b] s) (F0 m 156 ls []) := by
  obtain ⟨hx, hb, hml, hown, htl, hX, hbl, hL⟩ := id C0
  have hA : ∀ q : Nat, s.heap.size ≤ q → (fun q : Nat => s.heap.size ≤ q) q := fun _ h => h
  have hbA : ¬ (fun q : Nat => s.heap.size ≤ q) b := Nat.not_le.mpr hbl
  have hl : lv_has ls 4 [(3, .int (nI (5 * N))), (2, .ref a'), (1, .ref a), (0, .ref b)] := hl
  have hPp := R.2.2.2.2.1
  have hCn := R.2.2.2.1
  have hKm := hK.sub (tys' := [(cI, .int)]) [0] rfl
  refine lv_aload_n hx hb dL_law_156 rfl (lv_at hl 2 rfl) ?_
  refine lv_aload_n hx hb dL_law_157 rfl (lv_at hl 3 rfl) ?_
  refine lv_iload_n hx hb dL_law_158 rfl (lv_at hl 0 rfl) ?_
  refine lv_iconst (v := nI (1)) hx hb dL_law_159 (by decide +kernel) ?_
  refine lv_iadd hx hb dL_law_160 ?_
  refine tq (nI_add (5 * N) (1)) ?_
  refine va_sld hx hb hX hbl hbA hS (vp_in_nI (show 5 * N + 1 < L by omega) (by omega)) dL_law_161 ?_
  have hPx := va_P_r hP
  have hDx := va_D_r hD
  have hFx := va_Af hDx hS hA
  refine va_calli (va_runV (As := [.int (xs (nI (5 * N + 1)).toNatClampNeg)]) (rest := []) ⟨hx, hb, hml, hown, htl⟩ (c7_letter l dC dI cI cP a o f g pa t9 n pd pk pv H.size R.1.2.1 R.1.1 (xs (nI (5 * N + 1)).toNatClampNeg)) (cwV 1 htl gL_law_X7_letter rfl rfl rfl (by decide +kernel) ⟨Nat.le_of_ble_eq_true rfl, Nat.le_of_ble_eq_true rfl⟩) ⟨fun a U g mk q => by obtain ⟨q0, q1, qP, qK, qN, qD⟩ := q; exact ⟨q0, q1, qP, va_K.moved (u := U) (U := U.calling g mk a) (Vm.Alike.refl U.vm) qK, xN.same (u := U) (U := U.calling g mk a) rfl qN, qD⟩, va_recv hK hPx (ci := 7) (q0 := 0) rfl rfl, fun U hU hW => ⟨rfl, by rw [hU], by rw [hU]; exact hPx, va_K.moved hW.alike hK, xN.warm hW hN, hDx.weaken (fun _ _ _ _ => trivial)⟩⟩ rfl rfl hl.1 rfl (lv_room (Nat.le_of_ble_eq_true rfl)) dL_law_162 ⟨(by show 28 + N + 0 ≤ 600000; omega), (by show 351 + 6 * N + 0 ≤ 7302250; omega)⟩) hS (fun q _ h => hFx q h) hFx (fun r1 u t H1 locs ht hvm hw hB hz1 hk1 hS => ?_)
  obtain ⟨hP1, hK1, hD1⟩ := hB
  rw [ht] at hP1
  obtain ⟨hP, hD⟩ := jr hP hD hk1 hFx hP1 hD1
  clear hP1 hD1 hK1 hPx hDx hFx hk1 hz1
  generalize H1 = H at hP hS ⊢
  refine lv_aload_n hx hb dL_law_165 rfl (lv_at hl 1 rfl) ?_
  refine lv_aload_n hx hb dL_law_166 rfl (lv_at hl 3 rfl) ?_
  refine lv_iload_n hx hb dL_law_167 rfl (lv_at hl 0 rfl) ?_
  refine lv_iconst (v := nI (1)) hx hb dL_law_168 (by decide +kernel) ?_
  refine lv_iadd hx hb dL_law_169 ?_
  refine tq (nI_add (5 * N) (1)) ?_
  refine va_sld hx hb hX hbl hbA hS (vp_in_nI (show 5 * N + 1 < L by omega) (by omega)) dL_law_170 ?_
  have hPm := va_P_l hP
  have hDm := va_D_l hD
  have hFm := va_Af hDm hS hA
  refine va_calli (va_runV (As := [.int (xs (nI (5 * N + 1)).toNatClampNeg)]) (rest := [.int r1]) ⟨hx, hb, hml, hown, htl⟩ (c8_letter l dC dI cI a' o' f' g' h' H.size R.1.2.2.1 R.1.1 (xs (nI (5 * N + 1)).toNatClampNeg)) (cwV 1 htl gL_law_X8_letter rfl rfl rfl (by decide +kernel) ⟨Nat.le_of_ble_eq_true rfl, Nat.le_of_ble_eq_true rfl⟩) ⟨fun a U g mk q => by obtain ⟨q0, q1, qP, qK, qD⟩ := q; exact ⟨q0, q1, qP, va_K.moved (u := U) (U := U.calling g mk a) (Vm.Alike.refl U.vm) qK, qD⟩, va_recv hKm hPm (ci := 8) (q0 := 0) rfl rfl, fun U hU hW => ⟨rfl, by rw [hU], by rw [hU]; exact hPm, va_K.moved hW.alike hKm, hDm.weaken (fun _ _ _ _ => trivial)⟩⟩ rfl rfl hl.1 rfl (lv_room (Nat.le_of_ble_eq_true rfl)) dL_law_171 ⟨(by show 28 + N + 0 + 0 ≤ 600000; omega), (by show 351 + 6 * N + 0 + 0 ≤ 7302250; omega)⟩) hS (fun q _ h => hFm q h) hFm (fun r2 v t H1 locs ht hvm hwm hB hz1 hk1 hS => ?_)
  obtain ⟨hP1, hK1, hD1⟩ := hB
  rw [ht] at hP1
  obtain ⟨hP, hD⟩ := jl hP hD hk1 hFm hP1 hD1
  clear hP1 hD1 hK1 hPm hDm hFm hk1 hz1
  generalize H1 = H at hP hS ⊢
  have hq := p_letter (tq := t9) (h' := h') R (xs (nI (5 * N + 1)).toNatClampNeg)
  rw [← hw, ← hwm] at hq
  have hq : r1 = r2 ∧ RS (N + 1) u v := hq
  refine lv_icmp_eq (tgt := 838) hx hb dL_law_174 (by decide) (fun c_9 => ?_) (fun c_9 => absurd hq.1 c_9)
  refine W.widen (k := 28 + (N + 1)) (n := 351 + 6 * (N + 1)) (by omega) (by omega) ?_
  exact K u v H _ ls hq.2 hP hD hS hl
set_option maxHeartbeats 2000000 in
set_option maxRecDepth 100000 in
theorem lc_blank {p : Program} {l : Launch} {e : Env} {s : State} {m : MethodId} {below : List Frame} {meth : Method} {c : Code} {b L : Nat} {xs : Nat → Int32} (C0 : lwC p s m meth c b L xs) {dC : Nat → ClassId} {dI : Nat → Nat → Nat} {cI cP : ClassId} {a : Nat} {o : Nat → Nat} {a' : Nat} {o' : Nat → Nat} (hK : va_K (dC, dI) vwCl [(cI, .int), (cP, .object RX4)] s) (hN : xN s) {N : Nat} (hNL : 5 * N + 5 ≤ L) {k1 n k8 cn9 q d : Nat} {f : Nat → Int32} {g : Nat → Nat → Int32} {pa : Nat → Option Nat} {t9 : Nat → Nat → Int32} {pd pk : Nat → Nat} {pv : Nat → Nat → Int32} {f' : Nat → Int32} {g' : Nat → Nat → Int32} {h' : Int64} (R : RR N k1 n k8 cn9 q d f g pa pd pk pv f' g') {H : Heap} {locs : List Loc} {ls : Array Slot} (hP : va_P (dC, dI) vwCl (mW cI a' o' f' g' h' ++ xW cI cP a o f g pa t9 n pd pk pv) H) (hD : va_D (fun q : Nat => s.heap.size ≤ q) (mW cI a' o' f' g' h' ++ xW cI cP a o f g pa t9 n pd pk pv)) (hS : va_S (fun q : Nat => s.heap.size ≤ q) s.heap H locs) (hl : lv_has ls 4 (lwL N b a a')) (K : lwK p l e s m b below meth c dC dI cI cP a o a' o' N) : W p l e room_1 s m #[Value.ref b] below meth c H locs (28 + N) (351 + 6 * N) (lw_Z below #[Value.ref b] s) (F0 m 179 ls []) := by
  obtain ⟨hx, hb, hml, hown, htl, hX, hbl, hL⟩ := id C0
  have hA : ∀ q : Nat, s.heap.size ≤ q → (fun q : Nat => s.heap.size ≤ q) q := fun _ h => h
  have hbA : ¬ (fun q : Nat => s.heap.size ≤ q) b := Nat.not_le.mpr hbl
  have hl : lv_has ls 4 [(3, .int (nI (5 * N))), (2, .ref a'), (1, .ref a), (0, .ref b)] := hl
  have hPp := R.2.2.2.2.1
  have hCn := R.2.2.2.1
  have hKm := hK.sub (tys' := [(cI, .int)]) [0] rfl
  refine lv_aload_n hx hb dL_law_179 rfl (lv_at hl 2 rfl) ?_
  have hPx := va_P_r hP
  have hDx := va_D_r hD
  have hFx := va_Af hDx hS hA
  refine va_calli (va_runV (As := []) (rest := []) ⟨hx, hb, hml, hown, htl⟩ (c7_blank l dC dI cI cP a o f g pa t9 n pd pk pv H.size R.1.2.1 R.1.1) (cwV 0 htl gL_law_X7_blank rfl rfl rfl (by decide +kernel) ⟨Nat.le_of_ble_eq_true rfl, Nat.le_of_ble_eq_true rfl⟩) ⟨fun a U g mk q => by obtain ⟨q0, q1, qP, qK, qN, qD⟩ := q; exact ⟨q0, q1, qP, va_K.moved (u := U) (U := U.calling g mk a) (Vm.Alike.refl U.vm) qK, xN.same (u := U) (U := U.calling g mk a) rfl qN, qD⟩, va_recv hK hPx (ci := 7) (q0 := 0) rfl rfl, fun U hU hW => ⟨rfl, by rw [hU], by rw [hU]; exact hPx, va_K.moved hW.alike hK, xN.warm hW hN, hDx.weaken (fun _ _ _ _ => trivial)⟩⟩ rfl rfl hl.1 rfl (lv_room (Nat.le_of_ble_eq_true rfl)) dL_law_180 ⟨(by show 28 + N + 0 ≤ 600000; omega), (by show 351 + 6 * N + 0 ≤ 7302250; omega)⟩) hS (fun q _ h => hFx q h) hFx (fun r1 u t H1 locs ht hvm hw hB hz1 hk1 hS => ?_)
  obtain ⟨hP1, hK1, hD1⟩ := hB
  rw [ht] at hP1
  obtain ⟨hP, hD⟩ := jr hP hD hk1 hFx hP1 hD1
  clear hP1 hD1 hK1 hPx hDx hFx hk1 hz1
  generalize H1 = H at hP hS ⊢
  refine lv_aload_n hx hb dL_law_183 rfl (lv_at hl 1 rfl) ?_
  have hPm := va_P_l hP
  have hDm := va_D_l hD
  have hFm := va_Af hDm hS hA
  refine va_calli (va_runV (As := []) (rest := [.int r1]) ⟨hx, hb, hml, hown, htl⟩ (c8_blank l dC dI cI a' o' f' g' h' H.size R.1.2.2.1 R.1.1) (cwV 0 htl gL_law_X8_blank rfl rfl rfl (by decide +kernel) ⟨Nat.le_of_ble_eq_true rfl, Nat.le_of_ble_eq_true rfl⟩) ⟨fun a U g mk q => by obtain ⟨q0, q1, qP, qK, qD⟩ := q; exact ⟨q0, q1, qP, va_K.moved (u := U) (U := U.calling g mk a) (Vm.Alike.refl U.vm) qK, qD⟩, va_recv hKm hPm (ci := 8) (q0 := 0) rfl rfl, fun U hU hW => ⟨rfl, by rw [hU], by rw [hU]; exact hPm, va_K.moved hW.alike hKm, hDm.weaken (fun _ _ _ _ => trivial)⟩⟩ rfl rfl hl.1 rfl (lv_room (Nat.le_of_ble_eq_true rfl)) dL_law_184 ⟨(by show 28 + N + 0 + 0 ≤ 600000; omega), (by show 351 + 6 * N + 0 + 0 ≤ 7302250; omega)⟩) hS (fun q _ h => hFm q h) hFm (fun r2 v t H1 locs ht hvm hwm hB hz1 hk1 hS => ?_)
  obtain ⟨hP1, hK1, hD1⟩ := hB
  rw [ht] at hP1
  obtain ⟨hP, hD⟩ := jl hP hD hk1 hFm hP1 hD1
  clear hP1 hD1 hK1 hPm hDm hFm hk1 hz1
  generalize H1 = H at hP hS ⊢
  have hq : (((nI k1, su f 16 (nI 0), g, pa, t9, n, pd, pk, pv) : Int32 × XSt)).1 = (mBlank f' g' h' k1).1 ∧ RS (N + 1) (((nI k1, su f 16 (nI 0), g, pa, t9, n, pd, pk, pv) : Int32 × XSt)).2 (mBlank f' g' h' k1).2 := ⟨rfl, p_blank R⟩
  rw [← hw, ← hwm] at hq
  have hq : r1 = r2 ∧ RS (N + 1) u v := hq
  refine lv_icmp_eq (tgt := 838) hx hb dL_law_187 (by decide) (fun c_9 => ?_) (fun c_9 => absurd hq.1 c_9)
  refine W.widen (k := 28 + (N + 1)) (n := 351 + 6 * (N + 1)) (by omega) (by omega) ?_
  exact K u v H _ ls hq.2 hP hD hS hl
set_option maxHeartbeats 2000000 in
set_option maxRecDepth 100000 in
theorem lc_fault {p : Program} {l : Launch} {e : Env} {s : State} {m : MethodId} {below : List Frame} {meth : Method} {c : Code} {b L : Nat} {xs : Nat → Int32} (C0 : lwC p s m meth c b L xs) {dC : Nat → ClassId} {dI : Nat → Nat → Nat} {cI cP : ClassId} {a : Nat} {o : Nat → Nat} {a' : Nat} {o' : Nat → Nat} (hK : va_K (dC, dI) vwCl [(cI, .int), (cP, .object RX4)] s) (hN : xN s) {N : Nat} (hNL : 5 * N + 5 ≤ L) {k1 n k8 cn9 q d : Nat} {f : Nat → Int32} {g : Nat → Nat → Int32} {pa : Nat → Option Nat} {t9 : Nat → Nat → Int32} {pd pk : Nat → Nat} {pv : Nat → Nat → Int32} {f' : Nat → Int32} {g' : Nat → Nat → Int32} {h' : Int64} (R : RR N k1 n k8 cn9 q d f g pa pd pk pv f' g') {H : Heap} {locs : List Loc} {ls : Array Slot} (hP : va_P (dC, dI) vwCl (mW cI a' o' f' g' h' ++ xW cI cP a o f g pa t9 n pd pk pv) H) (hD : va_D (fun q : Nat => s.heap.size ≤ q) (mW cI a' o' f' g' h' ++ xW cI cP a o f g pa t9 n pd pk pv)) (hS : va_S (fun q : Nat => s.heap.size ≤ q) s.heap H locs) (hl : lv_has ls 4 (lwL N b a a')) (K : lwK p l e s m b below meth c dC dI cI cP a o a' o' N) : W p l e room_1 s m #[Value.ref b] below meth c H locs (28 + N) (351 + 6 * N) (lw_Z below #[Value.ref b] s) (F0 m 192 ls []) := by
  obtain ⟨hx, hb, hml, hown, htl, hX, hbl, hL⟩ := id C0
  have hA : ∀ q : Nat, s.heap.size ≤ q → (fun q : Nat => s.heap.size ≤ q) q := fun _ h => h
  have hbA : ¬ (fun q : Nat => s.heap.size ≤ q) b := Nat.not_le.mpr hbl
  have hl : lv_has ls 4 [(3, .int (nI (5 * N))), (2, .ref a'), (1, .ref a), (0, .ref b)] := hl
  have hPp := R.2.2.2.2.1
  have hCn := R.2.2.2.1
  have hKm := hK.sub (tys' := [(cI, .int)]) [0] rfl
  refine lv_aload_n hx hb dL_law_192 rfl (lv_at hl 2 rfl) ?_
  have hPx := va_P_r hP
  have hDx := va_D_r hD
  refine vp_callSi (va_Run.run (va_runV (As := []) (rest := []) ⟨hx, hb, hml, hown, htl⟩ (c7_fault l dC dI cI cP a o f g pa t9 n pd pk pv R.1.2.1 R.1.1) (cwV 0 htl gL_law_X7_fault rfl rfl rfl (by decide +kernel) ⟨Nat.le_of_ble_eq_true rfl, Nat.le_of_ble_eq_true rfl⟩) ⟨fun a U g mk q => ⟨q.1, q.2.1, va_K.moved (u := U) (U := U.calling g mk a) (Vm.Alike.refl U.vm) q.2.2.1, xN.same (u := U) (U := U.calling g mk a) rfl q.2.2.2⟩, va_recv hK hPx (ci := 7) (q0 := 0) rfl rfl, fun U hU hW => ⟨rfl, by rw [hU]; exact hPx, va_K.moved hW.alike hK, xN.warm hW hN⟩⟩ rfl rfl hl.1 rfl (lv_room (Nat.le_of_ble_eq_true rfl)) dL_law_193 ⟨(by show 28 + N + 0 ≤ 600000; omega), (by show 351 + 6 * N + 0 ≤ 7302250; omega)⟩)) (fun r1 hr1 => ?_)
  refine lv_aload_n hx hb dL_law_196 rfl (lv_at hl 1 rfl) ?_
  have hPm := va_P_l hP
  have hDm := va_D_l hD
  refine vp_callSi (va_Run.run (va_runV (As := []) (rest := [.int r1]) ⟨hx, hb, hml, hown, htl⟩ (c8_fault l dC dI cI a' o' f' g' h' R.1.2.2.1 R.1.1) (cwV 0 htl gL_law_X8_fault rfl rfl rfl (by decide +kernel) ⟨Nat.le_of_ble_eq_true rfl, Nat.le_of_ble_eq_true rfl⟩) ⟨fun a U g mk q => ⟨q.1, q.2.1, va_K.moved (u := U) (U := U.calling g mk a) (Vm.Alike.refl U.vm) q.2.2⟩, va_recv hKm hPm (ci := 8) (q0 := 0) rfl rfl, fun U hU hW => ⟨rfl, by rw [hU]; exact hPm, va_K.moved hW.alike hKm⟩⟩ rfl rfl hl.1 rfl (lv_room (Nat.le_of_ble_eq_true rfl)) dL_law_197 ⟨(by show 28 + N + 0 + 0 ≤ 600000; omega), (by show 351 + 6 * N + 0 + 0 ≤ 7302250; omega)⟩)) (fun r2 hr2 => ?_)
  have hq : r1 = r2 ∧ RS (N + 1) (f, g, pa, t9, n, pd, pk, pv) (f', g', h') := ⟨by rw [hr1, hr2]; exact p_fault R , R.rs1⟩
  refine lv_icmp_eq (tgt := 838) hx hb dL_law_200 (by decide) (fun c_9 => ?_) (fun c_9 => absurd hq.1 c_9)
  refine W.widen (k := 28 + (N + 1)) (n := 351 + 6 * (N + 1)) (by omega) (by omega) ?_
  exact K (f, g, pa, t9, n, pd, pk, pv) (f', g', h') H _ ls hq.2 hP hD hS hl
set_option maxHeartbeats 2000000 in
set_option maxRecDepth 100000 in
theorem lc_sign {p : Program} {l : Launch} {e : Env} {s : State} {m : MethodId} {below : List Frame} {meth : Method} {c : Code} {b L : Nat} {xs : Nat → Int32} (C0 : lwC p s m meth c b L xs) {dC : Nat → ClassId} {dI : Nat → Nat → Nat} {cI cP : ClassId} {a : Nat} {o : Nat → Nat} {a' : Nat} {o' : Nat → Nat} (hK : va_K (dC, dI) vwCl [(cI, .int), (cP, .object RX4)] s) (hN : xN s) {N : Nat} (hNL : 5 * N + 5 ≤ L) {k1 n k8 cn9 q d : Nat} {f : Nat → Int32} {g : Nat → Nat → Int32} {pa : Nat → Option Nat} {t9 : Nat → Nat → Int32} {pd pk : Nat → Nat} {pv : Nat → Nat → Int32} {f' : Nat → Int32} {g' : Nat → Nat → Int32} {h' : Int64} (R : RR N k1 n k8 cn9 q d f g pa pd pk pv f' g') {H : Heap} {locs : List Loc} {ls : Array Slot} (hP : va_P (dC, dI) vwCl (mW cI a' o' f' g' h' ++ xW cI cP a o f g pa t9 n pd pk pv) H) (hD : va_D (fun q : Nat => s.heap.size ≤ q) (mW cI a' o' f' g' h' ++ xW cI cP a o f g pa t9 n pd pk pv)) (hS : va_S (fun q : Nat => s.heap.size ≤ q) s.heap H locs) (hl : lv_has ls 4 (lwL N b a a')) (K : lwK p l e s m b below meth c dC dI cI cP a o a' o' N) : W p l e room_1 s m #[Value.ref b] below meth c H locs (28 + N) (351 + 6 * N) (lw_Z below #[Value.ref b] s) (F0 m 205 ls []) := by
  obtain ⟨hx, hb, hml, hown, htl, hX, hbl, hL⟩ := id C0
  have hA : ∀ q : Nat, s.heap.size ≤ q → (fun q : Nat => s.heap.size ≤ q) q := fun _ h => h
  have hbA : ¬ (fun q : Nat => s.heap.size ≤ q) b := Nat.not_le.mpr hbl
  have hl : lv_has ls 4 [(3, .int (nI (5 * N))), (2, .ref a'), (1, .ref a), (0, .ref b)] := hl
  have hPp := R.2.2.2.2.1
  have hCn := R.2.2.2.1
  have hKm := hK.sub (tys' := [(cI, .int)]) [0] rfl
  refine lv_aload_n hx hb dL_law_205 rfl (lv_at hl 2 rfl) ?_
  have hPx := va_P_r hP
  have hDx := va_D_r hD
  have hFx := va_Af hDx hS hA
  refine va_calli (va_runV (As := []) (rest := []) ⟨hx, hb, hml, hown, htl⟩ (c7_sign l dC dI cI cP a o f g pa t9 n pd pk pv H.size R.1.2.1 R.1.1) (cwV 0 htl gL_law_X7_sign rfl rfl rfl (by decide +kernel) ⟨Nat.le_of_ble_eq_true rfl, Nat.le_of_ble_eq_true rfl⟩) ⟨fun a U g mk q => by obtain ⟨q0, q1, qP, qK, qN, qD⟩ := q; exact ⟨q0, q1, qP, va_K.moved (u := U) (U := U.calling g mk a) (Vm.Alike.refl U.vm) qK, xN.same (u := U) (U := U.calling g mk a) rfl qN, qD⟩, va_recv hK hPx (ci := 7) (q0 := 0) rfl rfl, fun U hU hW => ⟨rfl, by rw [hU], by rw [hU]; exact hPx, va_K.moved hW.alike hK, xN.warm hW hN, hDx.weaken (fun _ _ _ _ => trivial)⟩⟩ rfl rfl hl.1 rfl (lv_room (Nat.le_of_ble_eq_true rfl)) dL_law_206 ⟨(by show 28 + N + 0 ≤ 600000; omega), (by show 351 + 6 * N + 0 ≤ 7302250; omega)⟩) hS (fun q _ h => hFx q h) hFx (fun r1 u t H1 locs ht hvm hw hB hz1 hk1 hS => ?_)
  obtain ⟨hP1, hK1, hD1⟩ := hB
  rw [ht] at hP1
  obtain ⟨hP, hD⟩ := jr hP hD hk1 hFx hP1 hD1
  clear hP1 hD1 hK1 hPx hDx hFx hk1 hz1
  generalize H1 = H at hP hS ⊢
  refine lv_aload_n hx hb dL_law_209 rfl (lv_at hl 1 rfl) ?_
  have hPm := va_P_l hP
  have hDm := va_D_l hD
  have hFm := va_Af hDm hS hA
  refine va_calli (va_runV (As := []) (rest := [.int r1]) ⟨hx, hb, hml, hown, htl⟩ (c8_sign l dC dI cI a' o' f' g' h' H.size R.1.2.2.1 R.1.1) (cwV 0 htl gL_law_X8_sign rfl rfl rfl (by decide +kernel) ⟨Nat.le_of_ble_eq_true rfl, Nat.le_of_ble_eq_true rfl⟩) ⟨fun a U g mk q => by obtain ⟨q0, q1, qP, qK, qD⟩ := q; exact ⟨q0, q1, qP, va_K.moved (u := U) (U := U.calling g mk a) (Vm.Alike.refl U.vm) qK, qD⟩, va_recv hKm hPm (ci := 8) (q0 := 0) rfl rfl, fun U hU hW => ⟨rfl, by rw [hU], by rw [hU]; exact hPm, va_K.moved hW.alike hKm, hDm.weaken (fun _ _ _ _ => trivial)⟩⟩ rfl rfl hl.1 rfl (lv_room (Nat.le_of_ble_eq_true rfl)) dL_law_210 ⟨(by show 28 + N + 0 + 0 ≤ 600000; omega), (by show 351 + 6 * N + 0 + 0 ≤ 7302250; omega)⟩) hS (fun q _ h => hFm q h) hFm (fun r2 v t H1 locs ht hvm hwm hB hz1 hk1 hS => ?_)
  obtain ⟨hP1, hK1, hD1⟩ := hB
  rw [ht] at hP1
  obtain ⟨hP, hD⟩ := jl hP hD hk1 hFm hP1 hD1
  clear hP1 hD1 hK1 hPm hDm hFm hk1 hz1
  generalize H1 = H at hP hS ⊢
  have hq := p_sign (tq := t9) (h' := h') (by omega) R
  rw [← hw, ← hwm] at hq
  have hq : r1 = r2 ∧ RS (N + 1) u v := hq
  refine lv_icmp_eq (tgt := 838) hx hb dL_law_213 (by decide) (fun c_9 => ?_) (fun c_9 => absurd hq.1 c_9)
  refine W.widen (k := 28 + (N + 1)) (n := 351 + 6 * (N + 1)) (by omega) (by omega) ?_
  exact K u v H _ ls hq.2 hP hD hS hl
set_option maxHeartbeats 2000000 in
set_option maxRecDepth 100000 in
theorem lc_hue {p : Program} {l : Launch} {e : Env} {s : State} {m : MethodId} {below : List Frame} {meth : Method} {c : Code} {b L : Nat} {xs : Nat → Int32} (C0 : lwC p s m meth c b L xs) {dC : Nat → ClassId} {dI : Nat → Nat → Nat} {cI cP : ClassId} {a : Nat} {o : Nat → Nat} {a' : Nat} {o' : Nat → Nat} (hK : va_K (dC, dI) vwCl [(cI, .int), (cP, .object RX4)] s) (hN : xN s) {N : Nat} (hNL : 5 * N + 5 ≤ L) {k1 n k8 cn9 q d : Nat} {f : Nat → Int32} {g : Nat → Nat → Int32} {pa : Nat → Option Nat} {t9 : Nat → Nat → Int32} {pd pk : Nat → Nat} {pv : Nat → Nat → Int32} {f' : Nat → Int32} {g' : Nat → Nat → Int32} {h' : Int64} (R : RR N k1 n k8 cn9 q d f g pa pd pk pv f' g') {H : Heap} {locs : List Loc} {ls : Array Slot} (hP : va_P (dC, dI) vwCl (mW cI a' o' f' g' h' ++ xW cI cP a o f g pa t9 n pd pk pv) H) (hD : va_D (fun q : Nat => s.heap.size ≤ q) (mW cI a' o' f' g' h' ++ xW cI cP a o f g pa t9 n pd pk pv)) (hS : va_S (fun q : Nat => s.heap.size ≤ q) s.heap H locs) (hl : lv_has ls 4 (lwL N b a a')) (K : lwK p l e s m b below meth c dC dI cI cP a o a' o' N) : W p l e room_1 s m #[Value.ref b] below meth c H locs (28 + N) (351 + 6 * N) (lw_Z below #[Value.ref b] s) (F0 m 218 ls []) := by
  obtain ⟨hx, hb, hml, hown, htl, hX, hbl, hL⟩ := id C0
  have hA : ∀ q : Nat, s.heap.size ≤ q → (fun q : Nat => s.heap.size ≤ q) q := fun _ h => h
  have hbA : ¬ (fun q : Nat => s.heap.size ≤ q) b := Nat.not_le.mpr hbl
  have hl : lv_has ls 4 [(3, .int (nI (5 * N))), (2, .ref a'), (1, .ref a), (0, .ref b)] := hl
  have hPp := R.2.2.2.2.1
  have hCn := R.2.2.2.1
  have hKm := hK.sub (tys' := [(cI, .int)]) [0] rfl
  refine lv_aload_n hx hb dL_law_218 rfl (lv_at hl 2 rfl) ?_
  refine lv_aload_n hx hb dL_law_219 rfl (lv_at hl 3 rfl) ?_
  refine lv_iload_n hx hb dL_law_220 rfl (lv_at hl 0 rfl) ?_
  refine lv_iconst (v := nI (1)) hx hb dL_law_221 (by decide +kernel) ?_
  refine lv_iadd hx hb dL_law_222 ?_
  refine tq (nI_add (5 * N) (1)) ?_
  refine va_sld hx hb hX hbl hbA hS (vp_in_nI (show 5 * N + 1 < L by omega) (by omega)) dL_law_223 ?_
  have hPx := va_P_r hP
  have hDx := va_D_r hD
  refine vp_callSi (va_Run.run (va_runV (As := [.int (xs (nI (5 * N + 1)).toNatClampNeg)]) (rest := []) ⟨hx, hb, hml, hown, htl⟩ (c7_hue l dC dI cI cP a o f g pa t9 n pd pk pv (xs (nI (5 * N + 1)).toNatClampNeg)) (cwV 1 htl gL_law_X7_hue rfl rfl rfl (by decide +kernel) ⟨Nat.le_of_ble_eq_true rfl, Nat.le_of_ble_eq_true rfl⟩) ⟨fun a U g mk q => ⟨q.1, q.2.1, va_K.moved (u := U) (U := U.calling g mk a) (Vm.Alike.refl U.vm) q.2.2.1, xN.same (u := U) (U := U.calling g mk a) rfl q.2.2.2⟩, va_recv hK hPx (ci := 7) (q0 := 0) rfl rfl, fun U hU hW => ⟨rfl, by rw [hU]; exact hPx, va_K.moved hW.alike hK, xN.warm hW hN⟩⟩ rfl rfl hl.1 rfl (lv_room (Nat.le_of_ble_eq_true rfl)) dL_law_224 ⟨(by show 28 + N + 0 ≤ 600000; omega), (by show 351 + 6 * N + 0 ≤ 7302250; omega)⟩)) (fun r1 hr1 => ?_)
  refine lv_aload_n hx hb dL_law_227 rfl (lv_at hl 1 rfl) ?_
  refine lv_aload_n hx hb dL_law_228 rfl (lv_at hl 3 rfl) ?_
  refine lv_iload_n hx hb dL_law_229 rfl (lv_at hl 0 rfl) ?_
  refine lv_iconst (v := nI (1)) hx hb dL_law_230 (by decide +kernel) ?_
  refine lv_iadd hx hb dL_law_231 ?_
  refine tq (nI_add (5 * N) (1)) ?_
  refine va_sld hx hb hX hbl hbA hS (vp_in_nI (show 5 * N + 1 < L by omega) (by omega)) dL_law_232 ?_
  have hPm := va_P_l hP
  have hDm := va_D_l hD
  refine vp_callSi (va_Run.run (va_runV (As := [.int (xs (nI (5 * N + 1)).toNatClampNeg)]) (rest := [.int r1]) ⟨hx, hb, hml, hown, htl⟩ (c8_hue l dC dI cI a' o' f' g' h' (xs (nI (5 * N + 1)).toNatClampNeg)) (cwV 1 htl gL_law_X8_hue rfl rfl rfl (by decide +kernel) ⟨Nat.le_of_ble_eq_true rfl, Nat.le_of_ble_eq_true rfl⟩) ⟨fun a U g mk q => ⟨q.1, q.2.1, va_K.moved (u := U) (U := U.calling g mk a) (Vm.Alike.refl U.vm) q.2.2⟩, va_recv hKm hPm (ci := 8) (q0 := 0) rfl rfl, fun U hU hW => ⟨rfl, by rw [hU]; exact hPm, va_K.moved hW.alike hKm⟩⟩ rfl rfl hl.1 rfl (lv_room (Nat.le_of_ble_eq_true rfl)) dL_law_233 ⟨(by show 28 + N + 0 + 0 ≤ 600000; omega), (by show 351 + 6 * N + 0 + 0 ≤ 7302250; omega)⟩)) (fun r2 hr2 => ?_)
  have hq : r1 = r2 ∧ RS (N + 1) (f, g, pa, t9, n, pd, pk, pv) (f', g', h') := ⟨by rw [hr1, hr2]; exact p_hue R (xs (nI (5 * N + 1)).toNatClampNeg), R.rs1⟩
  refine lv_icmp_eq (tgt := 838) hx hb dL_law_236 (by decide) (fun c_9 => ?_) (fun c_9 => absurd hq.1 c_9)
  refine W.widen (k := 28 + (N + 1)) (n := 351 + 6 * (N + 1)) (by omega) (by omega) ?_
  exact K (f, g, pa, t9, n, pd, pk, pv) (f', g', h') H _ ls hq.2 hP hD hS hl
set_option maxHeartbeats 2000000 in
set_option maxRecDepth 100000 in
theorem lc_layer {p : Program} {l : Launch} {e : Env} {s : State} {m : MethodId} {below : List Frame} {meth : Method} {c : Code} {b L : Nat} {xs : Nat → Int32} (C0 : lwC p s m meth c b L xs) {dC : Nat → ClassId} {dI : Nat → Nat → Nat} {cI cP : ClassId} {a : Nat} {o : Nat → Nat} {a' : Nat} {o' : Nat → Nat} (hK : va_K (dC, dI) vwCl [(cI, .int), (cP, .object RX4)] s) (hN : xN s) {N : Nat} (hNL : 5 * N + 5 ≤ L) {k1 n k8 cn9 q d : Nat} {f : Nat → Int32} {g : Nat → Nat → Int32} {pa : Nat → Option Nat} {t9 : Nat → Nat → Int32} {pd pk : Nat → Nat} {pv : Nat → Nat → Int32} {f' : Nat → Int32} {g' : Nat → Nat → Int32} {h' : Int64} (R : RR N k1 n k8 cn9 q d f g pa pd pk pv f' g') {H : Heap} {locs : List Loc} {ls : Array Slot} (hP : va_P (dC, dI) vwCl (mW cI a' o' f' g' h' ++ xW cI cP a o f g pa t9 n pd pk pv) H) (hD : va_D (fun q : Nat => s.heap.size ≤ q) (mW cI a' o' f' g' h' ++ xW cI cP a o f g pa t9 n pd pk pv)) (hS : va_S (fun q : Nat => s.heap.size ≤ q) s.heap H locs) (hl : lv_has ls 4 (lwL N b a a')) (K : lwK p l e s m b below meth c dC dI cI cP a o a' o' N) : W p l e room_1 s m #[Value.ref b] below meth c H locs (28 + N) (351 + 6 * N) (lw_Z below #[Value.ref b] s) (F0 m 241 ls []) := by
  obtain ⟨hx, hb, hml, hown, htl, hX, hbl, hL⟩ := id C0
  have hA : ∀ q : Nat, s.heap.size ≤ q → (fun q : Nat => s.heap.size ≤ q) q := fun _ h => h
  have hbA : ¬ (fun q : Nat => s.heap.size ≤ q) b := Nat.not_le.mpr hbl
  have hl : lv_has ls 4 [(3, .int (nI (5 * N))), (2, .ref a'), (1, .ref a), (0, .ref b)] := hl
  have hPp := R.2.2.2.2.1
  have hCn := R.2.2.2.1
  have hKm := hK.sub (tys' := [(cI, .int)]) [0] rfl
  refine lv_aload_n hx hb dL_law_241 rfl (lv_at hl 2 rfl) ?_
  refine lv_aload_n hx hb dL_law_242 rfl (lv_at hl 3 rfl) ?_
  refine lv_iload_n hx hb dL_law_243 rfl (lv_at hl 0 rfl) ?_
  refine lv_iconst (v := nI (1)) hx hb dL_law_244 (by decide +kernel) ?_
  refine lv_iadd hx hb dL_law_245 ?_
  refine tq (nI_add (5 * N) (1)) ?_
  refine va_sld hx hb hX hbl hbA hS (vp_in_nI (show 5 * N + 1 < L by omega) (by omega)) dL_law_246 ?_
  refine lv_aload_n hx hb dL_law_247 rfl (lv_at hl 3 rfl) ?_
  refine lv_iload_n hx hb dL_law_248 rfl (lv_at hl 0 rfl) ?_
  refine lv_iconst (v := nI (2)) hx hb dL_law_249 (by decide +kernel) ?_
  refine lv_iadd hx hb dL_law_250 ?_
  refine tq (nI_add (5 * N) (2)) ?_
  refine va_sld hx hb hX hbl hbA hS (vp_in_nI (show 5 * N + 2 < L by omega) (by omega)) dL_law_251 ?_
  have hPx := va_P_r hP
  have hDx := va_D_r hD
  have hFx := va_Af hDx hS hA
  refine va_calli (va_runV (As := [.int (xs (nI (5 * N + 1)).toNatClampNeg), .int (xs (nI (5 * N + 2)).toNatClampNeg)]) (rest := []) ⟨hx, hb, hml, hown, htl⟩ (c7_layer l dC dI cI cP a o f g pa t9 n pd pk pv H.size R.2.2.1.2.1 R.2.2.1.1 (xs (nI (5 * N + 1)).toNatClampNeg) (xs (nI (5 * N + 2)).toNatClampNeg)) (cwV 2 htl gL_law_X7_layer rfl rfl rfl (by decide +kernel) ⟨Nat.le_of_ble_eq_true rfl, Nat.le_of_ble_eq_true rfl⟩) ⟨fun a U g mk q => by obtain ⟨q0, q1, qP, qK, qN, qD⟩ := q; exact ⟨q0, q1, qP, va_K.moved (u := U) (U := U.calling g mk a) (Vm.Alike.refl U.vm) qK, xN.same (u := U) (U := U.calling g mk a) rfl qN, qD⟩, va_recv hK hPx (ci := 7) (q0 := 0) rfl rfl, fun U hU hW => ⟨rfl, by rw [hU], by rw [hU]; exact hPx, va_K.moved hW.alike hK, xN.warm hW hN, hDx.weaken (fun _ _ _ _ => trivial)⟩⟩ rfl rfl hl.1 rfl (lv_room (Nat.le_of_ble_eq_true rfl)) dL_law_252 ⟨(by show 28 + N + 0 ≤ 600000; omega), (by show 351 + 6 * N + 0 ≤ 7302250; omega)⟩) hS (fun q _ h => hFx q h) hFx (fun r1 u t H1 locs ht hvm hw hB hz1 hk1 hS => ?_)
  obtain ⟨hP1, hK1, hD1⟩ := hB
  rw [ht] at hP1
  obtain ⟨hP, hD⟩ := jr hP hD hk1 hFx hP1 hD1
  clear hP1 hD1 hK1 hPx hDx hFx hk1 hz1
  generalize H1 = H at hP hS ⊢
  refine lv_aload_n hx hb dL_law_255 rfl (lv_at hl 1 rfl) ?_
  refine lv_aload_n hx hb dL_law_256 rfl (lv_at hl 3 rfl) ?_
  refine lv_iload_n hx hb dL_law_257 rfl (lv_at hl 0 rfl) ?_
  refine lv_iconst (v := nI (1)) hx hb dL_law_258 (by decide +kernel) ?_
  refine lv_iadd hx hb dL_law_259 ?_
  refine tq (nI_add (5 * N) (1)) ?_
  refine va_sld hx hb hX hbl hbA hS (vp_in_nI (show 5 * N + 1 < L by omega) (by omega)) dL_law_260 ?_
  refine lv_aload_n hx hb dL_law_261 rfl (lv_at hl 3 rfl) ?_
  refine lv_iload_n hx hb dL_law_262 rfl (lv_at hl 0 rfl) ?_
  refine lv_iconst (v := nI (2)) hx hb dL_law_263 (by decide +kernel) ?_
  refine lv_iadd hx hb dL_law_264 ?_
  refine tq (nI_add (5 * N) (2)) ?_
  refine va_sld hx hb hX hbl hbA hS (vp_in_nI (show 5 * N + 2 < L by omega) (by omega)) dL_law_265 ?_
  have hPm := va_P_l hP
  have hDm := va_D_l hD
  have hFm := va_Af hDm hS hA
  refine va_calli (va_runV (As := [.int (xs (nI (5 * N + 1)).toNatClampNeg), .int (xs (nI (5 * N + 2)).toNatClampNeg)]) (rest := [.int r1]) ⟨hx, hb, hml, hown, htl⟩ (c8_layer l dC dI cI a' o' f' g' h' H.size R.2.2.1.2.2.1 R.2.2.1.1 (xs (nI (5 * N + 1)).toNatClampNeg) (xs (nI (5 * N + 2)).toNatClampNeg)) (cwV 2 htl gL_law_X8_layer rfl rfl rfl (by decide +kernel) ⟨Nat.le_of_ble_eq_true rfl, Nat.le_of_ble_eq_true rfl⟩) ⟨fun a U g mk q => by obtain ⟨q0, q1, qP, qK, qD⟩ := q; exact ⟨q0, q1, qP, va_K.moved (u := U) (U := U.calling g mk a) (Vm.Alike.refl U.vm) qK, qD⟩, va_recv hKm hPm (ci := 8) (q0 := 0) rfl rfl, fun U hU hW => ⟨rfl, by rw [hU], by rw [hU]; exact hPm, va_K.moved hW.alike hKm, hDm.weaken (fun _ _ _ _ => trivial)⟩⟩ rfl rfl hl.1 rfl (lv_room (Nat.le_of_ble_eq_true rfl)) dL_law_266 ⟨(by show 28 + N + 0 + 0 ≤ 600000; omega), (by show 351 + 6 * N + 0 + 0 ≤ 7302250; omega)⟩) hS (fun q _ h => hFm q h) hFm (fun r2 v t H1 locs ht hvm hwm hB hz1 hk1 hS => ?_)
  obtain ⟨hP1, hK1, hD1⟩ := hB
  rw [ht] at hP1
  obtain ⟨hP, hD⟩ := jl hP hD hk1 hFm hP1 hD1
  clear hP1 hD1 hK1 hPm hDm hFm hk1 hz1
  generalize H1 = H at hP hS ⊢
  have hq := p_layer (tq := t9) (h' := h') R (xs (nI (5 * N + 1)).toNatClampNeg) (xs (nI (5 * N + 2)).toNatClampNeg)
  rw [← hw, ← hwm] at hq
  have hq : r1 = r2 ∧ RS (N + 1) u v := hq
  refine lv_icmp_eq (tgt := 838) hx hb dL_law_269 (by decide) (fun c_9 => ?_) (fun c_9 => absurd hq.1 c_9)
  refine W.widen (k := 28 + (N + 1)) (n := 351 + 6 * (N + 1)) (by omega) (by omega) ?_
  exact K u v H _ ls hq.2 hP hD hS hl
set_option maxHeartbeats 2000000 in
set_option maxRecDepth 100000 in
theorem lc_person {p : Program} {l : Launch} {e : Env} {s : State} {m : MethodId} {below : List Frame} {meth : Method} {c : Code} {b L : Nat} {xs : Nat → Int32} (C0 : lwC p s m meth c b L xs) {dC : Nat → ClassId} {dI : Nat → Nat → Nat} {cI cP : ClassId} {a : Nat} {o : Nat → Nat} {a' : Nat} {o' : Nat → Nat} (hK : va_K (dC, dI) vwCl [(cI, .int), (cP, .object RX4)] s) (hN : xN s) {N : Nat} (hNL : 5 * N + 5 ≤ L) {k1 n k8 cn9 q d : Nat} {f : Nat → Int32} {g : Nat → Nat → Int32} {pa : Nat → Option Nat} {t9 : Nat → Nat → Int32} {pd pk : Nat → Nat} {pv : Nat → Nat → Int32} {f' : Nat → Int32} {g' : Nat → Nat → Int32} {h' : Int64} (R : RR N k1 n k8 cn9 q d f g pa pd pk pv f' g') {H : Heap} {locs : List Loc} {ls : Array Slot} (hP : va_P (dC, dI) vwCl (mW cI a' o' f' g' h' ++ xW cI cP a o f g pa t9 n pd pk pv) H) (hD : va_D (fun q : Nat => s.heap.size ≤ q) (mW cI a' o' f' g' h' ++ xW cI cP a o f g pa t9 n pd pk pv)) (hS : va_S (fun q : Nat => s.heap.size ≤ q) s.heap H locs) (hl : lv_has ls 4 (lwL N b a a')) (K : lwK p l e s m b below meth c dC dI cI cP a o a' o' N) : W p l e room_1 s m #[Value.ref b] below meth c H locs (28 + N) (351 + 6 * N) (lw_Z below #[Value.ref b] s) (F0 m 274 ls []) := by
  obtain ⟨hx, hb, hml, hown, htl, hX, hbl, hL⟩ := id C0
  have hA : ∀ q : Nat, s.heap.size ≤ q → (fun q : Nat => s.heap.size ≤ q) q := fun _ h => h
  have hbA : ¬ (fun q : Nat => s.heap.size ≤ q) b := Nat.not_le.mpr hbl
  have hl : lv_has ls 4 [(3, .int (nI (5 * N))), (2, .ref a'), (1, .ref a), (0, .ref b)] := hl
  have hPp := R.2.2.2.2.1
  have hCn := R.2.2.2.1
  have hKm := hK.sub (tys' := [(cI, .int)]) [0] rfl
  refine lv_aload_n hx hb dL_law_274 rfl (lv_at hl 2 rfl) ?_
  refine lv_aload_n hx hb dL_law_275 rfl (lv_at hl 3 rfl) ?_
  refine lv_iload_n hx hb dL_law_276 rfl (lv_at hl 0 rfl) ?_
  refine lv_iconst (v := nI (1)) hx hb dL_law_277 (by decide +kernel) ?_
  refine lv_iadd hx hb dL_law_278 ?_
  refine tq (nI_add (5 * N) (1)) ?_
  refine va_sld hx hb hX hbl hbA hS (vp_in_nI (show 5 * N + 1 < L by omega) (by omega)) dL_law_279 ?_
  refine lv_aload_n hx hb dL_law_280 rfl (lv_at hl 3 rfl) ?_
  refine lv_iload_n hx hb dL_law_281 rfl (lv_at hl 0 rfl) ?_
  refine lv_iconst (v := nI (2)) hx hb dL_law_282 (by decide +kernel) ?_
  refine lv_iadd hx hb dL_law_283 ?_
  refine tq (nI_add (5 * N) (2)) ?_
  refine va_sld hx hb hX hbl hbA hS (vp_in_nI (show 5 * N + 2 < L by omega) (by omega)) dL_law_284 ?_
  refine lv_aload_n hx hb dL_law_285 rfl (lv_at hl 3 rfl) ?_
  refine lv_iload_n hx hb dL_law_286 rfl (lv_at hl 0 rfl) ?_
  refine lv_iconst (v := nI (3)) hx hb dL_law_287 (by decide +kernel) ?_
  refine lv_iadd hx hb dL_law_288 ?_
  refine tq (nI_add (5 * N) (3)) ?_
  refine va_sld hx hb hX hbl hbA hS (vp_in_nI (show 5 * N + 3 < L by omega) (by omega)) dL_law_289 ?_
  have hPx := va_P_r hP
  have hDx := va_D_r hD
  have hFx := va_Af hDx hS hA
  refine va_calli (va_runV (As := [.int (xs (nI (5 * N + 1)).toNatClampNeg), .int (xs (nI (5 * N + 2)).toNatClampNeg), .int (xs (nI (5 * N + 3)).toNatClampNeg)]) (rest := []) ⟨hx, hb, hml, hown, htl⟩ (c7_person l dC dI cI cP a o f g pa t9 n pd pk pv H.size hPp.2.1 hPp.1 (fun i hi => (hPp.2.2.2 i hi).1) (fun i hi => (hPp.2.2.2 i hi).2.1) (xs (nI (5 * N + 1)).toNatClampNeg) (xs (nI (5 * N + 2)).toNatClampNeg) (xs (nI (5 * N + 3)).toNatClampNeg)) (cwV 3 htl gL_law_X7_person rfl rfl rfl (by decide +kernel) ⟨Nat.le_of_ble_eq_true rfl, Nat.le_of_ble_eq_true rfl⟩) ⟨fun a U g mk q => by obtain ⟨q0, q1, qP, qK, qN, qD⟩ := q; exact ⟨q0, q1, qP, va_K.moved (u := U) (U := U.calling g mk a) (Vm.Alike.refl U.vm) qK, xN.same (u := U) (U := U.calling g mk a) rfl qN, qD⟩, va_recv hK hPx (ci := 7) (q0 := 0) rfl rfl, fun U hU hW => ⟨rfl, by rw [hU], by rw [hU]; exact hPx, va_K.moved hW.alike hK, xN.warm hW hN, hDx.weaken (fun _ _ _ _ => trivial)⟩⟩ rfl rfl hl.1 rfl (lv_room (Nat.le_of_ble_eq_true rfl)) dL_law_290 ⟨(by show 28 + N + 1 ≤ 600000; omega), (by show 351 + 6 * N + 6 ≤ 7302250; omega)⟩) hS (fun q _ h => hFx q h) hFx (fun r1 u t H1 locs ht hvm hw hB hz1 hk1 hS => ?_)
  obtain ⟨hP1, hK1, hD1⟩ := hB
  rw [ht] at hP1
  obtain ⟨hP, hD⟩ := jr hP hD hk1 hFx hP1 hD1
  clear hP1 hD1 hK1 hPx hDx hFx hk1 hz1
  generalize H1 = H at hP hS ⊢
  refine lv_aload_n hx hb dL_law_293 rfl (lv_at hl 1 rfl) ?_
  refine lv_aload_n hx hb dL_law_294 rfl (lv_at hl 3 rfl) ?_
  refine lv_iload_n hx hb dL_law_295 rfl (lv_at hl 0 rfl) ?_
  refine lv_iconst (v := nI (1)) hx hb dL_law_296 (by decide +kernel) ?_
  refine lv_iadd hx hb dL_law_297 ?_
  refine tq (nI_add (5 * N) (1)) ?_
  refine va_sld hx hb hX hbl hbA hS (vp_in_nI (show 5 * N + 1 < L by omega) (by omega)) dL_law_298 ?_
  refine lv_aload_n hx hb dL_law_299 rfl (lv_at hl 3 rfl) ?_
  refine lv_iload_n hx hb dL_law_300 rfl (lv_at hl 0 rfl) ?_
  refine lv_iconst (v := nI (2)) hx hb dL_law_301 (by decide +kernel) ?_
  refine lv_iadd hx hb dL_law_302 ?_
  refine tq (nI_add (5 * N) (2)) ?_
  refine va_sld hx hb hX hbl hbA hS (vp_in_nI (show 5 * N + 2 < L by omega) (by omega)) dL_law_303 ?_
  refine lv_aload_n hx hb dL_law_304 rfl (lv_at hl 3 rfl) ?_
  refine lv_iload_n hx hb dL_law_305 rfl (lv_at hl 0 rfl) ?_
  refine lv_iconst (v := nI (3)) hx hb dL_law_306 (by decide +kernel) ?_
  refine lv_iadd hx hb dL_law_307 ?_
  refine tq (nI_add (5 * N) (3)) ?_
  refine va_sld hx hb hX hbl hbA hS (vp_in_nI (show 5 * N + 3 < L by omega) (by omega)) dL_law_308 ?_
  have hPm := va_P_l hP
  have hDm := va_D_l hD
  have hFm := va_Af hDm hS hA
  refine va_calli (va_runV (As := [.int (xs (nI (5 * N + 1)).toNatClampNeg), .int (xs (nI (5 * N + 2)).toNatClampNeg), .int (xs (nI (5 * N + 3)).toNatClampNeg)]) (rest := [.int r1]) ⟨hx, hb, hml, hown, htl⟩ (c8_person l dC dI cI a' o' f' g' h' H.size hPp.2.2.1 hPp.1 (xs (nI (5 * N + 1)).toNatClampNeg) (xs (nI (5 * N + 2)).toNatClampNeg) (xs (nI (5 * N + 3)).toNatClampNeg)) (cwV 3 htl gL_law_X8_person rfl rfl rfl (by decide +kernel) ⟨Nat.le_of_ble_eq_true rfl, Nat.le_of_ble_eq_true rfl⟩) ⟨fun a U g mk q => by obtain ⟨q0, q1, qP, qK, qD⟩ := q; exact ⟨q0, q1, qP, va_K.moved (u := U) (U := U.calling g mk a) (Vm.Alike.refl U.vm) qK, qD⟩, va_recv hKm hPm (ci := 8) (q0 := 0) rfl rfl, fun U hU hW => ⟨rfl, by rw [hU], by rw [hU]; exact hPm, va_K.moved hW.alike hKm, hDm.weaken (fun _ _ _ _ => trivial)⟩⟩ rfl rfl hl.1 rfl (lv_room (Nat.le_of_ble_eq_true rfl)) dL_law_309 ⟨(by show 28 + N + 1 + 0 ≤ 600000; omega), (by show 351 + 6 * N + 6 + 0 ≤ 7302250; omega)⟩) hS (fun q _ h => hFm q h) hFm (fun r2 v t H1 locs ht hvm hwm hB hz1 hk1 hS => ?_)
  obtain ⟨hP1, hK1, hD1⟩ := hB
  rw [ht] at hP1
  obtain ⟨hP, hD⟩ := jl hP hD hk1 hFm hP1 hD1
  clear hP1 hD1 hK1 hPm hDm hFm hk1 hz1
  generalize H1 = H at hP hS ⊢
  have hq := p_person (h' := h') R (xs (nI (5 * N + 1)).toNatClampNeg) (xs (nI (5 * N + 2)).toNatClampNeg) (xs (nI (5 * N + 3)).toNatClampNeg) hw
  rw [← hwm] at hq
  have hq : r1 = r2 ∧ RS (N + 1) u v := hq
  refine lv_icmp_eq (tgt := 838) hx hb dL_law_312 (by decide) (fun c_9 => ?_) (fun c_9 => absurd hq.1 c_9)
  refine W.widen (k := 28 + (N + 1)) (n := 351 + 6 * (N + 1)) (by omega) (by omega) ?_
  exact K u v H _ ls hq.2 hP hD hS hl
set_option maxHeartbeats 2000000 in
set_option maxRecDepth 100000 in
theorem lc_about {p : Program} {l : Launch} {e : Env} {s : State} {m : MethodId} {below : List Frame} {meth : Method} {c : Code} {b L : Nat} {xs : Nat → Int32} (C0 : lwC p s m meth c b L xs) {dC : Nat → ClassId} {dI : Nat → Nat → Nat} {cI cP : ClassId} {a : Nat} {o : Nat → Nat} {a' : Nat} {o' : Nat → Nat} (hK : va_K (dC, dI) vwCl [(cI, .int), (cP, .object RX4)] s) (hN : xN s) {N : Nat} (hNL : 5 * N + 5 ≤ L) {k1 n k8 cn9 q d : Nat} {f : Nat → Int32} {g : Nat → Nat → Int32} {pa : Nat → Option Nat} {t9 : Nat → Nat → Int32} {pd pk : Nat → Nat} {pv : Nat → Nat → Int32} {f' : Nat → Int32} {g' : Nat → Nat → Int32} {h' : Int64} (R : RR N k1 n k8 cn9 q d f g pa pd pk pv f' g') {H : Heap} {locs : List Loc} {ls : Array Slot} (hP : va_P (dC, dI) vwCl (mW cI a' o' f' g' h' ++ xW cI cP a o f g pa t9 n pd pk pv) H) (hD : va_D (fun q : Nat => s.heap.size ≤ q) (mW cI a' o' f' g' h' ++ xW cI cP a o f g pa t9 n pd pk pv)) (hS : va_S (fun q : Nat => s.heap.size ≤ q) s.heap H locs) (hl : lv_has ls 4 (lwL N b a a')) (K : lwK p l e s m b below meth c dC dI cI cP a o a' o' N) : W p l e room_1 s m #[Value.ref b] below meth c H locs (28 + N) (351 + 6 * N) (lw_Z below #[Value.ref b] s) (F0 m 317 ls []) := by
  obtain ⟨hx, hb, hml, hown, htl, hX, hbl, hL⟩ := id C0
  have hA : ∀ q : Nat, s.heap.size ≤ q → (fun q : Nat => s.heap.size ≤ q) q := fun _ h => h
  have hbA : ¬ (fun q : Nat => s.heap.size ≤ q) b := Nat.not_le.mpr hbl
  have hl : lv_has ls 4 [(3, .int (nI (5 * N))), (2, .ref a'), (1, .ref a), (0, .ref b)] := hl
  have hPp := R.2.2.2.2.1
  have hCn := R.2.2.2.1
  have hKm := hK.sub (tys' := [(cI, .int)]) [0] rfl
  refine lv_aload_n hx hb dL_law_317 rfl (lv_at hl 2 rfl) ?_
  refine lv_aload_n hx hb dL_law_318 rfl (lv_at hl 3 rfl) ?_
  refine lv_iload_n hx hb dL_law_319 rfl (lv_at hl 0 rfl) ?_
  refine lv_iconst (v := nI (1)) hx hb dL_law_320 (by decide +kernel) ?_
  refine lv_iadd hx hb dL_law_321 ?_
  refine tq (nI_add (5 * N) (1)) ?_
  refine va_sld hx hb hX hbl hbA hS (vp_in_nI (show 5 * N + 1 < L by omega) (by omega)) dL_law_322 ?_
  refine lv_aload_n hx hb dL_law_323 rfl (lv_at hl 3 rfl) ?_
  refine lv_iload_n hx hb dL_law_324 rfl (lv_at hl 0 rfl) ?_
  refine lv_iconst (v := nI (2)) hx hb dL_law_325 (by decide +kernel) ?_
  refine lv_iadd hx hb dL_law_326 ?_
  refine tq (nI_add (5 * N) (2)) ?_
  refine va_sld hx hb hX hbl hbA hS (vp_in_nI (show 5 * N + 2 < L by omega) (by omega)) dL_law_327 ?_
  have hPx := va_P_r hP
  have hDx := va_D_r hD
  refine vp_callSi (va_Run.run (va_runV (As := [.int (xs (nI (5 * N + 1)).toNatClampNeg), .int (xs (nI (5 * N + 2)).toNatClampNeg)]) (rest := []) ⟨hx, hb, hml, hown, htl⟩ (c7_about l dC dI cI cP a o f g pa t9 n pd pk pv hPp.2.1 hPp.1 (fun i hi => (hPp.2.2.2 i hi).1) (fun i hi => (hPp.2.2.2 i hi).2.1) (xs (nI (5 * N + 1)).toNatClampNeg) (xs (nI (5 * N + 2)).toNatClampNeg)) (cwV 2 htl gL_law_X7_about rfl rfl rfl (by decide +kernel) ⟨Nat.le_of_ble_eq_true rfl, Nat.le_of_ble_eq_true rfl⟩) ⟨fun a U g mk q => ⟨q.1, q.2.1, va_K.moved (u := U) (U := U.calling g mk a) (Vm.Alike.refl U.vm) q.2.2.1, xN.same (u := U) (U := U.calling g mk a) rfl q.2.2.2⟩, va_recv hK hPx (ci := 7) (q0 := 0) rfl rfl, fun U hU hW => ⟨rfl, by rw [hU]; exact hPx, va_K.moved hW.alike hK, xN.warm hW hN⟩⟩ rfl rfl hl.1 rfl (lv_room (Nat.le_of_ble_eq_true rfl)) dL_law_328 ⟨(by show 28 + N + 0 ≤ 600000; omega), (by show 351 + 6 * N + 0 ≤ 7302250; omega)⟩)) (fun r1 hr1 => ?_)
  refine lv_aload_n hx hb dL_law_331 rfl (lv_at hl 1 rfl) ?_
  refine lv_aload_n hx hb dL_law_332 rfl (lv_at hl 3 rfl) ?_
  refine lv_iload_n hx hb dL_law_333 rfl (lv_at hl 0 rfl) ?_
  refine lv_iconst (v := nI (1)) hx hb dL_law_334 (by decide +kernel) ?_
  refine lv_iadd hx hb dL_law_335 ?_
  refine tq (nI_add (5 * N) (1)) ?_
  refine va_sld hx hb hX hbl hbA hS (vp_in_nI (show 5 * N + 1 < L by omega) (by omega)) dL_law_336 ?_
  refine lv_aload_n hx hb dL_law_337 rfl (lv_at hl 3 rfl) ?_
  refine lv_iload_n hx hb dL_law_338 rfl (lv_at hl 0 rfl) ?_
  refine lv_iconst (v := nI (2)) hx hb dL_law_339 (by decide +kernel) ?_
  refine lv_iadd hx hb dL_law_340 ?_
  refine tq (nI_add (5 * N) (2)) ?_
  refine va_sld hx hb hX hbl hbA hS (vp_in_nI (show 5 * N + 2 < L by omega) (by omega)) dL_law_341 ?_
  have hPm := va_P_l hP
  have hDm := va_D_l hD
  refine vp_callSi (va_Run.run (va_runV (As := [.int (xs (nI (5 * N + 1)).toNatClampNeg), .int (xs (nI (5 * N + 2)).toNatClampNeg)]) (rest := [.int r1]) ⟨hx, hb, hml, hown, htl⟩ (c8_about l dC dI cI a' o' f' g' h' hPp.2.2.1 hPp.1 (xs (nI (5 * N + 1)).toNatClampNeg) (xs (nI (5 * N + 2)).toNatClampNeg)) (cwV 2 htl gL_law_X8_about rfl rfl rfl (by decide +kernel) ⟨Nat.le_of_ble_eq_true rfl, Nat.le_of_ble_eq_true rfl⟩) ⟨fun a U g mk q => ⟨q.1, q.2.1, va_K.moved (u := U) (U := U.calling g mk a) (Vm.Alike.refl U.vm) q.2.2⟩, va_recv hKm hPm (ci := 8) (q0 := 0) rfl rfl, fun U hU hW => ⟨rfl, by rw [hU]; exact hPm, va_K.moved hW.alike hKm⟩⟩ rfl rfl hl.1 rfl (lv_room (Nat.le_of_ble_eq_true rfl)) dL_law_342 ⟨(by show 28 + N + 0 + 0 ≤ 600000; omega), (by show 351 + 6 * N + 0 + 0 ≤ 7302250; omega)⟩)) (fun r2 hr2 => ?_)
  have hq : r1 = r2 ∧ RS (N + 1) (f, g, pa, t9, n, pd, pk, pv) (f', g', h') := ⟨by rw [hr1, hr2]; exact p_about R (xs (nI (5 * N + 1)).toNatClampNeg) (xs (nI (5 * N + 2)).toNatClampNeg), R.rs1⟩
  refine lv_icmp_eq (tgt := 838) hx hb dL_law_345 (by decide) (fun c_9 => ?_) (fun c_9 => absurd hq.1 c_9)
  refine W.widen (k := 28 + (N + 1)) (n := 351 + 6 * (N + 1)) (by omega) (by omega) ?_
  exact K (f, g, pa, t9, n, pd, pk, pv) (f', g', h') H _ ls hq.2 hP hD hS hl
set_option maxHeartbeats 2000000 in
set_option maxRecDepth 100000 in
theorem lc_as {p : Program} {l : Launch} {e : Env} {s : State} {m : MethodId} {below : List Frame} {meth : Method} {c : Code} {b L : Nat} {xs : Nat → Int32} (C0 : lwC p s m meth c b L xs) {dC : Nat → ClassId} {dI : Nat → Nat → Nat} {cI cP : ClassId} {a : Nat} {o : Nat → Nat} {a' : Nat} {o' : Nat → Nat} (hK : va_K (dC, dI) vwCl [(cI, .int), (cP, .object RX4)] s) (hN : xN s) {N : Nat} (hNL : 5 * N + 5 ≤ L) {k1 n k8 cn9 q d : Nat} {f : Nat → Int32} {g : Nat → Nat → Int32} {pa : Nat → Option Nat} {t9 : Nat → Nat → Int32} {pd pk : Nat → Nat} {pv : Nat → Nat → Int32} {f' : Nat → Int32} {g' : Nat → Nat → Int32} {h' : Int64} (R : RR N k1 n k8 cn9 q d f g pa pd pk pv f' g') {H : Heap} {locs : List Loc} {ls : Array Slot} (hP : va_P (dC, dI) vwCl (mW cI a' o' f' g' h' ++ xW cI cP a o f g pa t9 n pd pk pv) H) (hD : va_D (fun q : Nat => s.heap.size ≤ q) (mW cI a' o' f' g' h' ++ xW cI cP a o f g pa t9 n pd pk pv)) (hS : va_S (fun q : Nat => s.heap.size ≤ q) s.heap H locs) (hl : lv_has ls 4 (lwL N b a a')) (K : lwK p l e s m b below meth c dC dI cI cP a o a' o' N) : W p l e room_1 s m #[Value.ref b] below meth c H locs (28 + N) (351 + 6 * N) (lw_Z below #[Value.ref b] s) (F0 m 350 ls []) := by
  obtain ⟨hx, hb, hml, hown, htl, hX, hbl, hL⟩ := id C0
  have hA : ∀ q : Nat, s.heap.size ≤ q → (fun q : Nat => s.heap.size ≤ q) q := fun _ h => h
  have hbA : ¬ (fun q : Nat => s.heap.size ≤ q) b := Nat.not_le.mpr hbl
  have hl : lv_has ls 4 [(3, .int (nI (5 * N))), (2, .ref a'), (1, .ref a), (0, .ref b)] := hl
  have hPp := R.2.2.2.2.1
  have hCn := R.2.2.2.1
  have hKm := hK.sub (tys' := [(cI, .int)]) [0] rfl
  refine lv_aload_n hx hb dL_law_350 rfl (lv_at hl 2 rfl) ?_
  refine lv_aload_n hx hb dL_law_351 rfl (lv_at hl 3 rfl) ?_
  refine lv_iload_n hx hb dL_law_352 rfl (lv_at hl 0 rfl) ?_
  refine lv_iconst (v := nI (1)) hx hb dL_law_353 (by decide +kernel) ?_
  refine lv_iadd hx hb dL_law_354 ?_
  refine tq (nI_add (5 * N) (1)) ?_
  refine va_sld hx hb hX hbl hbA hS (vp_in_nI (show 5 * N + 1 < L by omega) (by omega)) dL_law_355 ?_
  refine lv_aload_n hx hb dL_law_356 rfl (lv_at hl 3 rfl) ?_
  refine lv_iload_n hx hb dL_law_357 rfl (lv_at hl 0 rfl) ?_
  refine lv_iconst (v := nI (2)) hx hb dL_law_358 (by decide +kernel) ?_
  refine lv_iadd hx hb dL_law_359 ?_
  refine tq (nI_add (5 * N) (2)) ?_
  refine va_sld hx hb hX hbl hbA hS (vp_in_nI (show 5 * N + 2 < L by omega) (by omega)) dL_law_360 ?_
  have hPx := va_P_r hP
  have hDx := va_D_r hD
  refine vp_callSi (va_Run.run (va_runV (As := [.int (xs (nI (5 * N + 1)).toNatClampNeg), .int (xs (nI (5 * N + 2)).toNatClampNeg)]) (rest := []) ⟨hx, hb, hml, hown, htl⟩ (c7_as l dC dI cI cP a o f g pa t9 n pd pk pv hPp.2.1 hPp.1 (fun i hi => (hPp.2.2.2 i hi).1) (fun i hi => (hPp.2.2.2 i hi).2.1) (xs (nI (5 * N + 1)).toNatClampNeg) (xs (nI (5 * N + 2)).toNatClampNeg)) (cwV 2 htl gL_law_X7_as rfl rfl rfl (by decide +kernel) ⟨Nat.le_of_ble_eq_true rfl, Nat.le_of_ble_eq_true rfl⟩) ⟨fun a U g mk q => ⟨q.1, q.2.1, va_K.moved (u := U) (U := U.calling g mk a) (Vm.Alike.refl U.vm) q.2.2.1, xN.same (u := U) (U := U.calling g mk a) rfl q.2.2.2⟩, va_recv hK hPx (ci := 7) (q0 := 0) rfl rfl, fun U hU hW => ⟨rfl, by rw [hU]; exact hPx, va_K.moved hW.alike hK, xN.warm hW hN⟩⟩ rfl rfl hl.1 rfl (lv_room (Nat.le_of_ble_eq_true rfl)) dL_law_361 ⟨(by show 28 + N + 0 ≤ 600000; omega), (by show 351 + 6 * N + 0 ≤ 7302250; omega)⟩)) (fun r1 hr1 => ?_)
  refine lv_aload_n hx hb dL_law_364 rfl (lv_at hl 1 rfl) ?_
  refine lv_aload_n hx hb dL_law_365 rfl (lv_at hl 3 rfl) ?_
  refine lv_iload_n hx hb dL_law_366 rfl (lv_at hl 0 rfl) ?_
  refine lv_iconst (v := nI (1)) hx hb dL_law_367 (by decide +kernel) ?_
  refine lv_iadd hx hb dL_law_368 ?_
  refine tq (nI_add (5 * N) (1)) ?_
  refine va_sld hx hb hX hbl hbA hS (vp_in_nI (show 5 * N + 1 < L by omega) (by omega)) dL_law_369 ?_
  refine lv_aload_n hx hb dL_law_370 rfl (lv_at hl 3 rfl) ?_
  refine lv_iload_n hx hb dL_law_371 rfl (lv_at hl 0 rfl) ?_
  refine lv_iconst (v := nI (2)) hx hb dL_law_372 (by decide +kernel) ?_
  refine lv_iadd hx hb dL_law_373 ?_
  refine tq (nI_add (5 * N) (2)) ?_
  refine va_sld hx hb hX hbl hbA hS (vp_in_nI (show 5 * N + 2 < L by omega) (by omega)) dL_law_374 ?_
  have hPm := va_P_l hP
  have hDm := va_D_l hD
  refine vp_callSi (va_Run.run (va_runV (As := [.int (xs (nI (5 * N + 1)).toNatClampNeg), .int (xs (nI (5 * N + 2)).toNatClampNeg)]) (rest := [.int r1]) ⟨hx, hb, hml, hown, htl⟩ (c8_as l dC dI cI a' o' f' g' h' hPp.2.2.1 hPp.1 (xs (nI (5 * N + 1)).toNatClampNeg) (xs (nI (5 * N + 2)).toNatClampNeg)) (cwV 2 htl gL_law_X8_as rfl rfl rfl (by decide +kernel) ⟨Nat.le_of_ble_eq_true rfl, Nat.le_of_ble_eq_true rfl⟩) ⟨fun a U g mk q => ⟨q.1, q.2.1, va_K.moved (u := U) (U := U.calling g mk a) (Vm.Alike.refl U.vm) q.2.2⟩, va_recv hKm hPm (ci := 8) (q0 := 0) rfl rfl, fun U hU hW => ⟨rfl, by rw [hU]; exact hPm, va_K.moved hW.alike hKm⟩⟩ rfl rfl hl.1 rfl (lv_room (Nat.le_of_ble_eq_true rfl)) dL_law_375 ⟨(by show 28 + N + 0 + 0 ≤ 600000; omega), (by show 351 + 6 * N + 0 + 0 ≤ 7302250; omega)⟩)) (fun r2 hr2 => ?_)
  have hq : r1 = r2 ∧ RS (N + 1) (f, g, pa, t9, n, pd, pk, pv) (f', g', h') := ⟨by rw [hr1, hr2]; exact p_as R (xs (nI (5 * N + 1)).toNatClampNeg) (xs (nI (5 * N + 2)).toNatClampNeg), R.rs1⟩
  refine lv_icmp_eq (tgt := 838) hx hb dL_law_378 (by decide) (fun c_9 => ?_) (fun c_9 => absurd hq.1 c_9)
  refine W.widen (k := 28 + (N + 1)) (n := 351 + 6 * (N + 1)) (by omega) (by omega) ?_
  exact K (f, g, pa, t9, n, pd, pk, pv) (f', g', h') H _ ls hq.2 hP hD hS hl
