/-! behind a call that makes cells and touches none of ours; the people grow by one -/
theorem jn {A0 : Nat → Prop} {D : va_G} {cl : List vw_C} {ws w1 : va_W} {H H1 : Heap} (hP : va_P D cl ws H) (hD : va_D A0 ws) (hk : ∀ q : Nat, q < H.size → ¬ va_A ([] : va_W) H.size q → H1[q]? = H[q]?) (hF : ∀ q, va_A ([] : va_W) H.size q → A0 q) (hP1 : va_P D cl w1 H1) (hD1 : va_D (va_A ([] : va_W) H.size) w1) : va_P D cl (ws ++ w1) H1 ∧ va_D A0 (ws ++ w1) := by
  have no : ∀ q : Nat, q < H.size → ¬ va_A ([] : va_W) H.size q := fun q hq h => h.elim (fun ⟨k, e, hk⟩ => by cases hk) (fun h => by omega)
  refine ⟨va_P.app (fun k q hq => (hP k q hq).kept (hk q.1 (hP k q hq).lt (no _ (hP k q hq).lt))) hP1, va_D.app hD (hD1.weaken (fun k q _ h => hF q.1 h)) (fun i j x y hx hy hxy => ?_)⟩
  exact no _ (hP i x hx).lt (by rw [hxy]; exact hD1.2 j y hy)
theorem xw_add {cI cP : ClassId} {a : Nat} {o : Nat → Nat} {f : Nat → Int32} {g : Nat → Nat → Int32} {pa : Nat → Option Nat} {tv : Nat → Nat → Int32} {n : Nat} {pd pk : Nat → Nat} {pv : Nat → Nat → Int32} (q k : Nat) (v : Nat → Int32) : xW cI cP a o f g pa tv n pd pk pv ++ [(q, .inr (kc k, pF v))] = xW cI cP a o f g pa tv (n + 1) (su pd n q) (su pk n k) (su pv n v) := by
  unfold xW
  rw [List.append_assoc]
  congr 1
  unfold xPpl
  rw [List.range_succ, List.map_append]
  congr 1
  · apply List.map_congr_left
    intro i hi
    have hi : i ≠ n := Nat.ne_of_lt (List.mem_range.mp hi)
    rw [su_n _ _ hi, su_n _ _ hi, su_n _ _ hi]
  · simp [su]
theorem xw_at_n {cI cP : ClassId} {a : Nat} {o : Nat → Nat} {f : Nat → Int32} {g : Nat → Nat → Int32} {pa : Nat → Option Nat} {tv : Nat → Nat → Int32} {n : Nat} {pd pk : Nat → Nat} {pv : Nat → Nat → Int32} (q k : Nat) (v : Nat → Int32) : (xW cI cP a o f g pa tv (n + 1) (su pd n q) (su pk n k) (su pv n v))[17 + n]? = some (q, .inr (kc k, pF v)) := by
  rw [xw_p (Nat.lt_succ_self n), su_s, su_s, su_s]
theorem xw_set_n {cI cP : ClassId} {a : Nat} {o : Nat → Nat} {f : Nat → Int32} {g : Nat → Nat → Int32} {pa : Nat → Option Nat} {tv : Nat → Nat → Int32} {n : Nat} {pd pk : Nat → Nat} {pv : Nat → Nat → Int32} (q k : Nat) (v v' : Nat → Int32) : (xW cI cP a o f g pa tv (n + 1) (su pd n q) (su pk n k) (su pv n v)).set (17 + n) (q, .inr (kc k, pF v')) = xW cI cP a o f g pa tv (n + 1) (su pd n q) (su pk n k) (su pv n v') := by
  have h := xw_setp (cI := cI) (cP := cP) (a := a) (o := o) (f := f) (g := g) (pa := pa) (tv := tv) (pd := su pd n q) (pk := su pk n k) (pv := su pv n v) (Nat.lt_succ_self n) v'
  rw [su_s, su_s, su_su] at h
  exact h
section XAP
variable {p : Program} {l : Launch} {e : Env} {R : Room} {s : State} {m : MethodId} {args : Array Value} {below : List Frame} {meth : Method} {c : Code} {H : Heap} {locs : List Loc} {cells slots : Nat} {Q : State → Prop}
variable {cc : ByteArray} {pc : Nat} {ls : Array Slot} {rest : List Value} {dC : Nat → ClassId} {dI : Nat → Nat → Nat} {A : Nat → Prop} {a : Nat} {tys : List (ClassId × FieldType)} {ws : va_W} {H0 : Heap}
/-- a person of any kind goes into an array of persons -/
theorem ap (hx : p.tables.exec = Jvm.exec) (hb : c.code = cc) (hN : xN s) (hK : va_K (dC, dI) vwCl tys s) (hP : va_P (dC, dI) vwCl ws H) (hD : va_D A ws) (hS : va_S A H0 H locs) (q0 t0 qk : Nat) {k : Nat} (hk : k < 5) {cA : ClassId} {n v : Nat} {w : Nat → Int32} {f : Nat → Option Nat} (ha : ws[q0]? = some (a, .inl (cA, n, .inr (.inr (.inr (.inr f)))))) (ht : tys[t0]? = some (cA, .object RX4)) (hv : ws[qk]? = some (v, .inr (kc k, pF w))) {i : Int32} {j : Nat} (hi : i = nI j) (hj : j < n) (hn : n < 2 ^ 31) (hdg : decode cc pc = .ok (.aastore, 1))
    (kk : ∀ (H1 : Heap) (locs1 : List Loc), va_P (dC, dI) vwCl (ws.set q0 (a, .inl (cA, n, .inr (.inr (.inr (.inr (su f j (some v)))))))) H1 → va_D A (ws.set q0 (a, .inl (cA, n, .inr (.inr (.inr (.inr (su f j (some v)))))))) → va_S A H0 H1 locs1 → W p l e R s m args below meth c H1 locs1 cells slots Q (F0 m (pc + 1) ls rest)) : W p l e R s m args below meth c H locs cells slots Q (F0 m pc ls (.ref v :: .int i :: .ref a :: rest)) := by
  subst hi
  have hc : (nI j).toNatClampNeg = j := nI_clamp (Nat.lt_trans hj hn)
  have hu : va_up f (nI j).toNatClampNeg (some v) = su f j (some v) := by rw [hc]; rfl
  rw [← hu] at kk
  rcases (show k = 0 ∨ k = 1 ∨ k = 2 ∨ k = 3 ∨ k = 4 by omega) with rfl | rfl | rfl | rfl | rfl
  · exact va_astq hx hb hK hP hD hS q0 t0 qk 4 ha ht hv rfl (vp_in_nI hj hn) hdg kk
  · exact va_astqO hx hb hK hP hD hS q0 t0 qk 0 ha ht (hN.2.1 _ (List.mem_of_getElem? (i := 0) (a := (RX0, RX4)) rfl)) hv rfl (vp_in_nI hj hn) hdg kk
  · exact va_astqO hx hb hK hP hD hS q0 t0 qk 2 ha ht (hN.2.1 _ (List.mem_of_getElem? (i := 1) (a := (RX2, RX4)) rfl)) hv rfl (vp_in_nI hj hn) hdg kk
  · exact va_astqO hx hb hK hP hD hS q0 t0 qk 6 ha ht (hN.2.1 _ (List.mem_of_getElem? (i := 2) (a := (RX6, RX4)) rfl)) hv rfl (vp_in_nI hj hn) hdg kk
  · exact va_astqO hx hb hK hP hD hS q0 t0 qk 5 ha ht (hN.2.1 _ (List.mem_of_getElem? (i := 3) (a := (RX5, RX4)) rfl)) hv rfl (vp_in_nI hj hn) hdg kk
end XAP
