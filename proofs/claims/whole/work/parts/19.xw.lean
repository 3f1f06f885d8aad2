/-! the class's world: a: the object; o k: the cells that its fields name, and theirs; f k: ints; g k: int arrays; pa: the row of people; tv: what the five trial persons hold; n people: pd their cells, pk their kinds, pv what they hold -/
def kc : Nat → Nat
  | 0 => 4
  | 1 => 0
  | 2 => 2
  | 3 => 6
  | _ => 5
def pF (v : Nat → Int32) : List Value := [.int (v 0), .int (v 1), .int (v 2), .int (v 3), .int (v 4), .int (v 5)]
def xF (o : Nat → Nat) (f : Nat → Int32) : List Value := [.ref (o 0), .ref (o 1), .ref (o 2), .ref (o 3), .ref (o 4), .ref (o 5), .int (f 6), .int (f 7), .int (f 8), .int (f 9), .int (f 10), .int (f 11), .int (f 12), .int (f 13), .int (f 14), .int (f 15)]
def xFix (cI cP : ClassId) (a : Nat) (o : Nat → Nat) (f : Nat → Int32) (g : Nat → Nat → Int32) (pa : Nat → Option Nat) (tv : Nat → Nat → Int32) : va_W := [(a, .inr (7, xF o f)), (o 0, .inr (3, [.ref (o 6), .int (f 16)])), (o 6, .inl (cI, 10, .inl (g 0))), (o 1, .inl (cP, 4, .inr (.inr (.inr (.inr pa))))), (o 2, .inl (cI, 5, .inl (g 1))), (o 3, .inr (1, [.ref (o 7), .ref (o 8), .ref (o 9), .ref (o 10), .int (f 17), .int (f 18)])), (o 7, .inl (cI, 8, .inl (g 2))), (o 8, .inl (cI, 8, .inl (g 3))), (o 9, .inl (cI, 8, .inl (g 4))), (o 10, .inl (cI, 8, .inl (g 5))), (o 4, .inl (cP, 5, .inr (.inr (.inr (.inr (fun i => some (o (11 + i)))))))), (o 5, .inl (cI, 64, .inl (g 6))), (o 11, .inr (kc 0, pF (tv 0))), (o 12, .inr (kc 1, pF (tv 1))), (o 13, .inr (kc 2, pF (tv 2))), (o 14, .inr (kc 3, pF (tv 3))), (o 15, .inr (kc 4, pF (tv 4)))]
def xPpl (n : Nat) (pd pk : Nat → Nat) (pv : Nat → Nat → Int32) : va_W := (List.range n).map (fun i => (pd i, .inr (kc (pk i), pF (pv i))))
def xW (cI cP : ClassId) (a : Nat) (o : Nat → Nat) (f : Nat → Int32) (g : Nat → Nat → Int32) (pa : Nat → Option Nat) (tv : Nat → Nat → Int32) (n : Nat) (pd pk : Nat → Nat) (pv : Nat → Nat → Int32) : va_W := xFix cI cP a o f g pa tv ++ xPpl n pd pk pv
theorem xw_p {cI cP : ClassId} {a : Nat} {o : Nat → Nat} {f : Nat → Int32} {g : Nat → Nat → Int32} {pa : Nat → Option Nat} {tv : Nat → Nat → Int32} {n : Nat} {pd pk : Nat → Nat} {pv : Nat → Nat → Int32} {i : Nat} (hi : i < n) : (xW cI cP a o f g pa tv n pd pk pv)[17 + i]? = some (pd i, .inr (kc (pk i), pF (pv i))) := by
  unfold xW
  have hl : (xFix cI cP a o f g pa tv).length = 17 := rfl
  rw [List.getElem?_append_right (by omega), hl, Nat.add_sub_cancel_left]
  unfold xPpl
  simp [hi]
theorem xw_t {cI cP : ClassId} {a : Nat} {o : Nat → Nat} {f : Nat → Int32} {g : Nat → Nat → Int32} {pa : Nat → Option Nat} {tv : Nat → Nat → Int32} {n : Nat} {pd pk : Nat → Nat} {pv : Nat → Nat → Int32} {k : Nat} (hk : k < 5) : (xW cI cP a o f g pa tv n pd pk pv)[12 + k]? = some (o (11 + k), .inr (kc k, pF (tv k))) := by
  rcases (show k = 0 ∨ k = 1 ∨ k = 2 ∨ k = 3 ∨ k = 4 by omega) with rfl | rfl | rfl | rfl | rfl <;> rfl
theorem xw_setp {cI cP : ClassId} {a : Nat} {o : Nat → Nat} {f : Nat → Int32} {g : Nat → Nat → Int32} {pa : Nat → Option Nat} {tv : Nat → Nat → Int32} {n : Nat} {pd pk : Nat → Nat} {pv : Nat → Nat → Int32} {i : Nat} (hi : i < n) (v : Nat → Int32) : (xW cI cP a o f g pa tv n pd pk pv).set (17 + i) (pd i, .inr (kc (pk i), pF v)) = xW cI cP a o f g pa tv n pd pk (su pv i v) := by
  unfold xW
  have hl : (xFix cI cP a o f g pa tv).length = 17 := rfl
  rw [List.set_append, if_neg (by omega), hl, Nat.add_sub_cancel_left]
  congr 1
  unfold xPpl
  apply List.ext_getElem?
  intro j
  by_cases hj : j = i
  · subst hj
    rw [List.getElem?_set_self (by simp [hi])]
    simp [hi, su]
  · rw [List.getElem?_set_ne (Ne.symm hj)]
    by_cases hn : j < n
    · simp [hn, su, hj]
    · simp [hn]
theorem xw_sett {cI cP : ClassId} {a : Nat} {o : Nat → Nat} {f : Nat → Int32} {g : Nat → Nat → Int32} {pa : Nat → Option Nat} {tv : Nat → Nat → Int32} {n : Nat} {pd pk : Nat → Nat} {pv : Nat → Nat → Int32} {k : Nat} (hk : k < 5) (v : Nat → Int32) : (xW cI cP a o f g pa tv n pd pk pv).set (12 + k) (o (11 + k), .inr (kc k, pF v)) = xW cI cP a o f g pa (su tv k v) n pd pk pv := by
  rcases (show k = 0 ∨ k = 1 ∨ k = 2 ∨ k = 3 ∨ k = 4 by omega) with rfl | rfl | rfl | rfl | rfl <;> rfl
theorem pF_set (v : Nat → Int32) {j : Nat} (hj : j < 6) (x : Int32) : (pF v).set j (.int x) = pF (su v j x) := by
  rcases (show j = 0 ∨ j = 1 ∨ j = 2 ∨ j = 3 ∨ j = 4 ∨ j = 5 by omega) with rfl | rfl | rfl | rfl | rfl | rfl <;> rfl
theorem pF_at (v : Nat → Int32) {j : Nat} (hj : j < 6) : (pF v)[j]? = some (.int (v j)) := by
  rcases (show j = 0 ∨ j = 1 ∨ j = 2 ∨ j = 3 ∨ j = 4 ∨ j = 5 by omega) with rfl | rfl | rfl | rfl | rfl | rfl <;> rfl
/-- an array's cell tells no more than its row's first places -/
theorem vw_rowq {D : va_G} {cl : List vw_C} {H : Heap} {b : Nat} {cP : ClassId} {n : Nat} {f f' : Nat → Option Nat} (h : ∀ j, j < n → f j = f' j) (hP : va_at D cl (b, .inl (cP, n, .inr (.inr (.inr (.inr f))))) H) : va_at D cl (b, .inl (cP, n, .inr (.inr (.inr (.inr f'))))) H := by
  show H[b]? = some (vp_cell cP (n, .inr (.inr (.inr (.inr f')))))
  have h1 : H[b]? = some (vp_cell cP (n, .inr (.inr (.inr (.inr f))))) := hP
  rw [h1, vp_cell_q, vp_cell_q]
  have e : (fun j : Fin n => va_rf (f j.val)) = (fun j : Fin n => va_rf (f' j.val)) := by
    funext j
    rw [h j.val j.isLt]
  unfold arrV
  rw [e]
section XBASE
variable {p : Program} {l : Launch} {e : Env} {R : Room} {s : State} {m : MethodId} {args : Array Value} {below : List Frame} {meth : Method} {c : Code} {H : Heap} {locs : List Loc} {cells slots : Nat} {Q : State → Prop}
variable {cc : ByteArray} {pc : Nat} {ls : Array Slot} {rest : List Value} {dC : Nat → ClassId} {dI : Nat → Nat → Nat} {A : Nat → Prop} {a : Nat} {tys : List (ClassId × FieldType)} {ws : va_W} {H0 : Heap}
/-- a field of a person whose kind is any -/
theorem pe_get (hexec : p.tables.exec = Jvm.exec) (hb : c.code = cc) {own : String} {index : Nat} {Ts : List Cond} (hts : ∀ w ∈ Ts, w.before args s = true) (h0 : ∀ w ∈ wsX00, w ∈ Ts) (h2 : ∀ w ∈ wsX20, w ∈ Ts) (h4 : ∀ w ∈ wsX40, w ∈ Ts) (h5 : ∀ w ∈ wsX50, w ∈ Ts) (h6 : ∀ w ∈ wsX60, w ∈ Ts) (hown : s.vm.findClass own = some m.cls) (hK : va_K (dC, dI) vwCl tys s) (hP : va_P (dC, dI) vwCl ws H) (q0 : Nat) {k : Nat} (hk : k < 5) {v : Nat → Int32} (he : ws[q0]? = some (a, .inr (kc k, pF v))) (j : Nat) (hj : j < 6) (hlink : (Cond.fieldLink own index "EachEye$Person" (TX4 j).2.1 (TX4 j).2.2.1).before args s = true) (hdg : decode cc pc = .ok (.getfield index, 3))
    (kk : W p l e R s m args below meth c H locs cells slots Q (F0 m (pc + 3) ls (.int (v j) :: rest))) : W p l e R s m args below meth c H locs cells slots Q (F0 m pc ls (.ref a :: rest)) := by
  have hv := pF_at v hj
  rcases (show j = 0 ∨ j = 1 ∨ j = 2 ∨ j = 3 ∨ j = 4 ∨ j = 5 by omega) with rfl | rfl | rfl | rfl | rfl | rfl <;>
  rcases (show k = 0 ∨ k = 1 ∨ k = 2 ∨ k = 3 ∨ k = 4 by omega) with rfl | rfl | rfl | rfl | rfl
  all_goals first
    | exact va_get (D := (dC, dI)) (ci := 4) (C := RX4) (T := TX4) (N := 6) hexec hb hts h4 hown hK hP q0 he rfl _ hj hlink (fun _ h9 => h9) hv hdg kk
    | exact va_get (D := (dC, dI)) (ci := 0) (C := RX0) (T := TX0) (N := 6) hexec hb hts h0 hown hK hP q0 he rfl _ hj hlink (fun _ h9 => h9) hv hdg kk
    | exact va_get (D := (dC, dI)) (ci := 2) (C := RX2) (T := TX2) (N := 6) hexec hb hts h2 hown hK hP q0 he rfl _ hj hlink (fun _ h9 => h9) hv hdg kk
    | exact va_get (D := (dC, dI)) (ci := 6) (C := RX6) (T := TX6) (N := 6) hexec hb hts h6 hown hK hP q0 he rfl _ hj hlink (fun _ h9 => h9) hv hdg kk
    | exact va_get (D := (dC, dI)) (ci := 5) (C := RX5) (T := TX5) (N := 6) hexec hb hts h5 hown hK hP q0 he rfl _ hj hlink (fun _ h9 => h9) hv hdg kk
theorem pe_put (hexec : p.tables.exec = Jvm.exec) (hb : c.code = cc) {own : String} {index : Nat} {Ts : List Cond} (hts : ∀ w ∈ Ts, w.before args s = true) (h0 : ∀ w ∈ wsX00, w ∈ Ts) (h2 : ∀ w ∈ wsX20, w ∈ Ts) (h4 : ∀ w ∈ wsX40, w ∈ Ts) (h5 : ∀ w ∈ wsX50, w ∈ Ts) (h6 : ∀ w ∈ wsX60, w ∈ Ts) (hown : s.vm.findClass own = some m.cls) (hK : va_K (dC, dI) vwCl tys s) (hP : va_P (dC, dI) vwCl ws H) (hD : va_D A ws) (hS : va_S A H0 H locs) (q0 : Nat) {k : Nat} (hk : k < 5) {v : Nat → Int32} (he : ws[q0]? = some (a, .inr (kc k, pF v))) (j : Nat) (hj : j < 6) (hlink : (Cond.fieldLink own index "EachEye$Person" (TX4 j).2.1 (TX4 j).2.2.1).before args s = true) {x : Int32} (hdg : decode cc pc = .ok (.putfield index, 3))
    (kk : ∀ (H1 : Heap) (locs1 : List Loc), va_P (dC, dI) vwCl (ws.set q0 (a, .inr (kc k, pF (su v j x)))) H1 → va_D A (ws.set q0 (a, .inr (kc k, pF (su v j x)))) → va_S A H0 H1 locs1 → W p l e R s m args below meth c H1 locs1 cells slots Q (F0 m (pc + 3) ls rest)) : W p l e R s m args below meth c H locs cells slots Q (F0 m pc ls (.int x :: .ref a :: rest)) := by
  rw [← pF_set v hj x] at kk
  rcases (show j = 0 ∨ j = 1 ∨ j = 2 ∨ j = 3 ∨ j = 4 ∨ j = 5 by omega) with rfl | rfl | rfl | rfl | rfl | rfl <;>
  rcases (show k = 0 ∨ k = 1 ∨ k = 2 ∨ k = 3 ∨ k = 4 by omega) with rfl | rfl | rfl | rfl | rfl
  all_goals first
    | exact va_put (D := (dC, dI)) (ci := 4) (ty := .int) (fs := pF v) (v := .int x) (C := RX4) (T := TX4) (N := 6) hexec hb hts h4 tyX4 tyX4_ok nmX4 hown hK hP hD hS q0 he rfl _ hj hlink (fun _ h9 => h9) rfl (by decide +kernel) rfl rfl hj hdg kk
    | exact va_put (D := (dC, dI)) (ci := 0) (ty := .int) (fs := pF v) (v := .int x) (C := RX0) (T := TX0) (N := 6) hexec hb hts h0 tyX0 tyX0_ok nmX0 hown hK hP hD hS q0 he rfl _ hj hlink (fun _ h9 => h9) rfl (by decide +kernel) rfl rfl hj hdg kk
    | exact va_put (D := (dC, dI)) (ci := 2) (ty := .int) (fs := pF v) (v := .int x) (C := RX2) (T := TX2) (N := 6) hexec hb hts h2 tyX2 tyX2_ok nmX2 hown hK hP hD hS q0 he rfl _ hj hlink (fun _ h9 => h9) rfl (by decide +kernel) rfl rfl hj hdg kk
    | exact va_put (D := (dC, dI)) (ci := 6) (ty := .int) (fs := pF v) (v := .int x) (C := RX6) (T := TX6) (N := 6) hexec hb hts h6 tyX6 tyX6_ok nmX6 hown hK hP hD hS q0 he rfl _ hj hlink (fun _ h9 => h9) rfl (by decide +kernel) rfl rfl hj hdg kk
    | exact va_put (D := (dC, dI)) (ci := 5) (ty := .int) (fs := pF v) (v := .int x) (C := RX5) (T := TX5) (N := 6) hexec hb hts h5 tyX5 tyX5_ok nmX5 hown hK hP hD hS q0 he rfl _ hj hlink (fun _ h9 => h9) rfl (by decide +kernel) rfl rfl hj hdg kk
end XBASE
