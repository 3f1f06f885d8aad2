/-! calls of an overridden method on a person of any kind -/
section XCALL
variable {p : Program} {l : Launch} {e : Env} {R : Room} {s : State} {m : MethodId} {args : Array Value} {below : List Frame} {meth : Method} {c : Code} {H : Heap} {locs : List Loc} {cells slots : Nat} {Q : State → Prop}
variable {cc : ByteArray} {pc nL : Nat} {ls : Array Slot} {rest : List Value} {dC : Nat → ClassId} {dI : Nat → Nat → Nat} {b : Nat} {tys : List (ClassId × FieldType)} {ws : va_W}
theorem cg_glimpse {own : String} {index : Nat} {Ts : List Cond} (S : CallFix p m c cc nL s args Ts own) (hts : ∀ w ∈ Ts, w.before args s = true) (g0 : GoodIn Ts (va_wsO own index RX0 "EachEye$Person" ⟨"EachEye$Person", "glimpse", "(I)I"⟩ yX0_glimpse wsX0_glimpse)) (g2 : GoodIn Ts (va_wsO own index RX2 "EachEye$Person" ⟨"EachEye$Person", "glimpse", "(I)I"⟩ yX2_glimpse wsX2_glimpse)) (g4 : GoodIn Ts (wsV own index RX4 yX4_glimpse wsX4_glimpse)) (g5 : GoodIn Ts (va_wsO own index RX5 "EachEye$Person" ⟨"EachEye$Person", "glimpse", "(I)I"⟩ yX5_glimpse wsX5_glimpse)) (g6 : GoodIn Ts (va_wsO own index RX6 "EachEye$Person" ⟨"EachEye$Person", "glimpse", "(I)I"⟩ yX6_glimpse wsX6_glimpse)) (hK : va_K (dC, dI) vwCl tys s) (hP : va_P (dC, dI) vwCl ws H) (q0 : Nat) {k : Nat} (hk : k < 5) {v : Nat → Int32} (he : ws[q0]? = some (b, .inr (kc k, pF v))) {x : Int32} (hsize : ls.size = nL) (hrest : (rest.map fun v => v.category).sum ≤ 8) (hR : 1 ≤ R.frames ∧ 22 ≤ R.locals) (hfit : cells ≤ R.cells ∧ slots ≤ R.slots) (hdg : decode cc pc = .ok (.invokevirtual index, 3))
    (kk : W p l e R s m args below meth c H locs cells slots Q (F0 m (pc + 3) ls (.int (see (nI k) (v 0) (v 1) x) :: rest))) : W p l e R s m args below meth c H locs cells slots Q (F0 m pc ls (.int x :: .ref b :: rest)) := by
  have h4c : Cond.code (⟨"EachEye$Person", "glimpse", "(I)I"⟩ : MethodName) cX4_glimpse 2 (some .int) ∈ Ts := (g4 _ (by unfold wsV; exact List.mem_append_right _ List.mem_cons_self)).1
  have hFB : FrameBlind (va_Pc [.ref b, .int x] (fun U => va_P (dC, dI) vwCl ws U.heap ∧ va_K (dC, dI) vwCl tys U)) := fun a U g mk q => ⟨q.1, q.2.1, va_K.moved (u := U) (U := U.calling g mk a) (Vm.Alike.refl U.vm) q.2.2⟩
  have hpre : ∀ U : State, U.heap = H → s.WarmedH U.vm → va_Pc [.ref b, .int x] (fun U => va_P (dC, dI) vwCl ws U.heap ∧ va_K (dC, dI) vwCl tys U) (Value.ref b :: [.int x]).toArray U := fun U hU hW => ⟨rfl, by rw [hU]; exact hP, va_K.moved hW.alike hK⟩
  rcases (show k = 0 ∨ k = 1 ∨ k = 2 ∨ k = 3 ∨ k = 4 by omega) with rfl | rfl | rfl | rfl | rfl
  · refine vp_callSi (va_Run.run (va_runV (As := [.int x]) (rest := rest) S (c4_glimpse l dC dI tys ws q0 b v he x) (cwV 1 hts g4 rfl rfl rfl (by decide +kernel) ⟨hR.1, Nat.le_trans (by decide) hR.2⟩) ⟨hFB, va_recv hK hP (ci := 4) (q0 := q0) rfl he, hpre⟩ rfl rfl hsize rfl (lv_room hrest) hdg hfit)) (fun r hrc => ?_)
    have hrc : r = see (nI 0) (v 0) (v 1) x := hrc
    subst hrc; exact kk
  · refine vp_callSi (va_Run.run (va_runU (As := [.int x]) (rest := rest) S (c0_glimpse l dC dI tys ws q0 b v he x) (va_cwO 1 hts g0 rfl rfl rfl h4c ⟨by decide +kernel, by decide +kernel, by decide +kernel⟩ ⟨hR.1, Nat.le_trans (by decide) hR.2⟩) ⟨hFB, va_recv hK hP (ci := 0) (q0 := q0) rfl he, hpre⟩ rfl rfl hsize rfl (lv_room hrest) hdg hfit)) (fun r hrc => ?_)
    have hrc : r = see (nI 1) (v 0) (v 1) x := hrc
    subst hrc; exact kk
  · refine vp_callSi (va_Run.run (va_runU (As := [.int x]) (rest := rest) S (c2_glimpse l dC dI tys ws q0 b v he x) (va_cwO 1 hts g2 rfl rfl rfl h4c ⟨by decide +kernel, by decide +kernel, by decide +kernel⟩ ⟨hR.1, Nat.le_trans (by decide) hR.2⟩) ⟨hFB, va_recv hK hP (ci := 2) (q0 := q0) rfl he, hpre⟩ rfl rfl hsize rfl (lv_room hrest) hdg hfit)) (fun r hrc => ?_)
    have hrc : r = see (nI 2) (v 0) (v 1) x := hrc
    subst hrc; exact kk
  · refine vp_callSi (va_Run.run (va_runU (As := [.int x]) (rest := rest) S (c6_glimpse l dC dI tys ws q0 b v he x) (va_cwO 1 hts g6 rfl rfl rfl h4c ⟨by decide +kernel, by decide +kernel, by decide +kernel⟩ ⟨hR.1, Nat.le_trans (by decide) hR.2⟩) ⟨hFB, va_recv hK hP (ci := 6) (q0 := q0) rfl he, hpre⟩ rfl rfl hsize rfl (lv_room hrest) hdg hfit)) (fun r hrc => ?_)
    have hrc : r = see (nI 3) (v 0) (v 1) x := hrc
    subst hrc; exact kk
  · refine vp_callSi (va_Run.run (va_runU (As := [.int x]) (rest := rest) S (c5_glimpse l dC dI tys ws q0 b v he x) (va_cwO 1 hts g5 rfl rfl rfl h4c ⟨by decide +kernel, by decide +kernel, by decide +kernel⟩ ⟨hR.1, Nat.le_trans (by decide) hR.2⟩) ⟨hFB, va_recv hK hP (ci := 5) (q0 := q0) rfl he, hpre⟩ rfl rfl hsize rfl (lv_room hrest) hdg hfit)) (fun r hrc => ?_)
    have hrc : r = see (nI 4) (v 0) (v 1) x := hrc
    subst hrc; exact kk
theorem cg_kind {own : String} {index : Nat} {Ts : List Cond} (S : CallFix p m c cc nL s args Ts own) (hts : ∀ w ∈ Ts, w.before args s = true) (g0 : GoodIn Ts (va_wsO own index RX0 "EachEye$Person" ⟨"EachEye$Person", "kind", "()I"⟩ yX0_kind wsX0_kind)) (g2 : GoodIn Ts (va_wsO own index RX2 "EachEye$Person" ⟨"EachEye$Person", "kind", "()I"⟩ yX2_kind wsX2_kind)) (g4 : GoodIn Ts (wsV own index RX4 yX4_kind wsX4_kind)) (g5 : GoodIn Ts (va_wsO own index RX5 "EachEye$Person" ⟨"EachEye$Person", "kind", "()I"⟩ yX5_kind wsX5_kind)) (g6 : GoodIn Ts (va_wsO own index RX6 "EachEye$Person" ⟨"EachEye$Person", "kind", "()I"⟩ yX6_kind wsX6_kind)) (hK : va_K (dC, dI) vwCl tys s) (hP : va_P (dC, dI) vwCl ws H) (q0 : Nat) {k : Nat} (hk : k < 5) {v : Nat → Int32} (he : ws[q0]? = some (b, .inr (kc k, pF v))) (hsize : ls.size = nL) (hrest : (rest.map fun v => v.category).sum ≤ 8) (hR : 1 ≤ R.frames ∧ 20 ≤ R.locals) (hfit : cells ≤ R.cells ∧ slots ≤ R.slots) (hdg : decode cc pc = .ok (.invokevirtual index, 3))
    (kk : W p l e R s m args below meth c H locs cells slots Q (F0 m (pc + 3) ls (.int (nI k) :: rest))) : W p l e R s m args below meth c H locs cells slots Q (F0 m pc ls (.ref b :: rest)) := by
  have h4c : Cond.code (⟨"EachEye$Person", "kind", "()I"⟩ : MethodName) cX4_kind 1 (some .int) ∈ Ts := (g4 _ (by unfold wsV; exact List.mem_append_right _ List.mem_cons_self)).1
  have hFB : FrameBlind (va_Pc [.ref b] (fun U => va_P (dC, dI) vwCl ws U.heap ∧ va_K (dC, dI) vwCl tys U)) := fun a U g mk q => ⟨q.1, q.2.1, va_K.moved (u := U) (U := U.calling g mk a) (Vm.Alike.refl U.vm) q.2.2⟩
  have hpre : ∀ U : State, U.heap = H → s.WarmedH U.vm → va_Pc [.ref b] (fun U => va_P (dC, dI) vwCl ws U.heap ∧ va_K (dC, dI) vwCl tys U) (Value.ref b :: []).toArray U := fun U hU hW => ⟨rfl, by rw [hU]; exact hP, va_K.moved hW.alike hK⟩
  rcases (show k = 0 ∨ k = 1 ∨ k = 2 ∨ k = 3 ∨ k = 4 by omega) with rfl | rfl | rfl | rfl | rfl
  · refine vp_callSi (va_Run.run (va_runV (As := []) (rest := rest) S (c4_kind l dC dI tys ws q0 b v he) (cwV 0 hts g4 rfl rfl rfl (by decide +kernel) ⟨hR.1, Nat.le_trans (by decide) hR.2⟩) ⟨hFB, va_recv hK hP (ci := 4) (q0 := q0) rfl he, hpre⟩ rfl rfl hsize rfl (lv_room hrest) hdg hfit)) (fun r hrc => ?_)
    have hrc : r = nI 0 := hrc
    subst hrc; exact kk
  · refine vp_callSi (va_Run.run (va_runU (As := []) (rest := rest) S (c0_kind l dC dI tys ws q0 b v he) (va_cwO 0 hts g0 rfl rfl rfl h4c ⟨by decide +kernel, by decide +kernel, by decide +kernel⟩ ⟨hR.1, Nat.le_trans (by decide) hR.2⟩) ⟨hFB, va_recv hK hP (ci := 0) (q0 := q0) rfl he, hpre⟩ rfl rfl hsize rfl (lv_room hrest) hdg hfit)) (fun r hrc => ?_)
    have hrc : r = nI 1 := hrc
    subst hrc; exact kk
  · refine vp_callSi (va_Run.run (va_runU (As := []) (rest := rest) S (c2_kind l dC dI tys ws q0 b v he) (va_cwO 0 hts g2 rfl rfl rfl h4c ⟨by decide +kernel, by decide +kernel, by decide +kernel⟩ ⟨hR.1, Nat.le_trans (by decide) hR.2⟩) ⟨hFB, va_recv hK hP (ci := 2) (q0 := q0) rfl he, hpre⟩ rfl rfl hsize rfl (lv_room hrest) hdg hfit)) (fun r hrc => ?_)
    have hrc : r = nI 2 := hrc
    subst hrc; exact kk
  · refine vp_callSi (va_Run.run (va_runU (As := []) (rest := rest) S (c6_kind l dC dI tys ws q0 b v he) (va_cwO 0 hts g6 rfl rfl rfl h4c ⟨by decide +kernel, by decide +kernel, by decide +kernel⟩ ⟨hR.1, Nat.le_trans (by decide) hR.2⟩) ⟨hFB, va_recv hK hP (ci := 6) (q0 := q0) rfl he, hpre⟩ rfl rfl hsize rfl (lv_room hrest) hdg hfit)) (fun r hrc => ?_)
    have hrc : r = nI 3 := hrc
    subst hrc; exact kk
  · refine vp_callSi (va_Run.run (va_runU (As := []) (rest := rest) S (c5_kind l dC dI tys ws q0 b v he) (va_cwO 0 hts g5 rfl rfl rfl h4c ⟨by decide +kernel, by decide +kernel, by decide +kernel⟩ ⟨hR.1, Nat.le_trans (by decide) hR.2⟩) ⟨hFB, va_recv hK hP (ci := 5) (q0 := q0) rfl he, hpre⟩ rfl rfl hsize rfl (lv_room hrest) hdg hfit)) (fun r hrc => ?_)
    have hrc : r = nI 4 := hrc
    subst hrc; exact kk
end XCALL
def xRead (k : Nat) (l r x : Int32) : Nat → Int32
  | 0 => nI 0
  | j + 1 => xWh (xRead k l r x j) j (see (nI k) l r (xHa x j))
def xTrue (k : Nat) (l r : Int32) : Nat → Int32
  | 0 => nI 0
  | j + 1 => if see (nI k) l r (nI j) = nI j then xTrue k l r j + 1 else xTrue k l r j
