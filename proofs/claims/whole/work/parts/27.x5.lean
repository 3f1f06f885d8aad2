def xCol (x : Int32) : Int32 := if x = (-1) then 0 else sm (fun q9 => b2i (¬ xHa x q9 = nI 0)) 6
def ush (x y : Int32) : Int32 := (x.toUInt32 >>> (y.toUInt32 &&& Int32.toUInt32 31)).toInt32
def bc1 (x : Int32) : Int32 := x - ((ush x (nI 1)) &&& nI 1431655765)
def bc2 (x : Int32) : Int32 := (x &&& nI 858993459) + ((ush x (nI 2)) &&& nI 858993459)
def bc3 (x : Int32) : Int32 := (x + ush x (nI 4)) &&& nI 252645135
def bc4 (x : Int32) : Int32 := x + ush x (nI 8)
def bc5 (x : Int32) : Int32 := x + ush x (nI 16)
/-- what the library answers for the number of an int's bits that are 1 -/
def xbc (x : Int32) : Int32 := (bc5 (bc4 (bc3 (bc2 (bc1 x))))) &&& nI 63
theorem xw_pq {cI cP : ClassId} {a : Nat} {o : Nat → Nat} {f : Nat → Int32} {g : Nat → Nat → Int32} {pa : Nat → Option Nat} {tv : Nat → Nat → Int32} {n : Nat} {pd pk : Nat → Nat} {pv : Nat → Nat → Int32} {i : Nat} (hi : i < n) {v : Nat → Int32} (hv : pv i = v) : (xW cI cP a o f g pa tv n pd pk pv)[17 + i]? = some (pd i, .inr (kc (pk i), pF v)) := by
  subst hv; exact xw_p hi
theorem xw_tq {cI cP : ClassId} {a : Nat} {o : Nat → Nat} {f : Nat → Int32} {g : Nat → Nat → Int32} {pa : Nat → Option Nat} {tv : Nat → Nat → Int32} {n : Nat} {pd pk : Nat → Nat} {pv : Nat → Nat → Int32} {k : Nat} (hk : k < 5) {v : Nat → Int32} (hv : tv k = v) : (xW cI cP a o f g pa tv n pd pk pv)[12 + k]? = some (o (11 + k), .inr (kc k, pF v)) := by
  subst hv; exact xw_t hk
def xIs (k : Nat) (x : Int32) : Int32 := if x.toInt = 1 then b2i (k = 1) else if x.toInt = 2 then b2i (k = 2) else if x.toInt = 3 then b2i (k = 3 ∨ k = 4) else if x.toInt = 4 then b2i (k = 4) else 1
section XIO
variable {p : Program} {l : Launch} {e : Env} {R : Room} {s : State} {m : MethodId} {args : Array Value} {below : List Frame} {meth : Method} {c : Code} {H : Heap} {locs : List Loc} {cells slots : Nat} {Q : State → Prop}
variable {cc : ByteArray} {pc : Nat} {ls : Array Slot} {rest : List Value} {dC : Nat → ClassId} {dI : Nat → Nat → Nat} {a : Nat} {tys : List (ClassId × FieldType)} {ws : va_W}

theorem io_1 (hx : p.tables.exec = Jvm.exec) (hb : c.code = cc) {own : String} {index : Nat} (hown : s.vm.findClass own = some m.cls) (hlink : (Cond.classLink own index RX0).before args s = true) (hK : va_K (dC, dI) vwCl tys s) (hP : va_P (dC, dI) vwCl ws H) (hN : xN s) (q0 : Nat) {k : Nat} (hk : k < 5) {v : Nat → Int32} (he : ws[q0]? = some (a, .inr (kc k, pF v))) (hdg : decode cc pc = .ok (.instanceof index, 3))
    (kk : W p l e R s m args below meth c H locs cells slots Q (F0 m (pc + 3) ls (.int (b2i (k = 1)) :: rest))) : W p l e R s m args below meth c H locs cells slots Q (F0 m pc ls (.ref a :: rest)) := by
  rcases (show k = 0 ∨ k = 1 ∨ k = 2 ∨ k = 3 ∨ k = 4 by omega) with rfl | rfl | rfl | rfl | rfl
  · exact va_instNo hx hb hown hlink (hN.2.2 _ (List.mem_of_getElem? (i := 0) (a := (RX4, RX0)) rfl)) (va_recv hK hP (ci := 4) (q0 := q0) rfl he) hdg kk
  · exact va_instS hx hb hown hlink (hK.1 0 _ rfl).2 (va_recv hK hP (ci := 0) (q0 := q0) rfl he) hdg kk
  · exact va_instNo hx hb hown hlink (hN.2.2 _ (List.mem_of_getElem? (i := 7) (a := (RX2, RX0)) rfl)) (va_recv hK hP (ci := 2) (q0 := q0) rfl he) hdg kk
  · exact va_instNo hx hb hown hlink (hN.2.2 _ (List.mem_of_getElem? (i := 10) (a := (RX6, RX0)) rfl)) (va_recv hK hP (ci := 6) (q0 := q0) rfl he) hdg kk
  · exact va_instNo hx hb hown hlink (hN.2.2 _ (List.mem_of_getElem? (i := 13) (a := (RX5, RX0)) rfl)) (va_recv hK hP (ci := 5) (q0 := q0) rfl he) hdg kk
theorem io_2 (hx : p.tables.exec = Jvm.exec) (hb : c.code = cc) {own : String} {index : Nat} (hown : s.vm.findClass own = some m.cls) (hlink : (Cond.classLink own index RX2).before args s = true) (hK : va_K (dC, dI) vwCl tys s) (hP : va_P (dC, dI) vwCl ws H) (hN : xN s) (q0 : Nat) {k : Nat} (hk : k < 5) {v : Nat → Int32} (he : ws[q0]? = some (a, .inr (kc k, pF v))) (hdg : decode cc pc = .ok (.instanceof index, 3))
    (kk : W p l e R s m args below meth c H locs cells slots Q (F0 m (pc + 3) ls (.int (b2i (k = 2)) :: rest))) : W p l e R s m args below meth c H locs cells slots Q (F0 m pc ls (.ref a :: rest)) := by
  rcases (show k = 0 ∨ k = 1 ∨ k = 2 ∨ k = 3 ∨ k = 4 by omega) with rfl | rfl | rfl | rfl | rfl
  · exact va_instNo hx hb hown hlink (hN.2.2 _ (List.mem_of_getElem? (i := 1) (a := (RX4, RX2)) rfl)) (va_recv hK hP (ci := 4) (q0 := q0) rfl he) hdg kk
  · exact va_instNo hx hb hown hlink (hN.2.2 _ (List.mem_of_getElem? (i := 4) (a := (RX0, RX2)) rfl)) (va_recv hK hP (ci := 0) (q0 := q0) rfl he) hdg kk
  · exact va_instS hx hb hown hlink (hK.1 2 _ rfl).2 (va_recv hK hP (ci := 2) (q0 := q0) rfl he) hdg kk
  · exact va_instNo hx hb hown hlink (hN.2.2 _ (List.mem_of_getElem? (i := 11) (a := (RX6, RX2)) rfl)) (va_recv hK hP (ci := 6) (q0 := q0) rfl he) hdg kk
  · exact va_instNo hx hb hown hlink (hN.2.2 _ (List.mem_of_getElem? (i := 14) (a := (RX5, RX2)) rfl)) (va_recv hK hP (ci := 5) (q0 := q0) rfl he) hdg kk
theorem io_3 (hx : p.tables.exec = Jvm.exec) (hb : c.code = cc) {own : String} {index : Nat} (hown : s.vm.findClass own = some m.cls) (hlink : (Cond.classLink own index RX6).before args s = true) (hK : va_K (dC, dI) vwCl tys s) (hP : va_P (dC, dI) vwCl ws H) (hN : xN s) (q0 : Nat) {k : Nat} (hk : k < 5) {v : Nat → Int32} (he : ws[q0]? = some (a, .inr (kc k, pF v))) (hdg : decode cc pc = .ok (.instanceof index, 3))
    (kk : W p l e R s m args below meth c H locs cells slots Q (F0 m (pc + 3) ls (.int (b2i (k = 3 ∨ k = 4)) :: rest))) : W p l e R s m args below meth c H locs cells slots Q (F0 m pc ls (.ref a :: rest)) := by
  rcases (show k = 0 ∨ k = 1 ∨ k = 2 ∨ k = 3 ∨ k = 4 by omega) with rfl | rfl | rfl | rfl | rfl
  · exact va_instNo hx hb hown hlink (hN.2.2 _ (List.mem_of_getElem? (i := 2) (a := (RX4, RX6)) rfl)) (va_recv hK hP (ci := 4) (q0 := q0) rfl he) hdg kk
  · exact va_instNo hx hb hown hlink (hN.2.2 _ (List.mem_of_getElem? (i := 5) (a := (RX0, RX6)) rfl)) (va_recv hK hP (ci := 0) (q0 := q0) rfl he) hdg kk
  · exact va_instNo hx hb hown hlink (hN.2.2 _ (List.mem_of_getElem? (i := 8) (a := (RX2, RX6)) rfl)) (va_recv hK hP (ci := 2) (q0 := q0) rfl he) hdg kk
  · exact va_instS hx hb hown hlink (hK.1 6 _ rfl).2 (va_recv hK hP (ci := 6) (q0 := q0) rfl he) hdg kk
  · exact va_instY hx hb hown hlink (hN.2.1 _ (List.mem_of_getElem? (i := 4) (a := (RX5, RX6)) rfl)) (va_recv hK hP (ci := 5) (q0 := q0) rfl he) hdg kk
theorem io_4 (hx : p.tables.exec = Jvm.exec) (hb : c.code = cc) {own : String} {index : Nat} (hown : s.vm.findClass own = some m.cls) (hlink : (Cond.classLink own index RX5).before args s = true) (hK : va_K (dC, dI) vwCl tys s) (hP : va_P (dC, dI) vwCl ws H) (hN : xN s) (q0 : Nat) {k : Nat} (hk : k < 5) {v : Nat → Int32} (he : ws[q0]? = some (a, .inr (kc k, pF v))) (hdg : decode cc pc = .ok (.instanceof index, 3))
    (kk : W p l e R s m args below meth c H locs cells slots Q (F0 m (pc + 3) ls (.int (b2i (k = 4)) :: rest))) : W p l e R s m args below meth c H locs cells slots Q (F0 m pc ls (.ref a :: rest)) := by
  rcases (show k = 0 ∨ k = 1 ∨ k = 2 ∨ k = 3 ∨ k = 4 by omega) with rfl | rfl | rfl | rfl | rfl
  · exact va_instNo hx hb hown hlink (hN.2.2 _ (List.mem_of_getElem? (i := 3) (a := (RX4, RX5)) rfl)) (va_recv hK hP (ci := 4) (q0 := q0) rfl he) hdg kk
  · exact va_instNo hx hb hown hlink (hN.2.2 _ (List.mem_of_getElem? (i := 6) (a := (RX0, RX5)) rfl)) (va_recv hK hP (ci := 0) (q0 := q0) rfl he) hdg kk
  · exact va_instNo hx hb hown hlink (hN.2.2 _ (List.mem_of_getElem? (i := 9) (a := (RX2, RX5)) rfl)) (va_recv hK hP (ci := 2) (q0 := q0) rfl he) hdg kk
  · exact va_instNo hx hb hown hlink (hN.2.2 _ (List.mem_of_getElem? (i := 12) (a := (RX6, RX5)) rfl)) (va_recv hK hP (ci := 6) (q0 := q0) rfl he) hdg kk
  · exact va_instS hx hb hown hlink (hK.1 5 _ rfl).2 (va_recv hK hP (ci := 5) (q0 := q0) rfl he) hdg kk
end XIO
set_option maxHeartbeats 1200000 in
set_option maxRecDepth 100000 in
theorem c99_bitCount (l : Launch) (x : Int32) : Met l yJ6_bitCount_0f7a4 wsJ6_bitCount_0f7a4 ({ frames := 0, cells := 0, slots := 0, locals := 0 } : Room) (va_Pc [.int (x)] (fun U => True)) (vp_Si (fun r => r = xbc x)) 0 0 (fun _ => False) := by
  refine Met.ofW (cc := cJ6_bitCount_0f7a4) (maxL := 1) (ret := (some .int)) (by decide) rfl ?_
  intro p_ e_ s m args below meth c_0 s₁ B hml hv
  obtain ⟨rfl, -⟩ := hv
  have hx := B.exec
  have hb := B.bytes
  have hr := B.returns
  have hts := atoms_spec (ws := wsJ6_bitCount_0f7a4) B.pre
  have hown : s.vm.findClass RJ6 = some m.cls := findClass_of_methodNamed B.named
  have hlocks := B.notSynchronized
  have hl := lv_entry ([.int (x)]) (n := 1) (Nat.le_of_ble_eq_true rfl)
  rw [lg_entry_eq]
  generalize (lg_sl ([.int (x)]) ++ List.replicate (1 - (lg_sl ([.int (x)])).length) Slot.unset).toArray = ls at hl ⊢
  have hl : lv_has ls 1 [(0, .int (x))] := hl
  have hW0 := hts (.constant RJ6 265 (1431655765)) (by decide +kernel)
  have hW1 := hts (.constant RJ6 266 (858993459)) (by decide +kernel)
  have hW2 := hts (.constant RJ6 267 (252645135)) (by decide +kernel)
  refine lv_iload_n hx hb dJ6_bitCount_0f7a4_0 rfl (lv_at hl 0 rfl) ?_
  refine lv_iload_n hx hb dJ6_bitCount_0f7a4_1 rfl (lv_at hl 0 rfl) ?_
  refine lv_iconst (v := nI (1)) hx hb dJ6_bitCount_0f7a4_2 (by decide +kernel) ?_
  refine lv_iushr hx hb dJ6_bitCount_0f7a4_3 (v := ush (x) (nI (1))) rfl ?_
  refine lv_ldcw (v := nI (1431655765)) hx hb hown hW0 dJ6_bitCount_0f7a4_4 ?_
  refine lv_iand hx hb dJ6_bitCount_0f7a4_7 ?_
  refine lv_isub hx hb dJ6_bitCount_0f7a4_8 ?_
  refine tq (y := bc1 x) rfl ?_
  refine lv_istore_n (lv' := [(0, .int (bc1 x))]) hx hb dJ6_bitCount_0f7a4_9 rfl hl (by decide) rfl (fun ls hl => ?_)
  refine lv_iload_n hx hb dJ6_bitCount_0f7a4_10 rfl (lv_at hl 0 rfl) ?_
  refine lv_ldcw (v := nI (858993459)) hx hb hown hW1 dJ6_bitCount_0f7a4_11 ?_
  refine lv_iand hx hb dJ6_bitCount_0f7a4_14 ?_
  refine lv_iload_n hx hb dJ6_bitCount_0f7a4_15 rfl (lv_at hl 0 rfl) ?_
  refine lv_iconst (v := nI (2)) hx hb dJ6_bitCount_0f7a4_16 (by decide +kernel) ?_
  refine lv_iushr hx hb dJ6_bitCount_0f7a4_17 (v := ush (bc1 x) (nI (2))) rfl ?_
  refine lv_ldcw (v := nI (858993459)) hx hb hown hW1 dJ6_bitCount_0f7a4_18 ?_
  refine lv_iand hx hb dJ6_bitCount_0f7a4_21 ?_
  refine lv_iadd hx hb dJ6_bitCount_0f7a4_22 ?_
  refine tq (y := bc2 (bc1 x)) rfl ?_
  refine lv_istore_n (lv' := [(0, .int (bc2 (bc1 x)))]) hx hb dJ6_bitCount_0f7a4_23 rfl hl (by decide) rfl (fun ls hl => ?_)
  refine lv_iload_n hx hb dJ6_bitCount_0f7a4_24 rfl (lv_at hl 0 rfl) ?_
  refine lv_iload_n hx hb dJ6_bitCount_0f7a4_25 rfl (lv_at hl 0 rfl) ?_
  refine lv_iconst (v := nI (4)) hx hb dJ6_bitCount_0f7a4_26 (by decide +kernel) ?_
  refine lv_iushr hx hb dJ6_bitCount_0f7a4_27 (v := ush (bc2 (bc1 x)) (nI (4))) rfl ?_
  refine lv_iadd hx hb dJ6_bitCount_0f7a4_28 ?_
  refine lv_ldcw (v := nI (252645135)) hx hb hown hW2 dJ6_bitCount_0f7a4_29 ?_
  refine lv_iand hx hb dJ6_bitCount_0f7a4_32 ?_
  refine tq (y := bc3 (bc2 (bc1 x))) rfl ?_
  refine lv_istore_n (lv' := [(0, .int (bc3 (bc2 (bc1 x))))]) hx hb dJ6_bitCount_0f7a4_33 rfl hl (by decide) rfl (fun ls hl => ?_)
  refine lv_iload_n hx hb dJ6_bitCount_0f7a4_34 rfl (lv_at hl 0 rfl) ?_
  refine lv_iload_n hx hb dJ6_bitCount_0f7a4_35 rfl (lv_at hl 0 rfl) ?_
  refine lv_bipush (v := nI (8)) hx hb dJ6_bitCount_0f7a4_36 (by decide +kernel) ?_
  refine lv_iushr hx hb dJ6_bitCount_0f7a4_38 (v := ush (bc3 (bc2 (bc1 x))) (nI (8))) rfl ?_
  refine lv_iadd hx hb dJ6_bitCount_0f7a4_39 ?_
  refine tq (y := bc4 (bc3 (bc2 (bc1 x)))) rfl ?_
  refine lv_istore_n (lv' := [(0, .int (bc4 (bc3 (bc2 (bc1 x)))))]) hx hb dJ6_bitCount_0f7a4_40 rfl hl (by decide) rfl (fun ls hl => ?_)
  refine lv_iload_n hx hb dJ6_bitCount_0f7a4_41 rfl (lv_at hl 0 rfl) ?_
  refine lv_iload_n hx hb dJ6_bitCount_0f7a4_42 rfl (lv_at hl 0 rfl) ?_
  refine lv_bipush (v := nI (16)) hx hb dJ6_bitCount_0f7a4_43 (by decide +kernel) ?_
  refine lv_iushr hx hb dJ6_bitCount_0f7a4_45 (v := ush (bc4 (bc3 (bc2 (bc1 x)))) (nI (16))) rfl ?_
  refine lv_iadd hx hb dJ6_bitCount_0f7a4_46 ?_
  refine tq (y := bc5 (bc4 (bc3 (bc2 (bc1 x))))) rfl ?_
  refine lv_istore_n (lv' := [(0, .int (bc5 (bc4 (bc3 (bc2 (bc1 x))))))]) hx hb dJ6_bitCount_0f7a4_47 rfl hl (by decide) rfl (fun ls hl => ?_)
  refine lv_iload_n hx hb dJ6_bitCount_0f7a4_48 rfl (lv_at hl 0 rfl) ?_
  refine lv_bipush (v := nI (63)) hx hb dJ6_bitCount_0f7a4_49 (by decide +kernel) ?_
  refine lv_iand hx hb dJ6_bitCount_0f7a4_51 ?_
  exact W.iret (v := (bc5 (bc4 (bc3 (bc2 (bc1 x))))) &&& (nI (63))) hx hb hr (fun t ht hW => ⟨(bc5 (bc4 (bc3 (bc2 (bc1 x))))) &&& (nI (63)), rfl, (by show (bc5 (bc4 (bc3 (bc2 (bc1 x))))) &&& (nI (63)) = xbc x; rfl), ht⟩) (fun _ h => by cases h) dJ6_bitCount_0f7a4_52

set_option maxHeartbeats 1200000 in
set_option maxRecDepth 100000 in
theorem c7_isInk (l : Launch) (dC : Nat → ClassId) (dI : Nat → Nat → Nat) (cI cP : ClassId) (a : Nat) (o : Nat → Nat) (f : Nat → Int32) (g : Nat → Nat → Int32) (pa : Nat → Option Nat) (tv : Nat → Nat → Int32) (n : Nat) (pd pk : Nat → Nat) (pv : Nat → Nat → Int32) {k8 : Nat} (e8 : f 8 = nI k8) (b8 : k8 ≤ 5) (x : Int32) : Met l yX7_isInk wsX7_isInk ({ frames := 0, cells := 0, slots := 0, locals := 0 } : Room) (va_Pc [.ref (a), .int (x)] (fun U => va_P (dC, dI) vwCl (xW cI cP a o f g pa tv n pd pk pv) U.heap ∧ va_K (dC, dI) vwCl [(cI, .int), (cP, .object RX4)] U ∧ xN U)) (vp_Si (fun r => r = b2i (0 ≤ x.toInt ∧ x.toInt < (k8 : Int)))) 0 0 (fun _ => False) := by
  refine Met.ofW (cc := cX7_isInk) (maxL := 2) (ret := (some .boolean)) (by decide) rfl ?_
  intro p_ e_ s m args below meth c_0 s₁ B hml hv
  obtain ⟨rfl, hP, hK, hN⟩ := hv
  have hx := B.exec
  have hb := B.bytes
  have hr := B.returns
  have hts := atoms_spec (ws := wsX7_isInk) B.pre
  have hown : s.vm.findClass RX7 = some m.cls := findClass_of_methodNamed B.named
  have hlocks := B.notSynchronized
  have hP : va_P (dC, dI) vwCl (xW cI cP a o f g pa tv n pd pk pv) s.heap := hP
  have hl := lv_entry ([.ref (a), .int (x)]) (n := 2) (Nat.le_of_ble_eq_true rfl)
  rw [lg_entry_eq]
  generalize (lg_sl ([.ref (a), .int (x)]) ++ List.replicate (2 - (lg_sl ([.ref (a), .int (x)])).length) Slot.unset).toArray = ls at hl ⊢
  have hl : lv_has ls 2 [(0, .ref (a)), (1, .int (x))] := hl
  have hin7 : ∀ w ∈ wsX70, w ∈ wsX7_isInk := fun _ h => List.mem_cons_of_mem _ (List.mem_append_right _ h)
  have hW0 := hts (.fieldLink RX7 70 "EachEye" "inkCount" "I") (by decide +kernel)
  refine lv_iload_n hx hb dX7_isInk_0 rfl (lv_at hl 1 rfl) ?_
  refine lv_if_lt (tgt := 16) hx hb dX7_isInk_1 (by decide) (fun c_1 => ?_) (fun c_1 => ?_)
  · skip
    rw [lti, show (0 : Int32).toInt = 0 from rfl] at c_1
    refine lv_iconst (v := nI (0)) hx hb dX7_isInk_16 (by decide +kernel) ?_
    exact W.zret (ty := .boolean) (v := nI (0)) hx hb hr rfl (fun t ht hW => ⟨nI (0), rfl, (by show nI (0) = b2i (0 ≤ x.toInt ∧ x.toInt < (k8 : Int)); exact b2i_f (by omega)), ht⟩) (fun _ h => by cases h) dX7_isInk_17
  · skip
    rw [lti, show (0 : Int32).toInt = 0 from rfl] at c_1
    refine lv_iload_n hx hb dX7_isInk_4 rfl (lv_at hl 1 rfl) ?_
    refine lv_aload_n hx hb dX7_isInk_5 rfl (lv_at hl 0 rfl) ?_
    refine va_get (D := (dC, dI)) (ci := 7) (v := .int (nI (k8))) (C := RX7) (T := TX7) (N := 16) hx hb hts hin7 hown hK hP 0 rfl rfl 8 (by decide) hW0 (fun _ h9 => h9) (congrArg (fun z => some (Value.int z)) e8) dX7_isInk_6 ?_
    refine lv_icmp_ge (tgt := 16) hx hb dX7_isInk_9 (by decide) (fun c_2 => ?_) (fun c_2 => ?_)
    · skip
      rw [lei, tn (n := k8) (by omega)] at c_2
      refine lv_iconst (v := nI (0)) hx hb dX7_isInk_16 (by decide +kernel) ?_
      exact W.zret (ty := .boolean) (v := nI (0)) hx hb hr rfl (fun t ht hW => ⟨nI (0), rfl, (by show nI (0) = b2i (0 ≤ x.toInt ∧ x.toInt < (k8 : Int)); exact b2i_f (by omega)), ht⟩) (fun _ h => by cases h) dX7_isInk_17
    · skip
      rw [lei, tn (n := k8) (by omega)] at c_2
      refine lv_iconst (v := nI (1)) hx hb dX7_isInk_12 (by decide +kernel) ?_
      refine lv_goto (tgt := 17) hx hb dX7_isInk_13 (by decide) ?_
      exact W.zret (ty := .boolean) (v := nI (1)) hx hb hr rfl (fun t ht hW => ⟨nI (1), rfl, (by show nI (1) = b2i (0 ≤ x.toInt ∧ x.toInt < (k8 : Int)); exact b2i_t ⟨by omega, by omega⟩), ht⟩) (fun _ h => by cases h) dX7_isInk_17

set_option maxHeartbeats 1200000 in
set_option maxRecDepth 100000 in
theorem c7_isOf (l : Launch) (dC : Nat → ClassId) (dI : Nat → Nat → Nat) (tys : List (ClassId × FieldType)) (ws : va_W) (q0 b : Nat) {k : Nat} (hk : k < 5) (v : Nat → Int32) (he : ws[q0]? = some (b, .inr (kc k, pF v))) (x : Int32) : Met l yX7_isOf wsX7_isOf ({ frames := 0, cells := 0, slots := 0, locals := 0 } : Room) (va_Pc [.ref (b), .int (x)] (fun U => va_P (dC, dI) vwCl ws U.heap ∧ va_K (dC, dI) vwCl tys U ∧ xN U)) (vp_Si (fun r => r = xIs k x)) 0 0 (fun _ => False) := by
  refine Met.ofW (cc := cX7_isOf) (maxL := 2) (ret := (some .boolean)) (by decide) rfl ?_
  intro p_ e_ s m args below meth c_0 s₁ B hml hv
  obtain ⟨rfl, hP, hK, hN⟩ := hv
  have hx := B.exec
  have hb := B.bytes
  have hr := B.returns
  have hts := atoms_spec (ws := wsX7_isOf) B.pre
  have hown : s.vm.findClass RX7 = some m.cls := findClass_of_methodNamed B.named
  have hlocks := B.notSynchronized
  have hP : va_P (dC, dI) vwCl (ws) s.heap := hP
  have hl := lv_entry ([.ref (b), .int (x)]) (n := 2) (Nat.le_of_ble_eq_true rfl)
  rw [lg_entry_eq]
  generalize (lg_sl ([.ref (b), .int (x)]) ++ List.replicate (2 - (lg_sl ([.ref (b), .int (x)])).length) Slot.unset).toArray = ls at hl ⊢
  have hl : lv_has ls 2 [(0, .ref (b)), (1, .int (x))] := hl
  have hW0 := hts (.classLink RX7 223 "EachEye$Arguer") (by decide +kernel)
  have hW1 := hts (.classLink RX7 226 "EachEye$Old") (by decide +kernel)
  have hW2 := hts (.classLink RX7 229 "EachEye$Winker") (by decide +kernel)
  have hW3 := hts (.classLink RX7 232 "EachEye$Spy") (by decide +kernel)
  refine lv_iload_n hx hb dX7_isOf_0 rfl (lv_at hl 1 rfl) ?_
  by_cases c_1 : (x).toInt = 1
  · skip
    refine lv_tableIn (tgt := 32) hx hb dX7_isOf_1 (by omega) (by omega) (by rw [c_1]; rfl) (by decide) ?_
    refine lv_aload_n hx hb dX7_isOf_32 rfl (lv_at hl 0 rfl) ?_
    refine io_1 hx hb hown hW0 hK hP hN q0 hk he dX7_isOf_33 ?_
    exact W.zret (ty := .boolean) (v := b2i (k = 1)) hx hb hr nar_b2i (fun t ht hW => ⟨b2i (k = 1), rfl, (by show b2i (k = 1) = xIs k x; first | (simp only [xIs, if_pos c_1]; done) | (simp only [xIs, if_pos c_1]; rfl) | rfl | (simp [xIs, if_pos c_1]; done)), ht⟩) (fun _ h => by cases h) dX7_isOf_36
  · skip
    by_cases c_2 : (x).toInt = 2
    · skip
      refine lv_tableIn (tgt := 37) hx hb dX7_isOf_1 (by omega) (by omega) (by rw [c_2]; rfl) (by decide) ?_
      refine lv_aload_n hx hb dX7_isOf_37 rfl (lv_at hl 0 rfl) ?_
      refine io_2 hx hb hown hW1 hK hP hN q0 hk he dX7_isOf_38 ?_
      exact W.zret (ty := .boolean) (v := b2i (k = 2)) hx hb hr nar_b2i (fun t ht hW => ⟨b2i (k = 2), rfl, (by show b2i (k = 2) = xIs k x; first | (simp only [xIs, if_neg c_1, if_pos c_2]; done) | (simp only [xIs, if_neg c_1, if_pos c_2]; rfl) | rfl | (simp [xIs, if_neg c_1, if_pos c_2]; done)), ht⟩) (fun _ h => by cases h) dX7_isOf_41
    · skip
      by_cases c_3 : (x).toInt = 3
      · skip
        refine lv_tableIn (tgt := 42) hx hb dX7_isOf_1 (by omega) (by omega) (by rw [c_3]; rfl) (by decide) ?_
        refine lv_aload_n hx hb dX7_isOf_42 rfl (lv_at hl 0 rfl) ?_
        refine io_3 hx hb hown hW2 hK hP hN q0 hk he dX7_isOf_43 ?_
        exact W.zret (ty := .boolean) (v := b2i (k = 3 ∨ k = 4)) hx hb hr nar_b2i (fun t ht hW => ⟨b2i (k = 3 ∨ k = 4), rfl, (by show b2i (k = 3 ∨ k = 4) = xIs k x; first | (simp only [xIs, if_neg c_1, if_neg c_2, if_pos c_3]; done) | (simp only [xIs, if_neg c_1, if_neg c_2, if_pos c_3]; rfl) | rfl | (simp [xIs, if_neg c_1, if_neg c_2, if_pos c_3]; done)), ht⟩) (fun _ h => by cases h) dX7_isOf_46
      · skip
        by_cases c_4 : (x).toInt = 4
        · skip
          refine lv_tableIn (tgt := 47) hx hb dX7_isOf_1 (by omega) (by omega) (by rw [c_4]; rfl) (by decide) ?_
          refine lv_aload_n hx hb dX7_isOf_47 rfl (lv_at hl 0 rfl) ?_
          refine io_4 hx hb hown hW3 hK hP hN q0 hk he dX7_isOf_48 ?_
          exact W.zret (ty := .boolean) (v := b2i (k = 4)) hx hb hr nar_b2i (fun t ht hW => ⟨b2i (k = 4), rfl, (by show b2i (k = 4) = xIs k x; first | (simp only [xIs, if_neg c_1, if_neg c_2, if_neg c_3, if_pos c_4]; done) | (simp only [xIs, if_neg c_1, if_neg c_2, if_neg c_3, if_pos c_4]; rfl) | rfl | (simp [xIs, if_neg c_1, if_neg c_2, if_neg c_3, if_pos c_4]; done)), ht⟩) (fun _ h => by cases h) dX7_isOf_51
        · skip
          refine lv_tableOut (tgt := 52) hx hb dX7_isOf_1 (by omega) (by decide) ?_
          refine lv_iconst (v := nI (1)) hx hb dX7_isOf_52 (by decide +kernel) ?_
          exact W.zret (ty := .boolean) (v := nI (1)) hx hb hr rfl (fun t ht hW => ⟨nI (1), rfl, (by show nI (1) = xIs k x; first | (simp only [xIs, if_neg c_1, if_neg c_2, if_neg c_3, if_neg c_4]; done) | (simp only [xIs, if_neg c_1, if_neg c_2, if_neg c_3, if_neg c_4]; rfl) | rfl | (simp [xIs, if_neg c_1, if_neg c_2, if_neg c_3, if_neg c_4]; done)), ht⟩) (fun _ h => by cases h) dX7_isOf_53

set_option maxHeartbeats 1200000 in
set_option maxRecDepth 100000 in
theorem c1_fit (l : Launch) (dC : Nat → ClassId) (dI : Nat → Nat → Nat) (cI cP : ClassId) (a : Nat) (o : Nat → Nat) (f : Nat → Int32) (g : Nat → Nat → Int32) (pa : Nat → Option Nat) (tv : Nat → Nat → Int32) (n : Nat) (pd pk : Nat → Nat) (pv : Nat → Nat → Int32) {k17 : Nat} (e17 : f 17 = nI k17) (b17 : k17 ≤ 8) (q0 b : Nat) {k : Nat} (hk : k < 5) (v : Nat → Int32) (he : (xW cI cP a o f g pa tv n pd pk pv)[q0]? = some (b, .inr (kc k, pF v))) : Met l yX1_fit wsX1_fit ({ frames := 1, cells := 0, slots := 0, locals := 22 } : Room) (va_Pc [.ref (o 3), .ref (b)] (fun U => va_P (dC, dI) vwCl (xW cI cP a o f g pa tv n pd pk pv) U.heap ∧ va_K (dC, dI) vwCl [(cI, .int), (cP, .object RX4)] U ∧ xN U)) (vp_Si (fun r => r = b2i (xFit g k17 k (v 0) (v 1) = true))) 0 0 (fun _ => False) := by
  refine Met.ofW (cc := cX1_fit) (maxL := 3) (ret := (some .boolean)) (by decide) rfl ?_
  intro p_ e_ s m args below meth c_0 s₁ B hml hv
  obtain ⟨rfl, hP, hK, hN⟩ := hv
  have hx := B.exec
  have hb := B.bytes
  have hr := B.returns
  have hts := atoms_spec (ws := wsX1_fit) B.pre
  have hown : s.vm.findClass RX1 = some m.cls := findClass_of_methodNamed B.named
  have hlocks := B.notSynchronized
  have hP : va_P (dC, dI) vwCl (xW cI cP a o f g pa tv n pd pk pv) s.heap := hP
  have hl := lv_entry ([.ref (o 3), .ref (b)]) (n := 3) (Nat.le_of_ble_eq_true rfl)
  rw [lg_entry_eq]
  generalize (lg_sl ([.ref (o 3), .ref (b)]) ++ List.replicate (3 - (lg_sl ([.ref (o 3), .ref (b)])).length) Slot.unset).toArray = ls at hl ⊢
  have hl : lv_has ls 3 [(0, .ref (o 3)), (1, .ref (b))] := hl
  have hin1 : ∀ w ∈ wsX10, w ∈ wsX1_fit := fun _ h => List.mem_cons_of_mem _ (List.mem_append_left _ (List.mem_append_left _ (List.mem_append_left _ (List.mem_append_left _ (List.mem_append_left _ (List.mem_append_right _ h))))))
  have hW0 := hts (.fieldLink RX1 24 "EachEye$Cards" "size" "I") (by decide +kernel)
  have hW1 := hts (.fieldLink RX1 9 "EachEye$Cards" "shown" "[I") (by decide +kernel)
  have hW2 := hts (.fieldLink RX1 15 "EachEye$Cards" "said" "[I") (by decide +kernel)
  refine lv_iconst (v := nI (0)) hx hb dX1_fit_0 (by decide +kernel) ?_
  refine lv_istore_n (lv' := [(2, .int (nI (0))), (0, .ref (o 3)), (1, .ref (b))]) hx hb dX1_fit_1 rfl hl (by decide) rfl (fun ls hl => ?_)
  refine lp_ro (fun j : Nat => k17 - j) (fun j : Nat => j ≤ k17 ∧ ∀ i, i < j → xFitAt g k (v 0) (v 1) i = true) (fun j : Nat => [(0, .ref (o 3)), (1, .ref (b)), (2, .int (nI (j)))]) (0) ⟨by omega, fun j h => absurd h (Nat.not_lt_zero _)⟩ (by show lv_has ls 3 [(0, .ref (o 3)), (1, .ref (b)), (2, .int (nI (0)))]; exact lv_sub hl [1, 2, 0] rfl) (fun j hI ih_2 ls hl => ?_)
  have hI : j ≤ k17 ∧ ∀ i, i < j → xFitAt g k (v 0) (v 1) i = true := hI
  have hl : lv_has ls 3 [(0, .ref (o 3)), (1, .ref (b)), (2, .int (nI (j)))] := hl
  have hI1 := hI.1
  refine lv_iload_n hx hb dX1_fit_2 rfl (lv_at hl 2 rfl) ?_
  refine lv_aload_n hx hb dX1_fit_3 rfl (lv_at hl 0 rfl) ?_
  refine va_get (D := (dC, dI)) (ci := 1) (v := .int (nI (k17))) (C := RX1) (T := TX1) (N := 6) hx hb hts hin1 hown hK hP 5 rfl rfl 4 (by decide) hW0 (fun _ h9 => h9) (congrArg (fun z => some (Value.int z)) e17) dX1_fit_4 ?_
  refine lv_icmp_ge (tgt := 37) hx hb dX1_fit_7 (by decide) (fun c_1 => ?_) (fun c_1 => ?_)
  · skip
    rw [nI_leI (a := k17) (b := j) (by omega) (by omega)] at c_1
    refine lv_iconst (v := nI (1)) hx hb dX1_fit_37 (by decide +kernel) ?_
    exact W.zret (ty := .boolean) (v := nI (1)) hx hb hr rfl (fun t ht hW => ⟨nI (1), rfl, (by show nI (1) = b2i (xFit g k17 k (v 0) (v 1) = true); exact b2i_t (by rw [xFit, alB_iff]; intro i hi; exact hI.2 i (by omega))), ht⟩) (fun _ h => by cases h) dX1_fit_38
  · skip
    rw [nI_leI (a := k17) (b := j) (by omega) (by omega)] at c_1
    refine lv_aload_n hx hb dX1_fit_10 rfl (lv_at hl 1 rfl) ?_
    refine lv_aload_n hx hb dX1_fit_11 rfl (lv_at hl 0 rfl) ?_
    refine va_get (D := (dC, dI)) (ci := 1) (v := .ref (o 7)) (C := RX1) (T := TX1) (N := 6) hx hb hts hin1 hown hK hP 5 rfl rfl 0 (by decide) hW1 (fun _ h9 => h9) rfl dX1_fit_12 ?_
    refine lv_iload_n hx hb dX1_fit_15 rfl (lv_at hl 2 rfl) ?_
    refine ald hx hb hK hP (f := g 2) (k := j) 6 0 rfl rfl rfl (by omega) (by decide) dX1_fit_16 ?_
    refine cg_glimpse ⟨hx, hb, hml, hown, hts⟩ hts gX1_fit_X0_glimpse_u28X0 gX1_fit_X2_glimpse_u28X2 gX1_fit_X4_glimpse gX1_fit_X5_glimpse_u28X5 gX1_fit_X6_glimpse_u28X6 hK hP (q0) hk he hl.1 (Nat.le_of_ble_eq_true rfl) ⟨Nat.le_of_ble_eq_true rfl, Nat.le_of_ble_eq_true rfl⟩ ⟨Nat.le_of_ble_eq_true rfl, Nat.le_of_ble_eq_true rfl⟩ dX1_fit_17 ?_
    refine lv_aload_n hx hb dX1_fit_20 rfl (lv_at hl 0 rfl) ?_
    refine va_get (D := (dC, dI)) (ci := 1) (v := .ref (o 8)) (C := RX1) (T := TX1) (N := 6) hx hb hts hin1 hown hK hP 5 rfl rfl 1 (by decide) hW2 (fun _ h9 => h9) rfl dX1_fit_21 ?_
    refine lv_iload_n hx hb dX1_fit_24 rfl (lv_at hl 2 rfl) ?_
    refine ald hx hb hK hP (f := g 3) (k := j) 7 0 rfl rfl rfl (by omega) (by decide) dX1_fit_25 ?_
    refine lv_icmp_eq (tgt := 31) hx hb dX1_fit_26 (by decide) (fun c_2 => ?_) (fun c_2 => ?_)
    · skip
      refine lv_iinc (v := nI (j + 1)) (lv' := [(2, .int (nI (j + 1))), (0, .ref (o 3)), (1, .ref (b))]) hx hb dX1_fit_31 hl (k := 2) rfl (nI_1 _) (by decide) rfl (fun ls hl => ?_)
      refine lv_goto (tgt := 2) hx hb dX1_fit_34 (by decide) ?_
      exact ih_2 (j + 1) ls (by show _ < _; omega) ⟨by omega, lt_s hI.2 (by rw [xFitAt]; exact decide_eq_true c_2)⟩ (by show lv_has ls 3 [(0, .ref (o 3)), (1, .ref (b)), (2, .int (nI ((j + 1))))]; exact lv_sub hl [1, 2, 0] rfl)
    · skip
      refine lv_iconst (v := nI (0)) hx hb dX1_fit_29 (by decide +kernel) ?_
      exact W.zret (ty := .boolean) (v := nI (0)) hx hb hr rfl (fun t ht hW => ⟨nI (0), rfl, (by show nI (0) = b2i (xFit g k17 k (v 0) (v 1) = true); exact b2i_f (by rw [xFit, alB_iff]; intro h9; have h8 := h9 j (by omega); rw [xFitAt] at h8; exact c_2 (of_decide_eq_true h8))), ht⟩) (fun _ h => by cases h) dX1_fit_30

set_option maxHeartbeats 1200000 in
set_option maxRecDepth 100000 in
theorem c7_toldPeople (l : Launch) (dC : Nat → ClassId) (dI : Nat → Nat → Nat) (cI cP : ClassId) (a : Nat) (o : Nat → Nat) (f : Nat → Int32) (g : Nat → Nat → Int32) (pa : Nat → Option Nat) (tv : Nat → Nat → Int32) (n : Nat) (pd pk : Nat → Nat) (pv : Nat → Nat → Int32) (e7 : f 7 = nI n) (b7 : n ≤ 4) (hpa : ∀ i, i < n → pa i = some (pd i)) (hpk : ∀ i, i < n → pk i < 5) : Met l yX7_toldPeople wsX7_toldPeople ({ frames := 1, cells := 0, slots := 0, locals := 21 } : Room) (va_Pc [.ref (a)] (fun U => va_P (dC, dI) vwCl (xW cI cP a o f g pa tv n pd pk pv) U.heap ∧ va_K (dC, dI) vwCl [(cI, .int), (cP, .object RX4)] U ∧ xN U)) (vp_Si (fun r => r = sm (fun q9 => b2i (¬ pv q9 2 = (-1))) n)) 0 0 (fun _ => False) := by
  refine Met.ofW (cc := cX7_toldPeople) (maxL := 4) (ret := (some .int)) (by decide) rfl ?_
  intro p_ e_ s m args below meth c_0 s₁ B hml hv
  obtain ⟨rfl, hP, hK, hN⟩ := hv
  have hx := B.exec
  have hb := B.bytes
  have hr := B.returns
  have hts := atoms_spec (ws := wsX7_toldPeople) B.pre
  have hown : s.vm.findClass RX7 = some m.cls := findClass_of_methodNamed B.named
  have hlocks := B.notSynchronized
  have hP : va_P (dC, dI) vwCl (xW cI cP a o f g pa tv n pd pk pv) s.heap := hP
  have hl := lv_entry ([.ref (a)]) (n := 4) (Nat.le_of_ble_eq_true rfl)
  rw [lg_entry_eq]
  generalize (lg_sl ([.ref (a)]) ++ List.replicate (4 - (lg_sl ([.ref (a)])).length) Slot.unset).toArray = ls at hl ⊢
  have hl : lv_has ls 4 [(0, .ref (a))] := hl
  have hin0 : ∀ w ∈ wsX00, w ∈ wsX7_toldPeople := fun _ h => List.mem_cons_of_mem _ (List.mem_append_left _ (List.mem_append_left _ (List.mem_append_left _ (List.mem_append_left _ (List.mem_append_right _ h)))))
  have hin2 : ∀ w ∈ wsX20, w ∈ wsX7_toldPeople := fun _ h => List.mem_cons_of_mem _ (List.mem_append_left _ (List.mem_append_left _ (List.mem_append_left _ (List.mem_append_right _ h))))
  have hin4 : ∀ w ∈ wsX40, w ∈ wsX7_toldPeople := fun _ h => List.mem_cons_of_mem _ (List.mem_append_left _ (List.mem_append_left _ (List.mem_append_right _ h)))
  have hin5 : ∀ w ∈ wsX50, w ∈ wsX7_toldPeople := fun _ h => List.mem_cons_of_mem _ (List.mem_append_left _ (List.mem_append_right _ h))
  have hin6 : ∀ w ∈ wsX60, w ∈ wsX7_toldPeople := fun _ h => List.mem_cons_of_mem _ (List.mem_append_right _ h)
  have hin7 : ∀ w ∈ wsX70, w ∈ wsX7_toldPeople := fun _ h => List.mem_cons_of_mem _ (List.mem_append_left _ (List.mem_append_left _ (List.mem_append_left _ (List.mem_append_left _ (List.mem_append_left _ (List.mem_append_right _ h))))))
  have hW0 := hts (.fieldLink RX7 67 "EachEye" "peopleCount" "I") (by decide +kernel)
  have hW1 := hts (.fieldLink RX7 120 "EachEye$Person" "told" "I") (by decide +kernel)
  refine lv_iconst (v := nI (0)) hx hb dX7_toldPeople_0 (by decide +kernel) ?_
  refine lv_istore_n (lv' := [(1, .int (nI (0))), (0, .ref (a))]) hx hb dX7_toldPeople_1 rfl hl (by decide) rfl (fun ls hl => ?_)
  refine lv_iconst (v := nI (0)) hx hb dX7_toldPeople_2 (by decide +kernel) ?_
  refine lv_istore_n (lv' := [(2, .int (nI (0))), (1, .int (nI (0))), (0, .ref (a))]) hx hb dX7_toldPeople_3 rfl hl (by decide) rfl (fun ls hl => ?_)
  have e0_1 : (nI (0)) = sm (fun q9 => b2i (¬ pv q9 2 = (-1))) 0 := rfl
  refine lp_ro (fun i : Nat => n - i) (fun i : Nat => i ≤ n) (fun i : Nat => [(0, .ref (a)), (1, .int (sm (fun q9 => b2i (¬ pv q9 2 = (-1))) i)), (2, .int (nI (i)))]) (0) (by omega) (by show lv_has ls 4 [(0, .ref (a)), (1, .int (sm (fun q9 => b2i (¬ pv q9 2 = (-1))) 0)), (2, .int (nI (0)))]; rw [← e0_1]; exact lv_sub hl [2, 1, 0] rfl) (fun i hI ih_4 ls hl => ?_)
  have hI : i ≤ n := hI
  have hl : lv_has ls 4 [(0, .ref (a)), (1, .int (sm (fun q9 => b2i (¬ pv q9 2 = (-1))) i)), (2, .int (nI (i)))] := hl
  refine lv_iload_n hx hb dX7_toldPeople_4 rfl (lv_at hl 2 rfl) ?_
  refine lv_aload_n hx hb dX7_toldPeople_5 rfl (lv_at hl 0 rfl) ?_
  refine va_get (D := (dC, dI)) (ci := 7) (v := .int (nI (n))) (C := RX7) (T := TX7) (N := 16) hx hb hts hin7 hown hK hP 0 rfl rfl 7 (by decide) hW0 (fun _ h9 => h9) (congrArg (fun z => some (Value.int z)) e7) dX7_toldPeople_6 ?_
  refine lv_icmp_ge (tgt := 39) hx hb dX7_toldPeople_9 (by decide) (fun c_1 => ?_) (fun c_1 => ?_)
  · skip
    rw [nI_leI (a := n) (b := i) (by omega) (by omega)] at c_1
    have hE : n = i := by omega
    subst hE
    refine lv_iload_n hx hb dX7_toldPeople_39 rfl (lv_at hl 1 rfl) ?_
    exact W.iret (v := sm (fun q9 => b2i (¬ pv q9 2 = (-1))) n) hx hb hr (fun t ht hW => ⟨sm (fun q9 => b2i (¬ pv q9 2 = (-1))) n, rfl, (by show sm (fun q9 => b2i (¬ pv q9 2 = (-1))) n = sm (fun q9 => b2i (¬ pv q9 2 = (-1))) n; rfl), ht⟩) (fun _ h => by cases h) dX7_toldPeople_40
  · skip
    rw [nI_leI (a := n) (b := i) (by omega) (by omega)] at c_1
    refine lv_aload_n hx hb dX7_toldPeople_12 rfl (lv_at hl 0 rfl) ?_
    refine lv_iload_n hx hb dX7_toldPeople_13 rfl (lv_at hl 2 rfl) ?_
    refine va_csq (va_Run.run (va_runV (As := [.int (nI (i))]) (rest := []) ⟨hx, hb, hml, hown, hts⟩ (c7_known l dC dI cI cP a o f g pa tv n pd pk pv e7 (by omega) hpa hpk (nI (i)) ) (cwV 1 hts gX7_toldPeople_X7_known rfl rfl rfl (by decide +kernel) ⟨Nat.le_of_ble_eq_true rfl, Nat.le_of_ble_eq_true rfl⟩) ⟨fun a U g mk q => ⟨q.1, q.2.1, va_K.moved (u := U) (U := U.calling g mk a) (Vm.Alike.refl U.vm) q.2.2.1, xN.same (u := U) (U := U.calling g mk a) rfl q.2.2.2⟩, va_recv hK hP (ci := 7) (q0 := 0) rfl rfl, fun U hU hW => ⟨rfl, by rw [hU]; exact hP, va_K.moved hW.alike hK, xN.warm hW hN⟩⟩ rfl rfl hl.1 rfl (lv_room (Nat.le_of_ble_eq_true rfl)) dX7_toldPeople_14 ⟨Nat.le_of_ble_eq_true rfl, Nat.le_of_ble_eq_true rfl⟩)) (fun r hrc => ?_)
    have hrc : r = xKn n pd (nI (i)) := hrc
    subst hrc
    refine rf_s (xKn_k (by omega) (by omega)) ?_
    refine lv_astore_n (lv' := [(3, .ref (pd (i))), (0, .ref (a)), (1, .int (sm (fun q9 => b2i (¬ pv q9 2 = (-1))) i)), (2, .int (nI (i)))]) hx hb dX7_toldPeople_17 rfl hl (by decide) rfl (fun ls hl => ?_)
    refine lv_aload_n hx hb dX7_toldPeople_18 rfl (lv_at hl 0 rfl) ?_
    refine lv_ifnull hx hb dX7_toldPeople_19 ?_
    refine lv_aload_n hx hb dX7_toldPeople_22 rfl (lv_at hl 0 rfl) ?_
    refine pe_get hx hb hts hin0 hin2 hin4 hin5 hin6 hown hK hP (17 + (i)) (hpk _ (by omega)) (xw_p (by omega)) 2 (by decide) hW1 dX7_toldPeople_23 ?_
    refine lv_iconst (v := (-1)) hx hb dX7_toldPeople_26 (by decide +kernel) ?_
    refine lv_icmp_eq (tgt := 33) hx hb dX7_toldPeople_27 (by decide) (fun c_2 => ?_) (fun c_2 => ?_)
    · skip
      refine lv_iinc (v := nI (i + 1)) (lv' := [(2, .int (nI (i + 1))), (3, .ref (pd (i))), (0, .ref (a)), (1, .int (sm (fun q9 => b2i (¬ pv q9 2 = (-1))) i))]) hx hb dX7_toldPeople_33 hl (k := 3) rfl (nI_1 _) (by decide) rfl (fun ls hl => ?_)
      refine lv_goto (tgt := 4) hx hb dX7_toldPeople_36 (by decide) ?_
      have e1_1 : (sm (fun q9 => b2i (¬ pv q9 2 = (-1))) i) = sm (fun q9 => b2i (¬ pv q9 2 = (-1))) (i + 1) := by first | (simp only [sm, b2i, if_neg c_1, if_pos c_2, not_true_eq_false, not_false_eq_true, if_true, if_false]; done) | (simp [sm, b2i, if_neg c_1, if_pos c_2]; done)
      exact ih_4 (i + 1) ls (by show _ < _; omega) (by show _; omega) (by show lv_has ls 4 [(0, .ref (a)), (1, .int (sm (fun q9 => b2i (¬ pv q9 2 = (-1))) (i + 1))), (2, .int (nI ((i + 1))))]; rw [← e1_1]; exact lv_sub hl [2, 3, 0] rfl)
    · skip
      refine lv_iinc (v := sm (fun q9 => b2i (¬ pv q9 2 = (-1))) i + 1) (lv' := [(1, .int (sm (fun q9 => b2i (¬ pv q9 2 = (-1))) i + 1)), (3, .ref (pd (i))), (0, .ref (a)), (2, .int (nI (i)))]) hx hb dX7_toldPeople_30 hl (k := 2) rfl rfl (by decide) rfl (fun ls hl => ?_)
      refine lv_iinc (v := nI (i + 1)) (lv' := [(2, .int (nI (i + 1))), (1, .int (sm (fun q9 => b2i (¬ pv q9 2 = (-1))) i + 1)), (3, .ref (pd (i))), (0, .ref (a))]) hx hb dX7_toldPeople_33 hl (k := 3) rfl (nI_1 _) (by decide) rfl (fun ls hl => ?_)
      refine lv_goto (tgt := 4) hx hb dX7_toldPeople_36 (by decide) ?_
      have e1_1 : (sm (fun q9 => b2i (¬ pv q9 2 = (-1))) i + 1) = sm (fun q9 => b2i (¬ pv q9 2 = (-1))) (i + 1) := by first | (simp only [sm, b2i, if_neg c_1, if_neg c_2, not_true_eq_false, not_false_eq_true, if_true, if_false]; done) | (simp [sm, b2i, if_neg c_1, if_neg c_2]; done)
      exact ih_4 (i + 1) ls (by show _ < _; omega) (by show _; omega) (by show lv_has ls 4 [(0, .ref (a)), (1, .int (sm (fun q9 => b2i (¬ pv q9 2 = (-1))) (i + 1))), (2, .int (nI ((i + 1))))]; rw [← e1_1]; exact lv_sub hl [3, 1, 0] rfl)

set_option maxHeartbeats 1200000 in
set_option maxRecDepth 100000 in
theorem c7_colouredCells (l : Launch) (dC : Nat → ClassId) (dI : Nat → Nat → Nat) (cI cP : ClassId) (a : Nat) (o : Nat → Nat) (f : Nat → Int32) (g : Nat → Nat → Int32) (pa : Nat → Option Nat) (tv : Nat → Nat → Int32) (n : Nat) (pd pk : Nat → Nat) (pv : Nat → Nat → Int32) : Met l yX7_colouredCells wsX7_colouredCells ({ frames := 1, cells := 0, slots := 0, locals := 21 } : Room) (va_Pc [.ref (a)] (fun U => va_P (dC, dI) vwCl (xW cI cP a o f g pa tv n pd pk pv) U.heap ∧ va_K (dC, dI) vwCl [(cI, .int), (cP, .object RX4)] U ∧ xN U)) (vp_Si (fun r => r = xCol (f 6))) 0 0 (fun _ => False) := by
  refine Met.ofW (cc := cX7_colouredCells) (maxL := 3) (ret := (some .int)) (by decide) rfl ?_
  intro p_ e_ s m args below meth c_0 s₁ B hml hv
  obtain ⟨rfl, hP, hK, hN⟩ := hv
  have hx := B.exec
  have hb := B.bytes
  have hr := B.returns
  have hts := atoms_spec (ws := wsX7_colouredCells) B.pre
  have hown : s.vm.findClass RX7 = some m.cls := findClass_of_methodNamed B.named
  have hlocks := B.notSynchronized
  have hP : va_P (dC, dI) vwCl (xW cI cP a o f g pa tv n pd pk pv) s.heap := hP
  have hl := lv_entry ([.ref (a)]) (n := 3) (Nat.le_of_ble_eq_true rfl)
  rw [lg_entry_eq]
  generalize (lg_sl ([.ref (a)]) ++ List.replicate (3 - (lg_sl ([.ref (a)])).length) Slot.unset).toArray = ls at hl ⊢
  have hl : lv_has ls 3 [(0, .ref (a))] := hl
  have hin7 : ∀ w ∈ wsX70, w ∈ wsX7_colouredCells := fun _ h => List.mem_cons_of_mem _ (List.mem_append_right _ h)
  have hW0 := hts (.fieldLink RX7 39 "EachEye" "theSign" "I") (by decide +kernel)
  refine lv_aload_n hx hb dX7_colouredCells_0 rfl (lv_at hl 0 rfl) ?_
  refine va_get (D := (dC, dI)) (ci := 7) (v := .int (f 6)) (C := RX7) (T := TX7) (N := 16) hx hb hts hin7 hown hK hP 0 rfl rfl 6 (by decide) hW0 (fun _ h9 => h9) rfl dX7_colouredCells_1 ?_
  refine lv_iconst (v := (-1)) hx hb dX7_colouredCells_4 (by decide +kernel) ?_
  refine lv_icmp_ne (tgt := 10) hx hb dX7_colouredCells_5 (by decide) (fun c_1 => ?_) (fun c_1 => ?_)
  · skip
    refine lv_iconst (v := nI (0)) hx hb dX7_colouredCells_10 (by decide +kernel) ?_
    refine lv_istore_n (lv' := [(1, .int (nI (0))), (0, .ref (a))]) hx hb dX7_colouredCells_11 rfl hl (by decide) rfl (fun ls hl => ?_)
    refine lv_iconst (v := nI (0)) hx hb dX7_colouredCells_12 (by decide +kernel) ?_
    refine lv_istore_n (lv' := [(2, .int (nI (0))), (1, .int (nI (0))), (0, .ref (a))]) hx hb dX7_colouredCells_13 rfl hl (by decide) rfl (fun ls hl => ?_)
    have e0_1 : (nI (0)) = sm (fun q9 => b2i (¬ xHa (f 6) q9 = nI 0)) 0 := rfl
    refine lp_ro (fun i : Nat => 6 - i) (fun i : Nat => i ≤ 6) (fun i : Nat => [(0, .ref (a)), (1, .int (sm (fun q9 => b2i (¬ xHa (f 6) q9 = nI 0)) i)), (2, .int (nI (i)))]) (0) (by omega) (by show lv_has ls 3 [(0, .ref (a)), (1, .int (sm (fun q9 => b2i (¬ xHa (f 6) q9 = nI 0)) 0)), (2, .int (nI (0)))]; rw [← e0_1]; exact lv_sub hl [2, 1, 0] rfl) (fun i hI ih_14 ls hl => ?_)
    have hI : i ≤ 6 := hI
    have hl : lv_has ls 3 [(0, .ref (a)), (1, .int (sm (fun q9 => b2i (¬ xHa (f 6) q9 = nI 0)) i)), (2, .int (nI (i)))] := hl
    refine lv_iload_n hx hb dX7_colouredCells_14 rfl (lv_at hl 2 rfl) ?_
    refine lv_bipush (v := nI (6)) hx hb dX7_colouredCells_15 (by decide +kernel) ?_
    refine lv_icmp_ge (tgt := 40) hx hb dX7_colouredCells_17 (by decide) (fun c_2 => ?_) (fun c_2 => ?_)
    · skip
      rw [nI_leI (a := 6) (b := i) (by omega) (by omega)] at c_2
      have hE : 6 = i := by omega
      subst hE
      refine lv_iload_n hx hb dX7_colouredCells_40 rfl (lv_at hl 1 rfl) ?_
      exact W.iret (v := sm (fun q9 => b2i (¬ xHa (f 6) q9 = nI 0)) 6) hx hb hr (fun t ht hW => ⟨sm (fun q9 => b2i (¬ xHa (f 6) q9 = nI 0)) 6, rfl, (by show sm (fun q9 => b2i (¬ xHa (f 6) q9 = nI 0)) 6 = xCol (f 6); first | (simp only [xCol, if_neg c_1, if_pos c_2]; done) | (simp only [xCol, if_neg c_1, if_pos c_2]; rfl) | rfl | (simp [xCol, if_neg c_1, if_pos c_2]; done)), ht⟩) (fun _ h => by cases h) dX7_colouredCells_41
    · skip
      rw [nI_leI (a := 6) (b := i) (by omega) (by omega)] at c_2
      refine lv_aload_n hx hb dX7_colouredCells_20 rfl (lv_at hl 0 rfl) ?_
      refine va_get (D := (dC, dI)) (ci := 7) (v := .int (f 6)) (C := RX7) (T := TX7) (N := 16) hx hb hts hin7 hown hK hP 0 rfl rfl 6 (by decide) hW0 (fun _ h9 => h9) rfl dX7_colouredCells_21 ?_
      refine lv_iload_n hx hb dX7_colouredCells_24 rfl (lv_at hl 2 rfl) ?_
      refine vp_callSi (va_Run.run (va_runS (As := [.int (f 6), .int (nI (i))]) (rest := []) ⟨hx, hb, hml, hown, hts⟩ (c7_hueAt l (f 6) (i)) (va_cwS 2 hts gX7_colouredCells_X7_hueAt rfl rfl rfl (by decide +kernel) ⟨Nat.le_of_ble_eq_true rfl, Nat.le_of_ble_eq_true rfl⟩) ⟨fun _ _ _ _ q => q, fun U hU hW => ⟨rfl, trivial⟩⟩ rfl rfl hl.1 rfl (lv_room (Nat.le_of_ble_eq_true rfl)) dX7_colouredCells_25 ⟨Nat.le_of_ble_eq_true rfl, Nat.le_of_ble_eq_true rfl⟩)) (fun r hrc => ?_)
      have hrc : r = xHa (f 6) (i) := hrc
      subst hrc
      refine lv_if_eq (tgt := 34) hx hb dX7_colouredCells_28 (by decide) (fun c_3 => ?_) (fun c_3 => ?_)
      · skip
        have c_3 : (xHa (f 6) (i)) = nI 0 := c_3
        refine lv_iinc (v := nI (i + 1)) (lv' := [(2, .int (nI (i + 1))), (0, .ref (a)), (1, .int (sm (fun q9 => b2i (¬ xHa (f 6) q9 = nI 0)) i))]) hx hb dX7_colouredCells_34 hl (k := 2) rfl (nI_1 _) (by decide) rfl (fun ls hl => ?_)
        refine lv_goto (tgt := 14) hx hb dX7_colouredCells_37 (by decide) ?_
        have e1_1 : (sm (fun q9 => b2i (¬ xHa (f 6) q9 = nI 0)) i) = sm (fun q9 => b2i (¬ xHa (f 6) q9 = nI 0)) (i + 1) := by first | (simp only [sm, b2i, if_neg c_1, if_neg c_2, if_pos c_3, not_true_eq_false, not_false_eq_true, if_true, if_false]; done) | (simp [sm, b2i, if_neg c_1, if_neg c_2, if_pos c_3]; done)
        exact ih_14 (i + 1) ls (by show _ < _; omega) (by show _; omega) (by show lv_has ls 3 [(0, .ref (a)), (1, .int (sm (fun q9 => b2i (¬ xHa (f 6) q9 = nI 0)) (i + 1))), (2, .int (nI ((i + 1))))]; rw [← e1_1]; exact lv_sub hl [1, 2, 0] rfl)
      · skip
        have c_3 : ¬ (xHa (f 6) (i)) = nI 0 := c_3
        refine lv_iinc (v := sm (fun q9 => b2i (¬ xHa (f 6) q9 = nI 0)) i + 1) (lv' := [(1, .int (sm (fun q9 => b2i (¬ xHa (f 6) q9 = nI 0)) i + 1)), (0, .ref (a)), (2, .int (nI (i)))]) hx hb dX7_colouredCells_31 hl (k := 1) rfl rfl (by decide) rfl (fun ls hl => ?_)
        refine lv_iinc (v := nI (i + 1)) (lv' := [(2, .int (nI (i + 1))), (1, .int (sm (fun q9 => b2i (¬ xHa (f 6) q9 = nI 0)) i + 1)), (0, .ref (a))]) hx hb dX7_colouredCells_34 hl (k := 2) rfl (nI_1 _) (by decide) rfl (fun ls hl => ?_)
        refine lv_goto (tgt := 14) hx hb dX7_colouredCells_37 (by decide) ?_
        have e1_1 : (sm (fun q9 => b2i (¬ xHa (f 6) q9 = nI 0)) i + 1) = sm (fun q9 => b2i (¬ xHa (f 6) q9 = nI 0)) (i + 1) := by first | (simp only [sm, b2i, if_neg c_1, if_neg c_2, if_neg c_3, not_true_eq_false, not_false_eq_true, if_true, if_false]; done) | (simp [sm, b2i, if_neg c_1, if_neg c_2, if_neg c_3]; done)
        exact ih_14 (i + 1) ls (by show _ < _; omega) (by show _; omega) (by show lv_has ls 3 [(0, .ref (a)), (1, .int (sm (fun q9 => b2i (¬ xHa (f 6) q9 = nI 0)) (i + 1))), (2, .int (nI ((i + 1))))]; rw [← e1_1]; exact lv_sub hl [2, 1, 0] rfl)
  · skip
    refine lv_iconst (v := nI (0)) hx hb dX7_colouredCells_8 (by decide +kernel) ?_
    exact W.iret (v := nI (0)) hx hb hr (fun t ht hW => ⟨nI (0), rfl, (by show nI (0) = xCol (f 6); first | (simp only [xCol, if_pos c_1]; done) | (simp only [xCol, if_pos c_1]; rfl) | rfl | (simp [xCol, if_pos c_1]; done)), ht⟩) (fun _ h => by cases h) dX7_colouredCells_9
