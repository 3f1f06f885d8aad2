theorem su_id {α : Type} (f : Nat → α) (k : Nat) : su f k (f k) = f := by
  funext j
  unfold su
  by_cases h : j = k
  · rw [if_pos h, h]
  · rw [if_neg h]
theorem xw_lt {cI cP : ClassId} {a : Nat} {o : Nat → Nat} {f : Nat → Int32} {g : Nat → Nat → Int32} {pa : Nat → Option Nat} {tv : Nat → Nat → Int32} {n m : Nat} {pd pk : Nat → Nat} {pv : Nat → Nat → Int32} (h : m ≤ n) {i : Nat} {e : Nat × va_E} (he : (xW cI cP a o f g pa tv m pd pk pv)[i]? = some e) : (xW cI cP a o f g pa tv n pd pk pv)[i]? = some e := by
  unfold xW at he ⊢
  have hl : (xFix cI cP a o f g pa tv).length = 17 := rfl
  by_cases hi : i < 17
  · rw [List.getElem?_append_left (by omega)] at he ⊢
    exact he
  · rw [List.getElem?_append_right (by omega), hl] at he ⊢
    unfold xPpl at he ⊢
    rw [List.getElem?_map] at he ⊢
    by_cases hm : i - 17 < m
    · rw [List.getElem?_range hm] at he
      rw [List.getElem?_range (Nat.lt_of_lt_of_le hm h)]
      exact he
    · rw [List.getElem?_eq_none (by rw [List.length_range]; omega)] at he
      cases he
theorem xw_dropP {D : va_G} {cl : List vw_C} {H : Heap} {cI cP : ClassId} {a : Nat} {o : Nat → Nat} {f : Nat → Int32} {g : Nat → Nat → Int32} {pa : Nat → Option Nat} {tv : Nat → Nat → Int32} {n : Nat} (m : Nat) {pd pk : Nat → Nat} {pv : Nat → Nat → Int32} (h : m ≤ n) (hP : va_P D cl (xW cI cP a o f g pa tv n pd pk pv) H) : va_P D cl (xW cI cP a o f g pa tv m pd pk pv) H := fun i e he => hP i e (xw_lt h he)
theorem xw_dropD {A : Nat → Prop} {cI cP : ClassId} {a : Nat} {o : Nat → Nat} {f : Nat → Int32} {g : Nat → Nat → Int32} {pa : Nat → Option Nat} {tv : Nat → Nat → Int32} {n : Nat} (m : Nat) {pd pk : Nat → Nat} {pv : Nat → Nat → Int32} (h : m ≤ n) (hD : va_D A (xW cI cP a o f g pa tv n pd pk pv)) : va_D A (xW cI cP a o f g pa tv m pd pk pv) := ⟨fun i j e1 e2 h1 h2 => hD.1 i j e1 e2 (xw_lt h h1) (xw_lt h h2), fun i e he => hD.2 i e (xw_lt h he)⟩
def xLyT (z y w : Int32) : Nat → Int32
  | 0 => w
  | j + 1 => if (y >>> (nI j &&& 31)) &&& nI 1 = nI 1 then (if xHa (xLyT z y w j) j ||| z = xHa (xLyT z y w j) j then xLyT z y w j else xWh (xLyT z y w j) j (xHa (xLyT z y w j) j ||| z)) else xLyT z y w j
def xLyN (z y w : Int32) : Nat → Int32
  | 0 => nI 0
  | j + 1 => if (y >>> (nI j &&& 31)) &&& nI 1 = nI 1 then (if xHa (xLyT z y w j) j ||| z = xHa (xLyT z y w j) j then xLyN z y w j else xLyN z y w j + 1) else xLyN z y w j
def xLayer (f : Nat → Int32) (g : Nat → Nat → Int32) (k : Nat) (x y : Int32) : Int32 × (Nat → Int32) × (Nat → Nat → Int32) := if xOk x k then (if y.toInt < 0 then ((-102), f, g) else if y.toInt < ((64 : Nat) : Int) then (xLyN (g 1 x.toInt.toNat) y (f 6) 6, su (su f 6 (xLyT (g 1 x.toInt.toNat) y (f 6) 6)) 9 (f 9 + nI 1), g) else ((-102), f, g)) else ((-101), f, g)
def xSignF (f : Nat → Int32) (w : Int32) : Nat → Int32 := su (su (su (su (su (su (su (su f 6 w) 7 (nI 0)) 8 (nI 0)) 9 (nI 0)) 17 (nI 0)) 12 (-1)) 10 (f 10 + nI 1)) 16 (nI 0)
def xSign (f : Nat → Int32) (g : Nat → Nat → Int32) (pa : Nat → Option Nat) (tv : Nat → Nat → Int32) (n : Nat) (pd pk : Nat → Nat) (pv : Nat → Nat → Int32) (k : Nat) : Int32 × XSt := if xText g k = (-1) then ((-103), f, g, pa, tv, n, pd, pk, pv) else (xCol (xText g k), xSignF f (xText g k), g, pa, tv, 0, pd, pk, pv)
def xCa (tv : Nat → Nat → Int32) (q : Nat) : Nat → Nat → Int32 := su tv (q / 64) (su (su (tv (q / 64)) 0 (nI (q / 8 % 8))) 1 (nI (q % 8)))
def xWo (g : Nat → Nat → Int32) (i : Nat) : Nat → Int32
  | 0 => nI 0
  | j + 1 => if (xWo g i j) < (g 6 (8 * i + j)) then g 6 (8 * i + j) else xWo g i j
def xUn (g : Nat → Nat → Int32) (y : Int32) : Nat → Int32
  | 0 => nI 0
  | j + 1 => if (y >>> (nI j &&& 31)) &&& nI 1 = nI 1 then xUn g y j ||| g 1 j else xUn g y j
/-- one who is told, or not, reads it at cell c where the cell shows y -/
def xTo (pk : Nat → Nat) (pv : Nat → Nat → Int32) (c : Nat) (y : Int32) (i : Nat) : Bool := decide (pv i 2 = (-1) ∨ xSee pk pv i y = xHa (pv i 2) c)
def xToA (n : Nat) (pk : Nat → Nat) (pv : Nat → Nat → Int32) (c : Nat) (y : Int32) : Bool := alB (xTo pk pv c y) n
set_option maxHeartbeats 1200000 in
set_option maxRecDepth 100000 in
theorem c7_about (l : Launch) (dC : Nat → ClassId) (dI : Nat → Nat → Nat) (cI cP : ClassId) (a : Nat) (o : Nat → Nat) (f : Nat → Int32) (g : Nat → Nat → Int32) (pa : Nat → Option Nat) (tv : Nat → Nat → Int32) (n : Nat) (pd pk : Nat → Nat) (pv : Nat → Nat → Int32) (e7 : f 7 = nI n) (b7 : n ≤ 4) (hpa : ∀ i, i < n → pa i = some (pd i)) (hpk : ∀ i, i < n → pk i < 5) (x : Int32) (y : Int32) : Met l yX7_about wsX7_about ({ frames := 2, cells := 0, slots := 0, locals := 44 } : Room) (va_Pc [.ref (a), .int (x), .int (y)] (fun U => va_P (dC, dI) vwCl (xW cI cP a o f g pa tv n pd pk pv) U.heap ∧ va_K (dC, dI) vwCl [(cI, .int), (cP, .object RX4)] U ∧ xN U)) (vp_Si (fun r => r = xAbout f n pk pv x y)) 0 0 (fun _ => False) := by
  refine Met.ofW (cc := cX7_about) (maxL := 4) (ret := (some .int)) (by decide) rfl ?_
  intro p_ e_ s m args below meth c_0 s₁ B hml hv
  obtain ⟨rfl, hP, hK, hN⟩ := hv
  have hx := B.exec
  have hb := B.bytes
  have hr := B.returns
  have hts := atoms_spec (ws := wsX7_about) B.pre
  have hown : s.vm.findClass RX7 = some m.cls := findClass_of_methodNamed B.named
  have hlocks := B.notSynchronized
  have hP : va_P (dC, dI) vwCl (xW cI cP a o f g pa tv n pd pk pv) s.heap := hP
  have hl := lv_entry ([.ref (a), .int (x), .int (y)]) (n := 4) (Nat.le_of_ble_eq_true rfl)
  rw [lg_entry_eq]
  generalize (lg_sl ([.ref (a), .int (x), .int (y)]) ++ List.replicate (4 - (lg_sl ([.ref (a), .int (x), .int (y)])).length) Slot.unset).toArray = ls at hl ⊢
  have hl : lv_has ls 4 [(0, .ref (a)), (1, .int (x)), (2, .int (y))] := hl
  have hin0 : ∀ w ∈ wsX00, w ∈ wsX7_about := fun _ h => List.mem_cons_of_mem _ (List.mem_append_left _ (List.mem_append_left _ (List.mem_append_left _ (List.mem_append_left _ (List.mem_append_right _ h)))))
  have hin2 : ∀ w ∈ wsX20, w ∈ wsX7_about := fun _ h => List.mem_cons_of_mem _ (List.mem_append_left _ (List.mem_append_left _ (List.mem_append_left _ (List.mem_append_right _ h))))
  have hin4 : ∀ w ∈ wsX40, w ∈ wsX7_about := fun _ h => List.mem_cons_of_mem _ (List.mem_append_left _ (List.mem_append_left _ (List.mem_append_right _ h)))
  have hin5 : ∀ w ∈ wsX50, w ∈ wsX7_about := fun _ h => List.mem_cons_of_mem _ (List.mem_append_left _ (List.mem_append_right _ h))
  have hin6 : ∀ w ∈ wsX60, w ∈ wsX7_about := fun _ h => List.mem_cons_of_mem _ (List.mem_append_right _ h)
  have hin7 : ∀ w ∈ wsX70, w ∈ wsX7_about := fun _ h => List.mem_cons_of_mem _ (List.mem_append_left _ (List.mem_append_left _ (List.mem_append_left _ (List.mem_append_left _ (List.mem_append_left _ (List.mem_append_right _ h))))))
  have hW0 := hts (.fieldLink RX7 107 "EachEye$Person" "left" "I") (by decide +kernel)
  have hW1 := hts (.fieldLink RX7 110 "EachEye$Person" "right" "I") (by decide +kernel)
  have hW2 := hts (.fieldLink RX7 120 "EachEye$Person" "told" "I") (by decide +kernel)
  have hW3 := hts (.fieldLink RX7 39 "EachEye" "theSign" "I") (by decide +kernel)
  refine lv_aload_n hx hb dX7_about_0 rfl (lv_at hl 0 rfl) ?_
  refine lv_iload_n hx hb dX7_about_1 rfl (lv_at hl 1 rfl) ?_
  refine va_csq (va_Run.run (va_runV (As := [.int (x)]) (rest := []) ⟨hx, hb, hml, hown, hts⟩ (c7_known l dC dI cI cP a o f g pa tv n pd pk pv e7 (by omega) hpa hpk (x) ) (cwV 1 hts gX7_about_X7_known rfl rfl rfl (by decide +kernel) ⟨Nat.le_of_ble_eq_true rfl, Nat.le_of_ble_eq_true rfl⟩) ⟨fun a U g mk q => ⟨q.1, q.2.1, va_K.moved (u := U) (U := U.calling g mk a) (Vm.Alike.refl U.vm) q.2.2.1, xN.same (u := U) (U := U.calling g mk a) rfl q.2.2.2⟩, va_recv hK hP (ci := 7) (q0 := 0) rfl rfl, fun U hU hW => ⟨rfl, by rw [hU]; exact hP, va_K.moved hW.alike hK, xN.warm hW hN⟩⟩ rfl rfl hl.1 rfl (lv_room (Nat.le_of_ble_eq_true rfl)) dX7_about_2 ⟨Nat.le_of_ble_eq_true rfl, Nat.le_of_ble_eq_true rfl⟩)) (fun r hrc => ?_)
  have hrc : r = xKn n pd (x) := hrc
  subst hrc
  by_cases h_1 : 0 ≤ (x).toInt ∧ (x).toInt < (n : Int)
  · skip
    refine rf_s (xKn_s h_1) ?_
    refine lv_astore_n (lv' := [(3, .ref (pd (x.toInt.toNat))), (0, .ref (a)), (1, .int (x)), (2, .int (y))]) hx hb dX7_about_5 rfl hl (by decide) rfl (fun ls hl => ?_)
    refine lv_aload_n hx hb dX7_about_6 rfl (lv_at hl 0 rfl) ?_
    refine lv_ifnonnull (tgt := 13) hx hb dX7_about_7 (by decide) ?_
    refine lv_iload_n hx hb dX7_about_13 rfl (lv_at hl 3 rfl) ?_
    refine lv_bipush (v := nI (10)) hx hb dX7_about_14 (by decide +kernel) ?_
    refine lv_icmp_lt (tgt := 41) hx hb dX7_about_16 (by decide) (fun c_2 => ?_) (fun c_2 => ?_)
    · skip
      rw [lti, tn (n := 10) (by omega)] at c_2
      refine lv_iload_n hx hb dX7_about_41 rfl (lv_at hl 3 rfl) ?_
      refine lv_bipush (v := nI (20)) hx hb dX7_about_42 (by decide +kernel) ?_
      refine lv_icmp_lt (tgt := 77) hx hb dX7_about_44 (by decide) (fun c_3 => ?_) (fun c_3 => ?_)
      · skip
        rw [lti, tn (n := 20) (by omega)] at c_3
        refine lv_iload_n hx hb dX7_about_77 rfl (lv_at hl 3 rfl) ?_
        by_cases c_4 : (y).toInt = 0
        · skip
          refine lv_tableIn (tgt := 108) hx hb dX7_about_78 (by omega) (by omega) (by rw [c_4]; rfl) (by decide) ?_
          refine lv_aload_n hx hb dX7_about_108 rfl (lv_at hl 0 rfl) ?_
          refine cg_kind ⟨hx, hb, hml, hown, hts⟩ hts gX7_about_X0_kind_u123X0 gX7_about_X2_kind_u123X2 gX7_about_X4_kind gX7_about_X5_kind_u123X5 gX7_about_X6_kind_u123X6 hK hP (17 + (x.toInt.toNat)) (hpk _ (by omega)) (xw_p (by omega)) hl.1 (Nat.le_of_ble_eq_true rfl) ⟨Nat.le_of_ble_eq_true rfl, Nat.le_of_ble_eq_true rfl⟩ ⟨Nat.le_of_ble_eq_true rfl, Nat.le_of_ble_eq_true rfl⟩ dX7_about_109 ?_
          exact W.iret (v := nI (pk (x.toInt.toNat))) hx hb hr (fun t ht hW => ⟨nI (pk (x.toInt.toNat)), rfl, (by show nI (pk (x.toInt.toNat)) = xAbout f n pk pv x y; rw [xAbout, if_pos h_1, xAb, if_neg (by omega), if_neg (by omega), xAb3, if_pos c_4]), ht⟩) (fun _ h => by cases h) dX7_about_112
        · skip
          by_cases c_5 : (y).toInt = 1
          · skip
            refine lv_tableIn (tgt := 113) hx hb dX7_about_78 (by omega) (by omega) (by rw [c_5]; rfl) (by decide) ?_
            refine lv_aload_n hx hb dX7_about_113 rfl (lv_at hl 0 rfl) ?_
            refine pe_get hx hb hts hin0 hin2 hin4 hin5 hin6 hown hK hP (17 + (x.toInt.toNat)) (hpk _ (by omega)) (xw_p (by omega)) 0 (by decide) hW0 dX7_about_114 ?_
            exact W.iret (v := pv (x.toInt.toNat) 0) hx hb hr (fun t ht hW => ⟨pv (x.toInt.toNat) 0, rfl, (by show pv (x.toInt.toNat) 0 = xAbout f n pk pv x y; rw [xAbout, if_pos h_1, xAb, if_neg (by omega), if_neg (by omega), xAb3, if_neg c_4, if_pos c_5]), ht⟩) (fun _ h => by cases h) dX7_about_117
          · skip
            by_cases c_6 : (y).toInt = 2
            · skip
              refine lv_tableIn (tgt := 118) hx hb dX7_about_78 (by omega) (by omega) (by rw [c_6]; rfl) (by decide) ?_
              refine lv_aload_n hx hb dX7_about_118 rfl (lv_at hl 0 rfl) ?_
              refine pe_get hx hb hts hin0 hin2 hin4 hin5 hin6 hown hK hP (17 + (x.toInt.toNat)) (hpk _ (by omega)) (xw_p (by omega)) 1 (by decide) hW1 dX7_about_119 ?_
              exact W.iret (v := pv (x.toInt.toNat) 1) hx hb hr (fun t ht hW => ⟨pv (x.toInt.toNat) 1, rfl, (by show pv (x.toInt.toNat) 1 = xAbout f n pk pv x y; rw [xAbout, if_pos h_1, xAb, if_neg (by omega), if_neg (by omega), xAb3, if_neg c_4, if_neg c_5, if_pos c_6]), ht⟩) (fun _ h => by cases h) dX7_about_122
            · skip
              by_cases c_7 : (y).toInt = 3
              · skip
                refine lv_tableIn (tgt := 123) hx hb dX7_about_78 (by omega) (by omega) (by rw [c_7]; rfl) (by decide) ?_
                refine lv_aload_n hx hb dX7_about_123 rfl (lv_at hl 0 rfl) ?_
                refine cf_truths ⟨hx, hb, hml, hown, hts⟩ hts gX7_about_X4_truths_u126X0 gX7_about_X4_truths_u126X2 gX7_about_X4_truths gX7_about_X4_truths_u126X5 gX7_about_X4_truths_u126X6 hK hP (17 + (x.toInt.toNat)) (hpk _ (by omega)) (xw_p (by omega)) hl.1 (Nat.le_of_ble_eq_true rfl) ⟨Nat.le_of_ble_eq_true rfl, Nat.le_of_ble_eq_true rfl⟩ ⟨Nat.le_of_ble_eq_true rfl, Nat.le_of_ble_eq_true rfl⟩ dX7_about_124 ?_
                exact W.iret (v := xTrue (pk (x.toInt.toNat)) (pv (x.toInt.toNat) 0) (pv (x.toInt.toNat) 1) 8) hx hb hr (fun t ht hW => ⟨xTrue (pk (x.toInt.toNat)) (pv (x.toInt.toNat) 0) (pv (x.toInt.toNat) 1) 8, rfl, (by show xTrue (pk (x.toInt.toNat)) (pv (x.toInt.toNat) 0) (pv (x.toInt.toNat) 1) 8 = xAbout f n pk pv x y; rw [xAbout, if_pos h_1, xAb, if_neg (by omega), if_neg (by omega), xAb3, if_neg c_4, if_neg c_5, if_neg c_6, if_pos c_7]), ht⟩) (fun _ h => by cases h) dX7_about_127
              · skip
                refine lv_tableOut (tgt := 128) hx hb dX7_about_78 (by omega) (by decide) ?_
                refine lv_bipush (v := (-102)) hx hb dX7_about_128 (by decide +kernel) ?_
                exact W.iret (v := (-102)) hx hb hr (fun t ht hW => ⟨(-102), rfl, (by show (-102) = xAbout f n pk pv x y; rw [xAbout, if_pos h_1, xAb, if_neg (by omega), if_neg (by omega), xAb3, if_neg c_4, if_neg c_5, if_neg c_6, if_neg c_7]), ht⟩) (fun _ h => by cases h) dX7_about_130
      · skip
        rw [lti, tn (n := 20) (by omega)] at c_3
        refine lv_iload_n hx hb dX7_about_47 rfl (lv_at hl 3 rfl) ?_
        refine lv_bipush (v := nI (26)) hx hb dX7_about_48 (by decide +kernel) ?_
        refine lv_icmp_ge (tgt := 77) hx hb dX7_about_50 (by decide) (fun c_8 => ?_) (fun c_8 => ?_)
        · skip
          rw [lei, tn (n := 26) (by omega)] at c_8
          refine lv_iload_n hx hb dX7_about_77 rfl (lv_at hl 3 rfl) ?_
          by_cases c_9 : (y).toInt = 0
          · skip
            refine lv_tableIn (tgt := 108) hx hb dX7_about_78 (by omega) (by omega) (by rw [c_9]; rfl) (by decide) ?_
            refine lv_aload_n hx hb dX7_about_108 rfl (lv_at hl 0 rfl) ?_
            refine cg_kind ⟨hx, hb, hml, hown, hts⟩ hts gX7_about_X0_kind_u123X0 gX7_about_X2_kind_u123X2 gX7_about_X4_kind gX7_about_X5_kind_u123X5 gX7_about_X6_kind_u123X6 hK hP (17 + (x.toInt.toNat)) (hpk _ (by omega)) (xw_p (by omega)) hl.1 (Nat.le_of_ble_eq_true rfl) ⟨Nat.le_of_ble_eq_true rfl, Nat.le_of_ble_eq_true rfl⟩ ⟨Nat.le_of_ble_eq_true rfl, Nat.le_of_ble_eq_true rfl⟩ dX7_about_109 ?_
            exact W.iret (v := nI (pk (x.toInt.toNat))) hx hb hr (fun t ht hW => ⟨nI (pk (x.toInt.toNat)), rfl, (by show nI (pk (x.toInt.toNat)) = xAbout f n pk pv x y; rw [xAbout, if_pos h_1, xAb, if_neg (by omega), if_neg (by omega), xAb3, if_pos c_9]), ht⟩) (fun _ h => by cases h) dX7_about_112
          · skip
            by_cases c_10 : (y).toInt = 1
            · skip
              refine lv_tableIn (tgt := 113) hx hb dX7_about_78 (by omega) (by omega) (by rw [c_10]; rfl) (by decide) ?_
              refine lv_aload_n hx hb dX7_about_113 rfl (lv_at hl 0 rfl) ?_
              refine pe_get hx hb hts hin0 hin2 hin4 hin5 hin6 hown hK hP (17 + (x.toInt.toNat)) (hpk _ (by omega)) (xw_p (by omega)) 0 (by decide) hW0 dX7_about_114 ?_
              exact W.iret (v := pv (x.toInt.toNat) 0) hx hb hr (fun t ht hW => ⟨pv (x.toInt.toNat) 0, rfl, (by show pv (x.toInt.toNat) 0 = xAbout f n pk pv x y; rw [xAbout, if_pos h_1, xAb, if_neg (by omega), if_neg (by omega), xAb3, if_neg c_9, if_pos c_10]), ht⟩) (fun _ h => by cases h) dX7_about_117
            · skip
              by_cases c_11 : (y).toInt = 2
              · skip
                refine lv_tableIn (tgt := 118) hx hb dX7_about_78 (by omega) (by omega) (by rw [c_11]; rfl) (by decide) ?_
                refine lv_aload_n hx hb dX7_about_118 rfl (lv_at hl 0 rfl) ?_
                refine pe_get hx hb hts hin0 hin2 hin4 hin5 hin6 hown hK hP (17 + (x.toInt.toNat)) (hpk _ (by omega)) (xw_p (by omega)) 1 (by decide) hW1 dX7_about_119 ?_
                exact W.iret (v := pv (x.toInt.toNat) 1) hx hb hr (fun t ht hW => ⟨pv (x.toInt.toNat) 1, rfl, (by show pv (x.toInt.toNat) 1 = xAbout f n pk pv x y; rw [xAbout, if_pos h_1, xAb, if_neg (by omega), if_neg (by omega), xAb3, if_neg c_9, if_neg c_10, if_pos c_11]), ht⟩) (fun _ h => by cases h) dX7_about_122
              · skip
                by_cases c_12 : (y).toInt = 3
                · skip
                  refine lv_tableIn (tgt := 123) hx hb dX7_about_78 (by omega) (by omega) (by rw [c_12]; rfl) (by decide) ?_
                  refine lv_aload_n hx hb dX7_about_123 rfl (lv_at hl 0 rfl) ?_
                  refine cf_truths ⟨hx, hb, hml, hown, hts⟩ hts gX7_about_X4_truths_u126X0 gX7_about_X4_truths_u126X2 gX7_about_X4_truths gX7_about_X4_truths_u126X5 gX7_about_X4_truths_u126X6 hK hP (17 + (x.toInt.toNat)) (hpk _ (by omega)) (xw_p (by omega)) hl.1 (Nat.le_of_ble_eq_true rfl) ⟨Nat.le_of_ble_eq_true rfl, Nat.le_of_ble_eq_true rfl⟩ ⟨Nat.le_of_ble_eq_true rfl, Nat.le_of_ble_eq_true rfl⟩ dX7_about_124 ?_
                  exact W.iret (v := xTrue (pk (x.toInt.toNat)) (pv (x.toInt.toNat) 0) (pv (x.toInt.toNat) 1) 8) hx hb hr (fun t ht hW => ⟨xTrue (pk (x.toInt.toNat)) (pv (x.toInt.toNat) 0) (pv (x.toInt.toNat) 1) 8, rfl, (by show xTrue (pk (x.toInt.toNat)) (pv (x.toInt.toNat) 0) (pv (x.toInt.toNat) 1) 8 = xAbout f n pk pv x y; rw [xAbout, if_pos h_1, xAb, if_neg (by omega), if_neg (by omega), xAb3, if_neg c_9, if_neg c_10, if_neg c_11, if_pos c_12]), ht⟩) (fun _ h => by cases h) dX7_about_127
                · skip
                  refine lv_tableOut (tgt := 128) hx hb dX7_about_78 (by omega) (by decide) ?_
                  refine lv_bipush (v := (-102)) hx hb dX7_about_128 (by decide +kernel) ?_
                  exact W.iret (v := (-102)) hx hb hr (fun t ht hW => ⟨(-102), rfl, (by show (-102) = xAbout f n pk pv x y; rw [xAbout, if_pos h_1, xAb, if_neg (by omega), if_neg (by omega), xAb3, if_neg c_9, if_neg c_10, if_neg c_11, if_neg c_12]), ht⟩) (fun _ h => by cases h) dX7_about_130
        · skip
          rw [lei, tn (n := 26) (by omega)] at c_8
          refine lv_aload_n hx hb dX7_about_53 rfl (lv_at hl 0 rfl) ?_
          refine pe_get hx hb hts hin0 hin2 hin4 hin5 hin6 hown hK hP (17 + (x.toInt.toNat)) (hpk _ (by omega)) (xw_p (by omega)) 2 (by decide) hW2 dX7_about_54 ?_
          refine lv_iconst (v := (-1)) hx hb dX7_about_57 (by decide +kernel) ?_
          refine lv_icmp_ne (tgt := 65) hx hb dX7_about_58 (by decide) (fun c_13 => ?_) (fun c_13 => ?_)
          · skip
            refine lv_aload_n hx hb dX7_about_65 rfl (lv_at hl 0 rfl) ?_
            refine pe_get hx hb hts hin0 hin2 hin4 hin5 hin6 hown hK hP (17 + (x.toInt.toNat)) (hpk _ (by omega)) (xw_p (by omega)) 2 (by decide) hW2 dX7_about_66 ?_
            refine lv_iload_n hx hb dX7_about_69 rfl (lv_at hl 3 rfl) ?_
            refine tq (ix_int (by omega)) ?_
            refine lv_bipush (v := nI (20)) hx hb dX7_about_70 (by decide +kernel) ?_
            refine lv_isub hx hb dX7_about_72 ?_
            refine tq (pk_sub (a := y.toInt.toNat) (b := 20) (by omega)) ?_
            refine vp_callSi (va_Run.run (va_runS (As := [.int (pv (x.toInt.toNat) 2), .int (nI ((y.toInt.toNat) - 20))]) (rest := []) ⟨hx, hb, hml, hown, hts⟩ (c7_hueAt l (pv (x.toInt.toNat) 2) ((y.toInt.toNat) - 20)) (va_cwS 2 hts gX7_about_X7_hueAt rfl rfl rfl (by decide +kernel) ⟨Nat.le_of_ble_eq_true rfl, Nat.le_of_ble_eq_true rfl⟩) ⟨fun _ _ _ _ q => q, fun U hU hW => ⟨rfl, trivial⟩⟩ rfl rfl hl.1 rfl (lv_room (Nat.le_of_ble_eq_true rfl)) dX7_about_73 ⟨Nat.le_of_ble_eq_true rfl, Nat.le_of_ble_eq_true rfl⟩)) (fun r hrc => ?_)
            have hrc : r = xHa (pv (x.toInt.toNat) 2) ((y.toInt.toNat) - 20) := hrc
            subst hrc
            exact W.iret (v := xHa (pv (x.toInt.toNat) 2) ((y.toInt.toNat) - 20)) hx hb hr (fun t ht hW => ⟨xHa (pv (x.toInt.toNat) 2) ((y.toInt.toNat) - 20), rfl, (by show xHa (pv (x.toInt.toNat) 2) ((y.toInt.toNat) - 20) = xAbout f n pk pv x y; rw [xAbout, if_pos h_1, xAb, if_neg (by omega), if_pos ⟨by omega, by omega⟩, if_neg c_13]), ht⟩) (fun _ h => by cases h) dX7_about_76
          · skip
            refine lv_iconst (v := (-1)) hx hb dX7_about_61 (by decide +kernel) ?_
            refine lv_goto (tgt := 76) hx hb dX7_about_62 (by decide) ?_
            exact W.iret (v := (-1)) hx hb hr (fun t ht hW => ⟨(-1), rfl, (by show (-1) = xAbout f n pk pv x y; rw [xAbout, if_pos h_1, xAb, if_neg (by omega), if_pos ⟨by omega, by omega⟩, if_pos c_13]), ht⟩) (fun _ h => by cases h) dX7_about_76
    · skip
      rw [lti, tn (n := 10) (by omega)] at c_2
      refine lv_iload_n hx hb dX7_about_19 rfl (lv_at hl 3 rfl) ?_
      refine lv_bipush (v := nI (16)) hx hb dX7_about_20 (by decide +kernel) ?_
      refine lv_icmp_ge (tgt := 41) hx hb dX7_about_22 (by decide) (fun c_14 => ?_) (fun c_14 => ?_)
      · skip
        rw [lei, tn (n := 16) (by omega)] at c_14
        refine lv_iload_n hx hb dX7_about_41 rfl (lv_at hl 3 rfl) ?_
        refine lv_bipush (v := nI (20)) hx hb dX7_about_42 (by decide +kernel) ?_
        refine lv_icmp_lt (tgt := 77) hx hb dX7_about_44 (by decide) (fun c_15 => ?_) (fun c_15 => ?_)
        · skip
          rw [lti, tn (n := 20) (by omega)] at c_15
          refine lv_iload_n hx hb dX7_about_77 rfl (lv_at hl 3 rfl) ?_
          by_cases c_16 : (y).toInt = 0
          · skip
            refine lv_tableIn (tgt := 108) hx hb dX7_about_78 (by omega) (by omega) (by rw [c_16]; rfl) (by decide) ?_
            refine lv_aload_n hx hb dX7_about_108 rfl (lv_at hl 0 rfl) ?_
            refine cg_kind ⟨hx, hb, hml, hown, hts⟩ hts gX7_about_X0_kind_u123X0 gX7_about_X2_kind_u123X2 gX7_about_X4_kind gX7_about_X5_kind_u123X5 gX7_about_X6_kind_u123X6 hK hP (17 + (x.toInt.toNat)) (hpk _ (by omega)) (xw_p (by omega)) hl.1 (Nat.le_of_ble_eq_true rfl) ⟨Nat.le_of_ble_eq_true rfl, Nat.le_of_ble_eq_true rfl⟩ ⟨Nat.le_of_ble_eq_true rfl, Nat.le_of_ble_eq_true rfl⟩ dX7_about_109 ?_
            exact W.iret (v := nI (pk (x.toInt.toNat))) hx hb hr (fun t ht hW => ⟨nI (pk (x.toInt.toNat)), rfl, (by show nI (pk (x.toInt.toNat)) = xAbout f n pk pv x y; rw [xAbout, if_pos h_1, xAb, if_neg (by omega), if_neg (by omega), xAb3, if_pos c_16]), ht⟩) (fun _ h => by cases h) dX7_about_112
          · skip
            by_cases c_17 : (y).toInt = 1
            · skip
              refine lv_tableIn (tgt := 113) hx hb dX7_about_78 (by omega) (by omega) (by rw [c_17]; rfl) (by decide) ?_
              refine lv_aload_n hx hb dX7_about_113 rfl (lv_at hl 0 rfl) ?_
              refine pe_get hx hb hts hin0 hin2 hin4 hin5 hin6 hown hK hP (17 + (x.toInt.toNat)) (hpk _ (by omega)) (xw_p (by omega)) 0 (by decide) hW0 dX7_about_114 ?_
              exact W.iret (v := pv (x.toInt.toNat) 0) hx hb hr (fun t ht hW => ⟨pv (x.toInt.toNat) 0, rfl, (by show pv (x.toInt.toNat) 0 = xAbout f n pk pv x y; rw [xAbout, if_pos h_1, xAb, if_neg (by omega), if_neg (by omega), xAb3, if_neg c_16, if_pos c_17]), ht⟩) (fun _ h => by cases h) dX7_about_117
            · skip
              by_cases c_18 : (y).toInt = 2
              · skip
                refine lv_tableIn (tgt := 118) hx hb dX7_about_78 (by omega) (by omega) (by rw [c_18]; rfl) (by decide) ?_
                refine lv_aload_n hx hb dX7_about_118 rfl (lv_at hl 0 rfl) ?_
                refine pe_get hx hb hts hin0 hin2 hin4 hin5 hin6 hown hK hP (17 + (x.toInt.toNat)) (hpk _ (by omega)) (xw_p (by omega)) 1 (by decide) hW1 dX7_about_119 ?_
                exact W.iret (v := pv (x.toInt.toNat) 1) hx hb hr (fun t ht hW => ⟨pv (x.toInt.toNat) 1, rfl, (by show pv (x.toInt.toNat) 1 = xAbout f n pk pv x y; rw [xAbout, if_pos h_1, xAb, if_neg (by omega), if_neg (by omega), xAb3, if_neg c_16, if_neg c_17, if_pos c_18]), ht⟩) (fun _ h => by cases h) dX7_about_122
              · skip
                by_cases c_19 : (y).toInt = 3
                · skip
                  refine lv_tableIn (tgt := 123) hx hb dX7_about_78 (by omega) (by omega) (by rw [c_19]; rfl) (by decide) ?_
                  refine lv_aload_n hx hb dX7_about_123 rfl (lv_at hl 0 rfl) ?_
                  refine cf_truths ⟨hx, hb, hml, hown, hts⟩ hts gX7_about_X4_truths_u126X0 gX7_about_X4_truths_u126X2 gX7_about_X4_truths gX7_about_X4_truths_u126X5 gX7_about_X4_truths_u126X6 hK hP (17 + (x.toInt.toNat)) (hpk _ (by omega)) (xw_p (by omega)) hl.1 (Nat.le_of_ble_eq_true rfl) ⟨Nat.le_of_ble_eq_true rfl, Nat.le_of_ble_eq_true rfl⟩ ⟨Nat.le_of_ble_eq_true rfl, Nat.le_of_ble_eq_true rfl⟩ dX7_about_124 ?_
                  exact W.iret (v := xTrue (pk (x.toInt.toNat)) (pv (x.toInt.toNat) 0) (pv (x.toInt.toNat) 1) 8) hx hb hr (fun t ht hW => ⟨xTrue (pk (x.toInt.toNat)) (pv (x.toInt.toNat) 0) (pv (x.toInt.toNat) 1) 8, rfl, (by show xTrue (pk (x.toInt.toNat)) (pv (x.toInt.toNat) 0) (pv (x.toInt.toNat) 1) 8 = xAbout f n pk pv x y; rw [xAbout, if_pos h_1, xAb, if_neg (by omega), if_neg (by omega), xAb3, if_neg c_16, if_neg c_17, if_neg c_18, if_pos c_19]), ht⟩) (fun _ h => by cases h) dX7_about_127
                · skip
                  refine lv_tableOut (tgt := 128) hx hb dX7_about_78 (by omega) (by decide) ?_
                  refine lv_bipush (v := (-102)) hx hb dX7_about_128 (by decide +kernel) ?_
                  exact W.iret (v := (-102)) hx hb hr (fun t ht hW => ⟨(-102), rfl, (by show (-102) = xAbout f n pk pv x y; rw [xAbout, if_pos h_1, xAb, if_neg (by omega), if_neg (by omega), xAb3, if_neg c_16, if_neg c_17, if_neg c_18, if_neg c_19]), ht⟩) (fun _ h => by cases h) dX7_about_130
        · skip
          rw [lti, tn (n := 20) (by omega)] at c_15
          refine lv_iload_n hx hb dX7_about_47 rfl (lv_at hl 3 rfl) ?_
          refine lv_bipush (v := nI (26)) hx hb dX7_about_48 (by decide +kernel) ?_
          refine lv_icmp_ge (tgt := 77) hx hb dX7_about_50 (by decide) (fun c_20 => ?_) (fun c_20 => ?_)
          · skip
            rw [lei, tn (n := 26) (by omega)] at c_20
            refine lv_iload_n hx hb dX7_about_77 rfl (lv_at hl 3 rfl) ?_
            by_cases c_21 : (y).toInt = 0
            · skip
              refine lv_tableIn (tgt := 108) hx hb dX7_about_78 (by omega) (by omega) (by rw [c_21]; rfl) (by decide) ?_
              refine lv_aload_n hx hb dX7_about_108 rfl (lv_at hl 0 rfl) ?_
              refine cg_kind ⟨hx, hb, hml, hown, hts⟩ hts gX7_about_X0_kind_u123X0 gX7_about_X2_kind_u123X2 gX7_about_X4_kind gX7_about_X5_kind_u123X5 gX7_about_X6_kind_u123X6 hK hP (17 + (x.toInt.toNat)) (hpk _ (by omega)) (xw_p (by omega)) hl.1 (Nat.le_of_ble_eq_true rfl) ⟨Nat.le_of_ble_eq_true rfl, Nat.le_of_ble_eq_true rfl⟩ ⟨Nat.le_of_ble_eq_true rfl, Nat.le_of_ble_eq_true rfl⟩ dX7_about_109 ?_
              exact W.iret (v := nI (pk (x.toInt.toNat))) hx hb hr (fun t ht hW => ⟨nI (pk (x.toInt.toNat)), rfl, (by show nI (pk (x.toInt.toNat)) = xAbout f n pk pv x y; rw [xAbout, if_pos h_1, xAb, if_neg (by omega), if_neg (by omega), xAb3, if_pos c_21]), ht⟩) (fun _ h => by cases h) dX7_about_112
            · skip
              by_cases c_22 : (y).toInt = 1
              · skip
                refine lv_tableIn (tgt := 113) hx hb dX7_about_78 (by omega) (by omega) (by rw [c_22]; rfl) (by decide) ?_
                refine lv_aload_n hx hb dX7_about_113 rfl (lv_at hl 0 rfl) ?_
                refine pe_get hx hb hts hin0 hin2 hin4 hin5 hin6 hown hK hP (17 + (x.toInt.toNat)) (hpk _ (by omega)) (xw_p (by omega)) 0 (by decide) hW0 dX7_about_114 ?_
                exact W.iret (v := pv (x.toInt.toNat) 0) hx hb hr (fun t ht hW => ⟨pv (x.toInt.toNat) 0, rfl, (by show pv (x.toInt.toNat) 0 = xAbout f n pk pv x y; rw [xAbout, if_pos h_1, xAb, if_neg (by omega), if_neg (by omega), xAb3, if_neg c_21, if_pos c_22]), ht⟩) (fun _ h => by cases h) dX7_about_117
              · skip
                by_cases c_23 : (y).toInt = 2
                · skip
                  refine lv_tableIn (tgt := 118) hx hb dX7_about_78 (by omega) (by omega) (by rw [c_23]; rfl) (by decide) ?_
                  refine lv_aload_n hx hb dX7_about_118 rfl (lv_at hl 0 rfl) ?_
                  refine pe_get hx hb hts hin0 hin2 hin4 hin5 hin6 hown hK hP (17 + (x.toInt.toNat)) (hpk _ (by omega)) (xw_p (by omega)) 1 (by decide) hW1 dX7_about_119 ?_
                  exact W.iret (v := pv (x.toInt.toNat) 1) hx hb hr (fun t ht hW => ⟨pv (x.toInt.toNat) 1, rfl, (by show pv (x.toInt.toNat) 1 = xAbout f n pk pv x y; rw [xAbout, if_pos h_1, xAb, if_neg (by omega), if_neg (by omega), xAb3, if_neg c_21, if_neg c_22, if_pos c_23]), ht⟩) (fun _ h => by cases h) dX7_about_122
                · skip
                  by_cases c_24 : (y).toInt = 3
                  · skip
                    refine lv_tableIn (tgt := 123) hx hb dX7_about_78 (by omega) (by omega) (by rw [c_24]; rfl) (by decide) ?_
                    refine lv_aload_n hx hb dX7_about_123 rfl (lv_at hl 0 rfl) ?_
                    refine cf_truths ⟨hx, hb, hml, hown, hts⟩ hts gX7_about_X4_truths_u126X0 gX7_about_X4_truths_u126X2 gX7_about_X4_truths gX7_about_X4_truths_u126X5 gX7_about_X4_truths_u126X6 hK hP (17 + (x.toInt.toNat)) (hpk _ (by omega)) (xw_p (by omega)) hl.1 (Nat.le_of_ble_eq_true rfl) ⟨Nat.le_of_ble_eq_true rfl, Nat.le_of_ble_eq_true rfl⟩ ⟨Nat.le_of_ble_eq_true rfl, Nat.le_of_ble_eq_true rfl⟩ dX7_about_124 ?_
                    exact W.iret (v := xTrue (pk (x.toInt.toNat)) (pv (x.toInt.toNat) 0) (pv (x.toInt.toNat) 1) 8) hx hb hr (fun t ht hW => ⟨xTrue (pk (x.toInt.toNat)) (pv (x.toInt.toNat) 0) (pv (x.toInt.toNat) 1) 8, rfl, (by show xTrue (pk (x.toInt.toNat)) (pv (x.toInt.toNat) 0) (pv (x.toInt.toNat) 1) 8 = xAbout f n pk pv x y; rw [xAbout, if_pos h_1, xAb, if_neg (by omega), if_neg (by omega), xAb3, if_neg c_21, if_neg c_22, if_neg c_23, if_pos c_24]), ht⟩) (fun _ h => by cases h) dX7_about_127
                  · skip
                    refine lv_tableOut (tgt := 128) hx hb dX7_about_78 (by omega) (by decide) ?_
                    refine lv_bipush (v := (-102)) hx hb dX7_about_128 (by decide +kernel) ?_
                    exact W.iret (v := (-102)) hx hb hr (fun t ht hW => ⟨(-102), rfl, (by show (-102) = xAbout f n pk pv x y; rw [xAbout, if_pos h_1, xAb, if_neg (by omega), if_neg (by omega), xAb3, if_neg c_21, if_neg c_22, if_neg c_23, if_neg c_24]), ht⟩) (fun _ h => by cases h) dX7_about_130
          · skip
            rw [lei, tn (n := 26) (by omega)] at c_20
            refine lv_aload_n hx hb dX7_about_53 rfl (lv_at hl 0 rfl) ?_
            refine pe_get hx hb hts hin0 hin2 hin4 hin5 hin6 hown hK hP (17 + (x.toInt.toNat)) (hpk _ (by omega)) (xw_p (by omega)) 2 (by decide) hW2 dX7_about_54 ?_
            refine lv_iconst (v := (-1)) hx hb dX7_about_57 (by decide +kernel) ?_
            refine lv_icmp_ne (tgt := 65) hx hb dX7_about_58 (by decide) (fun c_25 => ?_) (fun c_25 => ?_)
            · skip
              refine lv_aload_n hx hb dX7_about_65 rfl (lv_at hl 0 rfl) ?_
              refine pe_get hx hb hts hin0 hin2 hin4 hin5 hin6 hown hK hP (17 + (x.toInt.toNat)) (hpk _ (by omega)) (xw_p (by omega)) 2 (by decide) hW2 dX7_about_66 ?_
              refine lv_iload_n hx hb dX7_about_69 rfl (lv_at hl 3 rfl) ?_
              refine tq (ix_int (by omega)) ?_
              refine lv_bipush (v := nI (20)) hx hb dX7_about_70 (by decide +kernel) ?_
              refine lv_isub hx hb dX7_about_72 ?_
              refine tq (pk_sub (a := y.toInt.toNat) (b := 20) (by omega)) ?_
              refine vp_callSi (va_Run.run (va_runS (As := [.int (pv (x.toInt.toNat) 2), .int (nI ((y.toInt.toNat) - 20))]) (rest := []) ⟨hx, hb, hml, hown, hts⟩ (c7_hueAt l (pv (x.toInt.toNat) 2) ((y.toInt.toNat) - 20)) (va_cwS 2 hts gX7_about_X7_hueAt rfl rfl rfl (by decide +kernel) ⟨Nat.le_of_ble_eq_true rfl, Nat.le_of_ble_eq_true rfl⟩) ⟨fun _ _ _ _ q => q, fun U hU hW => ⟨rfl, trivial⟩⟩ rfl rfl hl.1 rfl (lv_room (Nat.le_of_ble_eq_true rfl)) dX7_about_73 ⟨Nat.le_of_ble_eq_true rfl, Nat.le_of_ble_eq_true rfl⟩)) (fun r hrc => ?_)
              have hrc : r = xHa (pv (x.toInt.toNat) 2) ((y.toInt.toNat) - 20) := hrc
              subst hrc
              exact W.iret (v := xHa (pv (x.toInt.toNat) 2) ((y.toInt.toNat) - 20)) hx hb hr (fun t ht hW => ⟨xHa (pv (x.toInt.toNat) 2) ((y.toInt.toNat) - 20), rfl, (by show xHa (pv (x.toInt.toNat) 2) ((y.toInt.toNat) - 20) = xAbout f n pk pv x y; rw [xAbout, if_pos h_1, xAb, if_neg (by omega), if_pos ⟨by omega, by omega⟩, if_neg c_25]), ht⟩) (fun _ h => by cases h) dX7_about_76
            · skip
              refine lv_iconst (v := (-1)) hx hb dX7_about_61 (by decide +kernel) ?_
              refine lv_goto (tgt := 76) hx hb dX7_about_62 (by decide) ?_
              exact W.iret (v := (-1)) hx hb hr (fun t ht hW => ⟨(-1), rfl, (by show (-1) = xAbout f n pk pv x y; rw [xAbout, if_pos h_1, xAb, if_neg (by omega), if_pos ⟨by omega, by omega⟩, if_pos c_25]), ht⟩) (fun _ h => by cases h) dX7_about_76
      · skip
        rw [lei, tn (n := 16) (by omega)] at c_14
        refine lv_aload_n hx hb dX7_about_25 rfl (lv_at hl 0 rfl) ?_
        refine lv_aload_n hx hb dX7_about_26 rfl (lv_at hl 1 rfl) ?_
        refine va_get (D := (dC, dI)) (ci := 7) (v := .int (f 6)) (C := RX7) (T := TX7) (N := 16) hx hb hts hin7 hown hK hP 0 rfl rfl 6 (by decide) hW3 (fun _ h9 => h9) rfl dX7_about_27 ?_
        refine lv_iload_n hx hb dX7_about_30 rfl (lv_at hl 3 rfl) ?_
        refine tq (ix_int (by omega)) ?_
        refine lv_bipush (v := nI (10)) hx hb dX7_about_31 (by decide +kernel) ?_
        refine lv_isub hx hb dX7_about_33 ?_
        refine tq (pk_sub (a := y.toInt.toNat) (b := 10) (by omega)) ?_
        refine vp_callSi (va_Run.run (va_runS (As := [.int (f 6), .int (nI ((y.toInt.toNat) - 10))]) (rest := [.ref (pd (x.toInt.toNat))]) ⟨hx, hb, hml, hown, hts⟩ (c7_hueAt l (f 6) ((y.toInt.toNat) - 10)) (va_cwS 2 hts gX7_about_X7_hueAt rfl rfl rfl (by decide +kernel) ⟨Nat.le_of_ble_eq_true rfl, Nat.le_of_ble_eq_true rfl⟩) ⟨fun _ _ _ _ q => q, fun U hU hW => ⟨rfl, trivial⟩⟩ rfl rfl hl.1 rfl (lv_room (Nat.le_of_ble_eq_true rfl)) dX7_about_34 ⟨Nat.le_of_ble_eq_true rfl, Nat.le_of_ble_eq_true rfl⟩)) (fun r hrc => ?_)
        have hrc : r = xHa (f 6) ((y.toInt.toNat) - 10) := hrc
        subst hrc
        refine cg_glimpse ⟨hx, hb, hml, hown, hts⟩ hts gX7_about_X0_glimpse_u116X0 gX7_about_X2_glimpse_u116X2 gX7_about_X4_glimpse gX7_about_X5_glimpse_u116X5 gX7_about_X6_glimpse_u116X6 hK hP (17 + (x.toInt.toNat)) (hpk _ (by omega)) (xw_p (by omega)) hl.1 (Nat.le_of_ble_eq_true rfl) ⟨Nat.le_of_ble_eq_true rfl, Nat.le_of_ble_eq_true rfl⟩ ⟨Nat.le_of_ble_eq_true rfl, Nat.le_of_ble_eq_true rfl⟩ dX7_about_37 ?_
        exact W.iret (v := see (nI (pk (x.toInt.toNat))) (pv (x.toInt.toNat) 0) (pv (x.toInt.toNat) 1) (xHa (f 6) ((y.toInt.toNat) - 10))) hx hb hr (fun t ht hW => ⟨see (nI (pk (x.toInt.toNat))) (pv (x.toInt.toNat) 0) (pv (x.toInt.toNat) 1) (xHa (f 6) ((y.toInt.toNat) - 10)), rfl, (by show see (nI (pk (x.toInt.toNat))) (pv (x.toInt.toNat) 0) (pv (x.toInt.toNat) 1) (xHa (f 6) ((y.toInt.toNat) - 10)) = xAbout f n pk pv x y; rw [xAbout, if_pos h_1, xAb, if_pos ⟨by omega, by omega⟩]; rfl), ht⟩) (fun _ h => by cases h) dX7_about_40
  · skip
    refine rf_n (xKn_n h_1) ?_
    refine lv_astore_nN (lv' := [(3, .null), (0, .ref (a)), (1, .int (x)), (2, .int (y))]) hx hb dX7_about_5 rfl hl (by decide) rfl (fun ls hl => ?_)
    refine lv_aload_nN hx hb dX7_about_6 rfl (lv_at hl 0 rfl) ?_
    refine lv_ifnonnullN hx hb dX7_about_7 ?_
    refine lv_bipush (v := (-101)) hx hb dX7_about_10 (by decide +kernel) ?_
    exact W.iret (v := (-101)) hx hb hr (fun t ht hW => ⟨(-101), rfl, (by show (-101) = xAbout f n pk pv x y; rw [xAbout, if_neg h_1]), ht⟩) (fun _ h => by cases h) dX7_about_12

set_option maxHeartbeats 1200000 in
set_option maxRecDepth 100000 in
theorem c7_layer (l : Launch) (dC : Nat → ClassId) (dI : Nat → Nat → Nat) (cI cP : ClassId) (a : Nat) (o : Nat → Nat) (f : Nat → Int32) (g : Nat → Nat → Int32) (pa : Nat → Option Nat) (tv : Nat → Nat → Int32) (n : Nat) (pd pk : Nat → Nat) (pv : Nat → Nat → Int32) (sz : Nat) {k8 : Nat} (e8 : f 8 = nI k8) (b8 : k8 ≤ 5) (x : Int32) (y : Int32) : Met l yX7_layer wsX7_layer ({ frames := 1, cells := 0, slots := 0, locals := 23 } : Room) (va_Pc [.ref (a), .int (x), .int (y)] (fun U => U.heap.size = sz ∧ va_P (dC, dI) vwCl (xW cI cP a o f g pa tv n pd pk pv) U.heap ∧ va_K (dC, dI) vwCl [(cI, .int), (cP, .object RX4)] U ∧ xN U ∧ va_D (fun _ => True) (xW cI cP a o f g pa tv n pd pk pv))) (va_Qi (fun (r : Int32) (u : XSt) => (r, u) = xp3 (xLayer f g k8 x y) pa tv n pd pk pv) (xB dC dI cI cP a o (va_A (xW cI cP a o f g pa tv n pd pk pv) sz)) (va_A (xW cI cP a o f g pa tv n pd pk pv) sz)) 0 0 (va_A (xW cI cP a o f g pa tv n pd pk pv) sz) := by
  refine Met.ofW (cc := cX7_layer) (maxL := 7) (ret := (some .int)) (by decide) rfl ?_
  intro p_ e_ s m args below meth c_0 s₁ B hml hv
  obtain ⟨rfl, hsz, hP, hK, hN, hD0⟩ := hv
  have hx := B.exec
  have hb := B.bytes
  have hr := B.returns
  have hts := atoms_spec (ws := wsX7_layer) B.pre
  have hown : s.vm.findClass RX7 = some m.cls := findClass_of_methodNamed B.named
  have hlocks := B.notSynchronized
  subst hsz
  have hD := hD0.self (sz := s.heap.size)
  generalize hAe : va_A (xW cI cP a o f g pa tv n pd pk pv) s.heap.size = A at hD ⊢
  have hA : ∀ q : Nat, s.heap.size ≤ q → A q := fun q h => by rw [← hAe]; exact Or.inr h
  obtain ⟨H, hHe⟩ : ∃ H : Heap, H = s.heap := ⟨_, rfl⟩
  have hS : va_S A s.heap H [] := by rw [hHe]; exact va_S.rf
  rw [← hHe] at hP ⊢
  have hP : va_P (dC, dI) vwCl (xW cI cP a o f g pa tv n pd pk pv) H := hP
  have hl := lv_entry ([.ref (a), .int (x), .int (y)]) (n := 7) (Nat.le_of_ble_eq_true rfl)
  rw [lg_entry_eq]
  generalize (lg_sl ([.ref (a), .int (x), .int (y)]) ++ List.replicate (7 - (lg_sl ([.ref (a), .int (x), .int (y)])).length) Slot.unset).toArray = ls at hl ⊢
  have hl : lv_has ls 7 [(0, .ref (a)), (1, .int (x)), (2, .int (y))] := hl
  have hin7 : ∀ w ∈ wsX70, w ∈ wsX7_layer := fun _ h => List.mem_cons_of_mem _ (List.mem_append_right _ h)
  have hW0 := hts (.fieldLink RX7 73 "EachEye" "layersDone" "I") (by decide +kernel)
  have hW1 := hts (.fieldLink RX7 39 "EachEye" "theSign" "I") (by decide +kernel)
  have hW2 := hts (.fieldLink RX7 22 "EachEye" "inks" "[I") (by decide +kernel)
  refine lv_aload_n hx hb dX7_layer_0 rfl (lv_at hl 0 rfl) ?_
  refine lv_iload_n hx hb dX7_layer_1 rfl (lv_at hl 1 rfl) ?_
  refine vp_callSi (va_Run.run (va_runV (As := [.int (x)]) (rest := []) ⟨hx, hb, hml, hown, hts⟩ (c7_isInk l dC dI cI cP a o f g pa tv n pd pk pv e8 (by omega) (x) ) (cwV 1 hts gX7_layer_X7_isInk rfl rfl rfl (by decide +kernel) ⟨Nat.le_of_ble_eq_true rfl, Nat.le_of_ble_eq_true rfl⟩) ⟨fun a U g mk q => ⟨q.1, q.2.1, va_K.moved (u := U) (U := U.calling g mk a) (Vm.Alike.refl U.vm) q.2.2.1, xN.same (u := U) (U := U.calling g mk a) rfl q.2.2.2⟩, va_recv hK hP (ci := 7) (q0 := 0) rfl rfl, fun U hU hW => ⟨rfl, by rw [hU]; exact hP, va_K.moved hW.alike hK, xN.warm hW hN⟩⟩ rfl rfl hl.1 rfl (lv_room (Nat.le_of_ble_eq_true rfl)) dX7_layer_2 ⟨Nat.le_of_ble_eq_true rfl, Nat.le_of_ble_eq_true rfl⟩)) (fun r hrc => ?_)
  have hrc : r = b2i (0 ≤ (x).toInt ∧ (x).toInt < (k8 : Int)) := hrc
  subst hrc
  refine lv_if_ne (tgt := 11) hx hb dX7_layer_5 (by decide) (fun c_1 => ?_) (fun c_1 => ?_)
  · skip
    have c_1 := b2i_1 c_1
    refine lv_iload_n hx hb dX7_layer_11 rfl (lv_at hl 2 rfl) ?_
    refine lv_if_lt (tgt := 21) hx hb dX7_layer_12 (by decide) (fun c_2 => ?_) (fun c_2 => ?_)
    · skip
      rw [lti, show (0 : Int32).toInt = 0 from rfl] at c_2
      refine lv_bipush (v := (-102)) hx hb dX7_layer_21 (by decide +kernel) ?_
      have hP9 : va_P (dC, dI) vwCl (xW cI cP a o f g pa tv n pd pk pv) H := hP
      exact W.iret (v := (-102)) hx hb hr (fun t ht hW => ⟨⟨(-102), (f, g, pa, tv, n, pd, pk, pv), rfl, (by show (((-102), (f, g, pa, tv, n, pd, pk, pv)) : _ × XSt) = xp3 (xLayer f g k8 x y) pa tv n pd pk pv; first | (simp only [xp3, xLayer, xOk, if_pos c_1, if_pos c_2]; done) | (simp only [xp3, xLayer, xOk, if_pos c_1, if_pos c_2]; rfl) | rfl | (simp [xp3, xLayer, xOk, if_pos c_1, if_pos c_2]; done)), by rw [ht]; exact hP9, va_K.moved hW.alike hK, hD⟩, hS.F ht⟩) hS.2.2 dX7_layer_23
    · skip
      rw [lti, show (0 : Int32).toInt = 0 from rfl] at c_2
      refine lv_iload_n hx hb dX7_layer_15 rfl (lv_at hl 2 rfl) ?_
      refine lv_bipush (v := nI (64)) hx hb dX7_layer_16 (by decide +kernel) ?_
      refine lv_icmp_lt (tgt := 24) hx hb dX7_layer_18 (by decide) (fun c_3 => ?_) (fun c_3 => ?_)
      · skip
        rw [lti, tn (n := 64) (by omega)] at c_3
        refine lv_iconst (v := nI (0)) hx hb dX7_layer_24 (by decide +kernel) ?_
        refine lv_istore_n (lv' := [(3, .int (nI (0))), (0, .ref (a)), (1, .int (x)), (2, .int (y))]) hx hb dX7_layer_25 rfl hl (by decide) rfl (fun ls hl => ?_)
        refine lv_iconst (v := nI (0)) hx hb dX7_layer_26 (by decide +kernel) ?_
        refine lv_istore (lv' := [(4, .int (nI (0))), (3, .int (nI (0))), (0, .ref (a)), (1, .int (x)), (2, .int (y))]) hx hb dX7_layer_27 hl (by decide) rfl (fun ls hl => ?_)
        have e0_3 : (nI (0)) = xLyN (g 1 (x.toInt.toNat)) y (f 6) 0 := rfl
        have hP0 : va_P (dC, dI) vwCl (xW cI cP a o (su f 6 (xLyT (g 1 (x.toInt.toNat)) y (f 6) 0)) g pa tv n pd pk pv) H := by rw [show su f 6 (xLyT (g 1 (x.toInt.toNat)) y (f 6) 0) = f from su_id f 6]; exact hP
        have hD0 : va_D A (xW cI cP a o (su f 6 (xLyT (g 1 (x.toInt.toNat)) y (f 6) 0)) g pa tv n pd pk pv) := by rw [show su f 6 (xLyT (g 1 (x.toInt.toNat)) y (f 6) 0) = f from su_id f 6]; exact hD
        refine lp_rw (fun j : Nat => 6 - j) (fun j : Nat => j ≤ 6) (fun j : Nat => [(0, .ref (a)), (1, .int (x)), (2, .int (y)), (3, .int (xLyN (g 1 (x.toInt.toNat)) y (f 6) j)), (4, .int (nI (j)))]) (fun j : Nat => xW cI cP a o (su f 6 (xLyT (g 1 (x.toInt.toNat)) y (f 6) j)) g pa tv n pd pk pv) (0) (by omega) hP0 hD0 hS (by show lv_has ls 7 [(0, .ref (a)), (1, .int (x)), (2, .int (y)), (3, .int (xLyN (g 1 (x.toInt.toNat)) y (f 6) 0)), (4, .int (nI (0)))]; rw [← e0_3]; exact lv_sub hl [2, 3, 4, 1, 0] rfl) (fun j hI ih_29 H locs ls hP hD hS hl => ?_)
        have hP : va_P (dC, dI) vwCl (xW cI cP a o (su f 6 (xLyT (g 1 (x.toInt.toNat)) y (f 6) j)) g pa tv n pd pk pv) H := hP
        have hD : va_D A (xW cI cP a o (su f 6 (xLyT (g 1 (x.toInt.toNat)) y (f 6) j)) g pa tv n pd pk pv) := hD
        have hI : j ≤ 6 := hI
        have hl : lv_has ls 7 [(0, .ref (a)), (1, .int (x)), (2, .int (y)), (3, .int (xLyN (g 1 (x.toInt.toNat)) y (f 6) j)), (4, .int (nI (j)))] := hl
        refine lv_iload hx hb dX7_layer_29 (lv_at hl 4 rfl) ?_
        refine lv_bipush (v := nI (6)) hx hb dX7_layer_31 (by decide +kernel) ?_
        refine lv_icmp_ge (tgt := 98) hx hb dX7_layer_33 (by decide) (fun c_4 => ?_) (fun c_4 => ?_)
        · skip
          rw [nI_leI (a := 6) (b := j) (by omega) (by omega)] at c_4
          have hE : 6 = j := by omega
          subst hE
          refine lv_aload_n hx hb dX7_layer_98 rfl (lv_at hl 0 rfl) ?_
          refine lv_dup hx hb dX7_layer_99 rfl ?_
          refine va_get (D := (dC, dI)) (ci := 7) (v := .int (f 9)) (C := RX7) (T := TX7) (N := 16) hx hb hts hin7 hown hK hP 0 rfl rfl 9 (by decide) hW0 (fun _ h9 => h9) rfl dX7_layer_100 ?_
          refine lv_iconst (v := nI (1)) hx hb dX7_layer_103 (by decide +kernel) ?_
          refine lv_iadd hx hb dX7_layer_104 ?_
          refine va_put (D := (dC, dI)) (ci := 7) (v := .int ((f 9) + (nI (1)))) (ty := .int) (C := RX7) (T := TX7) (N := 16) hx hb hts hin7 tyX7 tyX7_ok nmX7 hown hK hP hD hS 0 rfl rfl 9 (by decide) hW0 (fun _ h9 => h9) rfl (by decide +kernel) rfl rfl (Nat.le_of_ble_eq_true rfl) dX7_layer_105 (fun H locs hP hD hS => ?_)
          have hP : va_P (dC, dI) vwCl (xW cI cP a o (su (su f 6 (xLyT (g 1 (x.toInt.toNat)) y (f 6) 6)) 9 ((f 9) + (nI (1)))) g pa tv n pd pk pv) H := hP
          have hD : va_D A (xW cI cP a o (su (su f 6 (xLyT (g 1 (x.toInt.toNat)) y (f 6) 6)) 9 ((f 9) + (nI (1)))) g pa tv n pd pk pv) := hD
          refine lv_iload_n hx hb dX7_layer_108 rfl (lv_at hl 3 rfl) ?_
          have hP9 : va_P (dC, dI) vwCl (xW cI cP a o (su (su f 6 (xLyT (g 1 (x.toInt.toNat)) y (f 6) 6)) 9 ((f 9) + (nI (1)))) g pa tv n pd pk pv) H := hP
          exact W.iret (v := xLyN (g 1 (x.toInt.toNat)) y (f 6) 6) hx hb hr (fun t ht hW => ⟨⟨xLyN (g 1 (x.toInt.toNat)) y (f 6) 6, (su (su f 6 (xLyT (g 1 (x.toInt.toNat)) y (f 6) 6)) 9 ((f 9) + (nI (1))), g, pa, tv, n, pd, pk, pv), rfl, (by show ((xLyN (g 1 (x.toInt.toNat)) y (f 6) 6, (su (su f 6 (xLyT (g 1 (x.toInt.toNat)) y (f 6) 6)) 9 ((f 9) + (nI (1))), g, pa, tv, n, pd, pk, pv)) : _ × XSt) = xp3 (xLayer f g k8 x y) pa tv n pd pk pv; first | (simp only [xp3, xLayer, xOk, if_pos c_1, if_neg c_2, if_pos c_3, if_pos c_4]; done) | (simp only [xp3, xLayer, xOk, if_pos c_1, if_neg c_2, if_pos c_3, if_pos c_4]; rfl) | rfl | (simp [xp3, xLayer, xOk, if_pos c_1, if_neg c_2, if_pos c_3, if_pos c_4]; done)), by rw [ht]; exact hP9, va_K.moved hW.alike hK, hD⟩, hS.F ht⟩) hS.2.2 dX7_layer_109
        · skip
          rw [nI_leI (a := 6) (b := j) (by omega) (by omega)] at c_4
          refine lv_aload_n hx hb dX7_layer_36 rfl (lv_at hl 0 rfl) ?_
          refine va_get (D := (dC, dI)) (ci := 7) (v := .int (xLyT (g 1 (x.toInt.toNat)) y (f 6) j)) (C := RX7) (T := TX7) (N := 16) hx hb hts hin7 hown hK hP 0 rfl rfl 6 (by decide) hW1 (fun _ h9 => h9) rfl dX7_layer_37 ?_
          refine lv_iload hx hb dX7_layer_40 (lv_at hl 4 rfl) ?_
          refine vp_callSi (va_Run.run (va_runS (As := [.int (xLyT (g 1 (x.toInt.toNat)) y (f 6) j), .int (nI (j))]) (rest := []) ⟨hx, hb, hml, hown, hts⟩ (c7_hueAt l (xLyT (g 1 (x.toInt.toNat)) y (f 6) j) (j)) (va_cwS 2 hts gX7_layer_X7_hueAt rfl rfl rfl (by decide +kernel) ⟨Nat.le_of_ble_eq_true rfl, Nat.le_of_ble_eq_true rfl⟩) ⟨fun _ _ _ _ q => q, fun U hU hW => ⟨rfl, trivial⟩⟩ rfl rfl hl.1 rfl (lv_room (Nat.le_of_ble_eq_true rfl)) dX7_layer_42 ⟨Nat.le_of_ble_eq_true rfl, Nat.le_of_ble_eq_true rfl⟩)) (fun r hrc => ?_)
          have hrc : r = xHa (xLyT (g 1 (x.toInt.toNat)) y (f 6) j) (j) := hrc
          subst hrc
          refine lv_istore (lv' := [(5, .int (xHa (xLyT (g 1 (x.toInt.toNat)) y (f 6) j) (j))), (0, .ref (a)), (1, .int (x)), (2, .int (y)), (3, .int (xLyN (g 1 (x.toInt.toNat)) y (f 6) j)), (4, .int (nI (j)))]) hx hb dX7_layer_45 hl (by decide) rfl (fun ls hl => ?_)
          refine lv_iload hx hb dX7_layer_47 (lv_at hl 0 rfl) ?_
          refine lv_aload_n hx hb dX7_layer_49 rfl (lv_at hl 1 rfl) ?_
          refine va_get (D := (dC, dI)) (ci := 7) (v := .ref (o 2)) (C := RX7) (T := TX7) (N := 16) hx hb hts hin7 hown hK hP 0 rfl rfl 2 (by decide) hW2 (fun _ h9 => h9) rfl dX7_layer_50 ?_
          refine lv_iload_n hx hb dX7_layer_53 rfl (lv_at hl 2 rfl) ?_
          refine tq (ix_int (by omega)) ?_
          refine ald hx hb hK hP (f := g 1) (k := x.toInt.toNat) 4 0 rfl rfl rfl (by omega) (by decide) dX7_layer_54 ?_
          refine lv_ior hx hb dX7_layer_55 ?_
          refine lv_istore (lv' := [(6, .int ((xHa (xLyT (g 1 (x.toInt.toNat)) y (f 6) j) (j)) ||| (g 1 (x.toInt.toNat)))), (5, .int (xHa (xLyT (g 1 (x.toInt.toNat)) y (f 6) j) (j))), (0, .ref (a)), (1, .int (x)), (2, .int (y)), (3, .int (xLyN (g 1 (x.toInt.toNat)) y (f 6) j)), (4, .int (nI (j)))]) hx hb dX7_layer_56 hl (by decide) rfl (fun ls hl => ?_)
          refine lv_iload_n hx hb dX7_layer_58 rfl (lv_at hl 4 rfl) ?_
          refine lv_iload hx hb dX7_layer_59 (lv_at hl 6 rfl) ?_
          refine vp_callSi (va_Run.run (va_runS (As := [.int (y), .int (nI (j))]) (rest := []) ⟨hx, hb, hml, hown, hts⟩ (c7_holds l (y) (j)) (va_cwS 2 hts gX7_layer_X7_holds rfl rfl rfl (by decide +kernel) ⟨Nat.le_of_ble_eq_true rfl, Nat.le_of_ble_eq_true rfl⟩) ⟨fun _ _ _ _ q => q, fun U hU hW => ⟨rfl, trivial⟩⟩ rfl rfl hl.1 rfl (lv_room (Nat.le_of_ble_eq_true rfl)) dX7_layer_61 ⟨Nat.le_of_ble_eq_true rfl, Nat.le_of_ble_eq_true rfl⟩)) (fun r hrc => ?_)
          have hrc : r = b2i (((y) >>> (nI (j) &&& 31)) &&& nI 1 = nI 1) := hrc
          subst hrc
          refine lv_if_eq (tgt := 92) hx hb dX7_layer_64 (by decide) (fun c_5 => ?_) (fun c_5 => ?_)
          · skip
            have c_5 := b2i_0 c_5
            refine lv_iinc (v := nI (j + 1)) (lv' := [(4, .int (nI (j + 1))), (6, .int ((xHa (xLyT (g 1 (x.toInt.toNat)) y (f 6) j) (j)) ||| (g 1 (x.toInt.toNat)))), (5, .int (xHa (xLyT (g 1 (x.toInt.toNat)) y (f 6) j) (j))), (0, .ref (a)), (1, .int (x)), (2, .int (y)), (3, .int (xLyN (g 1 (x.toInt.toNat)) y (f 6) j))]) hx hb dX7_layer_92 hl (k := 6) rfl (nI_1 _) (by decide) rfl (fun ls hl => ?_)
            refine lv_goto (tgt := 29) hx hb dX7_layer_95 (by decide) ?_
            have e1_3 : (xLyN (g 1 (x.toInt.toNat)) y (f 6) j) = xLyN (g 1 (x.toInt.toNat)) y (f 6) (j + 1) := by first | rw [xLyN, if_pos c_4, if_neg c_5] | rw [xLyN, if_pos c_4, if_pos c_5] | rw [xLyN, if_neg c_5]
            have e2_0 : xLyT (g 1 (x.toInt.toNat)) y (f 6) j = xLyT (g 1 (x.toInt.toNat)) y (f 6) (j + 1) := by first | rw [xLyT, if_pos c_4, if_neg c_5] | rw [xLyT, if_pos c_4, if_pos c_5] | rw [xLyT, if_neg c_5]
            have hP : va_P (dC, dI) vwCl (xW cI cP a o (su f 6 (xLyT (g 1 (x.toInt.toNat)) y (f 6) (j + 1))) g pa tv n pd pk pv) H := by rw [← e2_0]; exact hP
            have hD : va_D A (xW cI cP a o (su f 6 (xLyT (g 1 (x.toInt.toNat)) y (f 6) (j + 1))) g pa tv n pd pk pv) := by rw [← e2_0]; exact hD
            exact ih_29 (j + 1) H locs ls (by show _ < _; omega) (by show _; omega) hP hD hS (by show lv_has ls 7 [(0, .ref (a)), (1, .int (x)), (2, .int (y)), (3, .int (xLyN (g 1 (x.toInt.toNat)) y (f 6) (j + 1))), (4, .int (nI ((j + 1))))]; rw [← e1_3]; exact lv_sub hl [3, 4, 5, 6, 0] rfl)
          · skip
            have c_5 := b2i_1 c_5
            refine lv_iload hx hb dX7_layer_67 (lv_at hl 0 rfl) ?_
            refine lv_iload hx hb dX7_layer_69 (lv_at hl 1 rfl) ?_
            refine lv_icmp_eq (tgt := 92) hx hb dX7_layer_71 (by decide) (fun c_6 => ?_) (fun c_6 => ?_)
            · skip
              refine lv_iinc (v := nI (j + 1)) (lv' := [(4, .int (nI (j + 1))), (6, .int ((xHa (xLyT (g 1 (x.toInt.toNat)) y (f 6) j) (j)) ||| (g 1 (x.toInt.toNat)))), (5, .int (xHa (xLyT (g 1 (x.toInt.toNat)) y (f 6) j) (j))), (0, .ref (a)), (1, .int (x)), (2, .int (y)), (3, .int (xLyN (g 1 (x.toInt.toNat)) y (f 6) j))]) hx hb dX7_layer_92 hl (k := 6) rfl (nI_1 _) (by decide) rfl (fun ls hl => ?_)
              refine lv_goto (tgt := 29) hx hb dX7_layer_95 (by decide) ?_
              have e1_3 : (xLyN (g 1 (x.toInt.toNat)) y (f 6) j) = xLyN (g 1 (x.toInt.toNat)) y (f 6) (j + 1) := by first | rw [xLyN, if_pos c_5, if_neg c_6] | rw [xLyN, if_pos c_5, if_pos c_6] | rw [xLyN, if_neg c_6]
              have e2_0 : xLyT (g 1 (x.toInt.toNat)) y (f 6) j = xLyT (g 1 (x.toInt.toNat)) y (f 6) (j + 1) := by first | rw [xLyT, if_pos c_5, if_neg c_6] | rw [xLyT, if_pos c_5, if_pos c_6] | rw [xLyT, if_neg c_6]
              have hP : va_P (dC, dI) vwCl (xW cI cP a o (su f 6 (xLyT (g 1 (x.toInt.toNat)) y (f 6) (j + 1))) g pa tv n pd pk pv) H := by rw [← e2_0]; exact hP
              have hD : va_D A (xW cI cP a o (su f 6 (xLyT (g 1 (x.toInt.toNat)) y (f 6) (j + 1))) g pa tv n pd pk pv) := by rw [← e2_0]; exact hD
              exact ih_29 (j + 1) H locs ls (by show _ < _; omega) (by show _; omega) hP hD hS (by show lv_has ls 7 [(0, .ref (a)), (1, .int (x)), (2, .int (y)), (3, .int (xLyN (g 1 (x.toInt.toNat)) y (f 6) (j + 1))), (4, .int (nI ((j + 1))))]; rw [← e1_3]; exact lv_sub hl [3, 4, 5, 6, 0] rfl)
            · skip
              refine lv_aload_n hx hb dX7_layer_74 rfl (lv_at hl 2 rfl) ?_
              refine lv_aload_n hx hb dX7_layer_75 rfl (lv_at hl 2 rfl) ?_
              refine va_get (D := (dC, dI)) (ci := 7) (v := .int (xLyT (g 1 (x.toInt.toNat)) y (f 6) j)) (C := RX7) (T := TX7) (N := 16) hx hb hts hin7 hown hK hP 0 rfl rfl 6 (by decide) hW1 (fun _ h9 => h9) rfl dX7_layer_76 ?_
              refine lv_iload hx hb dX7_layer_79 (lv_at hl 6 rfl) ?_
              refine lv_iload hx hb dX7_layer_81 (lv_at hl 0 rfl) ?_
              refine vp_callSi (va_Run.run (va_runS (As := [.int (xLyT (g 1 (x.toInt.toNat)) y (f 6) j), .int (nI (j)), .int ((xHa (xLyT (g 1 (x.toInt.toNat)) y (f 6) j) (j)) ||| (g 1 (x.toInt.toNat)))]) (rest := [.ref (a)]) ⟨hx, hb, hml, hown, hts⟩ (c7_withHue l (xLyT (g 1 (x.toInt.toNat)) y (f 6) j) (j) ((xHa (xLyT (g 1 (x.toInt.toNat)) y (f 6) j) (j)) ||| (g 1 (x.toInt.toNat)))) (va_cwS 3 hts gX7_layer_X7_withHue rfl rfl rfl (by decide +kernel) ⟨Nat.le_of_ble_eq_true rfl, Nat.le_of_ble_eq_true rfl⟩) ⟨fun _ _ _ _ q => q, fun U hU hW => ⟨rfl, trivial⟩⟩ rfl rfl hl.1 rfl (lv_room (Nat.le_of_ble_eq_true rfl)) dX7_layer_83 ⟨Nat.le_of_ble_eq_true rfl, Nat.le_of_ble_eq_true rfl⟩)) (fun r hrc => ?_)
              have hrc : r = xWh (xLyT (g 1 (x.toInt.toNat)) y (f 6) j) (j) ((xHa (xLyT (g 1 (x.toInt.toNat)) y (f 6) j) (j)) ||| (g 1 (x.toInt.toNat))) := hrc
              subst hrc
              refine va_put (D := (dC, dI)) (ci := 7) (v := .int (xWh (xLyT (g 1 (x.toInt.toNat)) y (f 6) j) (j) ((xHa (xLyT (g 1 (x.toInt.toNat)) y (f 6) j) (j)) ||| (g 1 (x.toInt.toNat))))) (ty := .int) (C := RX7) (T := TX7) (N := 16) hx hb hts hin7 tyX7 tyX7_ok nmX7 hown hK hP hD hS 0 rfl rfl 6 (by decide) hW1 (fun _ h9 => h9) rfl (by decide +kernel) rfl rfl (Nat.le_of_ble_eq_true rfl) dX7_layer_86 (fun H locs hP hD hS => ?_)
              have hP : va_P (dC, dI) vwCl (xW cI cP a o (su f 6 (xWh (xLyT (g 1 (x.toInt.toNat)) y (f 6) j) (j) ((xHa (xLyT (g 1 (x.toInt.toNat)) y (f 6) j) (j)) ||| (g 1 (x.toInt.toNat))))) g pa tv n pd pk pv) H := hP
              have hD : va_D A (xW cI cP a o (su f 6 (xWh (xLyT (g 1 (x.toInt.toNat)) y (f 6) j) (j) ((xHa (xLyT (g 1 (x.toInt.toNat)) y (f 6) j) (j)) ||| (g 1 (x.toInt.toNat))))) g pa tv n pd pk pv) := hD
              refine lv_iinc (v := xLyN (g 1 (x.toInt.toNat)) y (f 6) j + 1) (lv' := [(3, .int (xLyN (g 1 (x.toInt.toNat)) y (f 6) j + 1)), (6, .int ((xHa (xLyT (g 1 (x.toInt.toNat)) y (f 6) j) (j)) ||| (g 1 (x.toInt.toNat)))), (5, .int (xHa (xLyT (g 1 (x.toInt.toNat)) y (f 6) j) (j))), (0, .ref (a)), (1, .int (x)), (2, .int (y)), (4, .int (nI (j)))]) hx hb dX7_layer_89 hl (k := 5) rfl rfl (by decide) rfl (fun ls hl => ?_)
              refine lv_iinc (v := nI (j + 1)) (lv' := [(4, .int (nI (j + 1))), (3, .int (xLyN (g 1 (x.toInt.toNat)) y (f 6) j + 1)), (6, .int ((xHa (xLyT (g 1 (x.toInt.toNat)) y (f 6) j) (j)) ||| (g 1 (x.toInt.toNat)))), (5, .int (xHa (xLyT (g 1 (x.toInt.toNat)) y (f 6) j) (j))), (0, .ref (a)), (1, .int (x)), (2, .int (y))]) hx hb dX7_layer_92 hl (k := 6) rfl (nI_1 _) (by decide) rfl (fun ls hl => ?_)
              refine lv_goto (tgt := 29) hx hb dX7_layer_95 (by decide) ?_
              have e1_3 : (xLyN (g 1 (x.toInt.toNat)) y (f 6) j + 1) = xLyN (g 1 (x.toInt.toNat)) y (f 6) (j + 1) := by first | rw [xLyN, if_pos c_5, if_neg c_6] | rw [xLyN, if_pos c_5, if_pos c_6] | rw [xLyN, if_neg c_6]
              have e2_0 : xWh (xLyT (g 1 (x.toInt.toNat)) y (f 6) j) (j) ((xHa (xLyT (g 1 (x.toInt.toNat)) y (f 6) j) (j)) ||| (g 1 (x.toInt.toNat))) = xLyT (g 1 (x.toInt.toNat)) y (f 6) (j + 1) := by first | rw [xLyT, if_pos c_5, if_neg c_6] | rw [xLyT, if_pos c_5, if_pos c_6] | rw [xLyT, if_neg c_6]
              have hP : va_P (dC, dI) vwCl (xW cI cP a o (su f 6 (xLyT (g 1 (x.toInt.toNat)) y (f 6) (j + 1))) g pa tv n pd pk pv) H := by rw [← e2_0]; exact hP
              have hD : va_D A (xW cI cP a o (su f 6 (xLyT (g 1 (x.toInt.toNat)) y (f 6) (j + 1))) g pa tv n pd pk pv) := by rw [← e2_0]; exact hD
              exact ih_29 (j + 1) H locs ls (by show _ < _; omega) (by show _; omega) hP hD hS (by show lv_has ls 7 [(0, .ref (a)), (1, .int (x)), (2, .int (y)), (3, .int (xLyN (g 1 (x.toInt.toNat)) y (f 6) (j + 1))), (4, .int (nI ((j + 1))))]; rw [← e1_3]; exact lv_sub hl [4, 5, 6, 1, 0] rfl)
      · skip
        rw [lti, tn (n := 64) (by omega)] at c_3
        refine lv_bipush (v := (-102)) hx hb dX7_layer_21 (by decide +kernel) ?_
        have hP9 : va_P (dC, dI) vwCl (xW cI cP a o f g pa tv n pd pk pv) H := hP
        exact W.iret (v := (-102)) hx hb hr (fun t ht hW => ⟨⟨(-102), (f, g, pa, tv, n, pd, pk, pv), rfl, (by show (((-102), (f, g, pa, tv, n, pd, pk, pv)) : _ × XSt) = xp3 (xLayer f g k8 x y) pa tv n pd pk pv; first | (simp only [xp3, xLayer, xOk, if_pos c_1, if_neg c_2, if_neg c_3]; done) | (simp only [xp3, xLayer, xOk, if_pos c_1, if_neg c_2, if_neg c_3]; rfl) | rfl | (simp [xp3, xLayer, xOk, if_pos c_1, if_neg c_2, if_neg c_3]; done)), by rw [ht]; exact hP9, va_K.moved hW.alike hK, hD⟩, hS.F ht⟩) hS.2.2 dX7_layer_23
  · skip
    have c_1 := b2i_0 c_1
    refine lv_bipush (v := (-101)) hx hb dX7_layer_8 (by decide +kernel) ?_
    have hP9 : va_P (dC, dI) vwCl (xW cI cP a o f g pa tv n pd pk pv) H := hP
    exact W.iret (v := (-101)) hx hb hr (fun t ht hW => ⟨⟨(-101), (f, g, pa, tv, n, pd, pk, pv), rfl, (by show (((-101), (f, g, pa, tv, n, pd, pk, pv)) : _ × XSt) = xp3 (xLayer f g k8 x y) pa tv n pd pk pv; first | (simp only [xp3, xLayer, xOk, if_neg c_1]; done) | (simp only [xp3, xLayer, xOk, if_neg c_1]; rfl) | rfl | (simp [xp3, xLayer, xOk, if_neg c_1]; done)), by rw [ht]; exact hP9, va_K.moved hW.alike hK, hD⟩, hS.F ht⟩) hS.2.2 dX7_layer_10

set_option maxHeartbeats 1200000 in
set_option maxRecDepth 100000 in
theorem c7_sign (l : Launch) (dC : Nat → ClassId) (dI : Nat → Nat → Nat) (cI cP : ClassId) (a : Nat) (o : Nat → Nat) (f : Nat → Int32) (g : Nat → Nat → Int32) (pa : Nat → Option Nat) (tv : Nat → Nat → Int32) (n : Nat) (pd pk : Nat → Nat) (pv : Nat → Nat → Int32) (sz : Nat) {k16 : Nat} (e16 : f 16 = nI k16) (b16 : k16 ≤ 10) : Met l yX7_sign wsX7_sign ({ frames := 3, cells := 0, slots := 0, locals := 63 } : Room) (va_Pc [.ref (a)] (fun U => U.heap.size = sz ∧ va_P (dC, dI) vwCl (xW cI cP a o f g pa tv n pd pk pv) U.heap ∧ va_K (dC, dI) vwCl [(cI, .int), (cP, .object RX4)] U ∧ xN U ∧ va_D (fun _ => True) (xW cI cP a o f g pa tv n pd pk pv))) (va_Qi (fun (r : Int32) (u : XSt) => (r, u) = xSign f g pa tv n pd pk pv k16) (xB dC dI cI cP a o (va_A (xW cI cP a o f g pa tv n pd pk pv) sz)) (va_A (xW cI cP a o f g pa tv n pd pk pv) sz)) 0 0 (va_A (xW cI cP a o f g pa tv n pd pk pv) sz) := by
  refine Met.ofW (cc := cX7_sign) (maxL := 2) (ret := (some .int)) (by decide) rfl ?_
  intro p_ e_ s m args below meth c_0 s₁ B hml hv
  obtain ⟨rfl, hsz, hP, hK, hN, hD0⟩ := hv
  have hx := B.exec
  have hb := B.bytes
  have hr := B.returns
  have hts := atoms_spec (ws := wsX7_sign) B.pre
  have hown : s.vm.findClass RX7 = some m.cls := findClass_of_methodNamed B.named
  have hlocks := B.notSynchronized
  subst hsz
  have hD := hD0.self (sz := s.heap.size)
  generalize hAe : va_A (xW cI cP a o f g pa tv n pd pk pv) s.heap.size = A at hD ⊢
  have hA : ∀ q : Nat, s.heap.size ≤ q → A q := fun q h => by rw [← hAe]; exact Or.inr h
  obtain ⟨H, hHe⟩ : ∃ H : Heap, H = s.heap := ⟨_, rfl⟩
  have hS : va_S A s.heap H [] := by rw [hHe]; exact va_S.rf
  rw [← hHe] at hP ⊢
  have hP : va_P (dC, dI) vwCl (xW cI cP a o f g pa tv n pd pk pv) H := hP
  have hl := lv_entry ([.ref (a)]) (n := 2) (Nat.le_of_ble_eq_true rfl)
  rw [lg_entry_eq]
  generalize (lg_sl ([.ref (a)]) ++ List.replicate (2 - (lg_sl ([.ref (a)])).length) Slot.unset).toArray = ls at hl ⊢
  have hl : lv_has ls 2 [(0, .ref (a))] := hl
  have hin7 : ∀ w ∈ wsX70, w ∈ wsX7_sign := fun _ h => List.mem_cons_of_mem _ (List.mem_append_left _ (List.mem_append_left _ (List.mem_append_right _ h)))
  have hW0 := hts (.fieldLink RX7 12 "EachEye" "page" "LEachEye$Page;") (by decide +kernel)
  have hW1 := hts (.fieldLink RX7 39 "EachEye" "theSign" "I") (by decide +kernel)
  have hW2 := hts (.fieldLink RX7 67 "EachEye" "peopleCount" "I") (by decide +kernel)
  have hW3 := hts (.fieldLink RX7 70 "EachEye" "inkCount" "I") (by decide +kernel)
  have hW4 := hts (.fieldLink RX7 73 "EachEye" "layersDone" "I") (by decide +kernel)
  have hW5 := hts (.fieldLink RX7 29 "EachEye" "cards" "LEachEye$Cards;") (by decide +kernel)
  have hW6 := hts (.fieldLink RX7 43 "EachEye" "keptSign" "I") (by decide +kernel)
  have hW7 := hts (.fieldLink RX7 79 "EachEye" "signsRead" "I") (by decide +kernel)
  refine lv_aload_n hx hb dX7_sign_0 rfl (lv_at hl 0 rfl) ?_
  refine va_get (D := (dC, dI)) (ci := 7) (v := .ref (o 0)) (C := RX7) (T := TX7) (N := 16) hx hb hts hin7 hown hK hP 0 rfl rfl 0 (by decide) hW0 (fun _ h9 => h9) rfl dX7_sign_1 ?_
  refine vp_callSi (va_Run.run (va_runV (As := []) (rest := []) ⟨hx, hb, hml, hown, hts⟩ (c3_asText l dC dI cI cP a o f g pa tv n pd pk pv e16 (by omega)  ) (cwV 0 hts gX7_sign_X3_asText rfl rfl rfl (by decide +kernel) ⟨Nat.le_of_ble_eq_true rfl, Nat.le_of_ble_eq_true rfl⟩) ⟨fun a U g mk q => ⟨q.1, q.2.1, va_K.moved (u := U) (U := U.calling g mk a) (Vm.Alike.refl U.vm) q.2.2.1, xN.same (u := U) (U := U.calling g mk a) rfl q.2.2.2⟩, va_recv hK hP (ci := 3) (q0 := 1) rfl rfl, fun U hU hW => ⟨rfl, by rw [hU]; exact hP, va_K.moved hW.alike hK, xN.warm hW hN⟩⟩ rfl rfl hl.1 rfl (lv_room (Nat.le_of_ble_eq_true rfl)) dX7_sign_4 ⟨Nat.le_of_ble_eq_true rfl, Nat.le_of_ble_eq_true rfl⟩)) (fun r hrc => ?_)
  have hrc : r = xText (g) (k16) := hrc
  subst hrc
  refine lv_istore_n (lv' := [(1, .int (xText (g) (k16))), (0, .ref (a))]) hx hb dX7_sign_7 rfl hl (by decide) rfl (fun ls hl => ?_)
  refine lv_iload_n hx hb dX7_sign_8 rfl (lv_at hl 0 rfl) ?_
  refine lv_iconst (v := (-1)) hx hb dX7_sign_9 (by decide +kernel) ?_
  refine lv_icmp_ne (tgt := 16) hx hb dX7_sign_10 (by decide) (fun c_1 => ?_) (fun c_1 => ?_)
  · skip
    refine lv_aload_n hx hb dX7_sign_16 rfl (lv_at hl 1 rfl) ?_
    refine lv_iload_n hx hb dX7_sign_17 rfl (lv_at hl 0 rfl) ?_
    refine va_put (D := (dC, dI)) (ci := 7) (v := .int (xText (g) (k16))) (ty := .int) (C := RX7) (T := TX7) (N := 16) hx hb hts hin7 tyX7 tyX7_ok nmX7 hown hK hP hD hS 0 rfl rfl 6 (by decide) hW1 (fun _ h9 => h9) rfl (by decide +kernel) rfl rfl (Nat.le_of_ble_eq_true rfl) dX7_sign_18 (fun H locs hP hD hS => ?_)
    have hP : va_P (dC, dI) vwCl (xW cI cP a o (su f 6 (xText (g) (k16))) g pa tv n pd pk pv) H := hP
    have hD : va_D A (xW cI cP a o (su f 6 (xText (g) (k16))) g pa tv n pd pk pv) := hD
    refine lv_aload_n hx hb dX7_sign_21 rfl (lv_at hl 1 rfl) ?_
    refine lv_iconst (v := nI (0)) hx hb dX7_sign_22 (by decide +kernel) ?_
    refine va_put (D := (dC, dI)) (ci := 7) (v := .int (nI (0))) (ty := .int) (C := RX7) (T := TX7) (N := 16) hx hb hts hin7 tyX7 tyX7_ok nmX7 hown hK hP hD hS 0 rfl rfl 7 (by decide) hW2 (fun _ h9 => h9) rfl (by decide +kernel) rfl rfl (Nat.le_of_ble_eq_true rfl) dX7_sign_23 (fun H locs hP hD hS => ?_)
    have hP : va_P (dC, dI) vwCl (xW cI cP a o (su (su f 6 (xText (g) (k16))) 7 (nI (0))) g pa tv n pd pk pv) H := hP
    have hD : va_D A (xW cI cP a o (su (su f 6 (xText (g) (k16))) 7 (nI (0))) g pa tv n pd pk pv) := hD
    refine lv_aload_n hx hb dX7_sign_26 rfl (lv_at hl 1 rfl) ?_
    refine lv_iconst (v := nI (0)) hx hb dX7_sign_27 (by decide +kernel) ?_
    refine va_put (D := (dC, dI)) (ci := 7) (v := .int (nI (0))) (ty := .int) (C := RX7) (T := TX7) (N := 16) hx hb hts hin7 tyX7 tyX7_ok nmX7 hown hK hP hD hS 0 rfl rfl 8 (by decide) hW3 (fun _ h9 => h9) rfl (by decide +kernel) rfl rfl (Nat.le_of_ble_eq_true rfl) dX7_sign_28 (fun H locs hP hD hS => ?_)
    have hP : va_P (dC, dI) vwCl (xW cI cP a o (su (su (su f 6 (xText (g) (k16))) 7 (nI (0))) 8 (nI (0))) g pa tv n pd pk pv) H := hP
    have hD : va_D A (xW cI cP a o (su (su (su f 6 (xText (g) (k16))) 7 (nI (0))) 8 (nI (0))) g pa tv n pd pk pv) := hD
    refine lv_aload_n hx hb dX7_sign_31 rfl (lv_at hl 1 rfl) ?_
    refine lv_iconst (v := nI (0)) hx hb dX7_sign_32 (by decide +kernel) ?_
    refine va_put (D := (dC, dI)) (ci := 7) (v := .int (nI (0))) (ty := .int) (C := RX7) (T := TX7) (N := 16) hx hb hts hin7 tyX7 tyX7_ok nmX7 hown hK hP hD hS 0 rfl rfl 9 (by decide) hW4 (fun _ h9 => h9) rfl (by decide +kernel) rfl rfl (Nat.le_of_ble_eq_true rfl) dX7_sign_33 (fun H locs hP hD hS => ?_)
    have hP : va_P (dC, dI) vwCl (xW cI cP a o (su (su (su (su f 6 (xText (g) (k16))) 7 (nI (0))) 8 (nI (0))) 9 (nI (0))) g pa tv n pd pk pv) H := hP
    have hD : va_D A (xW cI cP a o (su (su (su (su f 6 (xText (g) (k16))) 7 (nI (0))) 8 (nI (0))) 9 (nI (0))) g pa tv n pd pk pv) := hD
    refine lv_aload_n hx hb dX7_sign_36 rfl (lv_at hl 1 rfl) ?_
    refine va_get (D := (dC, dI)) (ci := 7) (v := .ref (o 3)) (C := RX7) (T := TX7) (N := 16) hx hb hts hin7 hown hK hP 0 rfl rfl 3 (by decide) hW5 (fun _ h9 => h9) rfl dX7_sign_37 ?_
    have hFc : ∀ q, va_A (xW cI cP a o (su (su (su (su f 6 (xText (g) (k16))) 7 (nI (0))) 8 (nI (0))) 9 (nI (0))) g pa tv n pd pk pv) H.size q → A q := fun q h => h.elim (fun ⟨j, e, hj⟩ => hD.2 j (q, e) hj) (fun h => hA q (Nat.le_trans hS.1 h))
    refine va_callv (va_runV (As := []) (rest := []) ⟨hx, hb, hml, hown, hts⟩ (c1_clear l dC dI cI cP a o (su (su (su (su f 6 (xText (g) (k16))) 7 (nI (0))) 8 (nI (0))) 9 (nI (0))) g pa tv n pd pk pv H.size   ) (cwV 0 hts gX7_sign_X1_clear rfl rfl rfl (by decide +kernel) ⟨Nat.le_of_ble_eq_true rfl, Nat.le_of_ble_eq_true rfl⟩) ⟨fun a U g mk q => by obtain ⟨q0, q1, qP, qK, qN, qD⟩ := q; exact ⟨q0, q1, qP, va_K.moved (u := U) (U := U.calling g mk a) (Vm.Alike.refl U.vm) qK, xN.same (u := U) (U := U.calling g mk a) rfl qN, qD⟩, va_recv hK hP (ci := 1) (q0 := 5) rfl rfl, fun U hU hW => ⟨rfl, by rw [hU], by rw [hU]; exact hP, va_K.moved hW.alike hK, xN.warm hW hN, hD.weaken (fun _ _ _ _ => trivial)⟩⟩ rfl rfl hl.1 rfl (lv_room (Nat.le_of_ble_eq_true rfl)) dX7_sign_40 ⟨Nat.le_of_ble_eq_true rfl, Nat.le_of_ble_eq_true rfl⟩) hS (fun q _ h => hFc q h) hFc (fun u t H1 locs ht hvm hw hB hz1 hk1 hS => ?_)
    have hw : u = ((su (su (su (su (su f 6 (xText (g) (k16))) 7 (nI (0))) 8 (nI (0))) 9 (nI (0))) 17 (nI (0)), g, pa, tv, n, pd, pk, pv) : XSt) := hw
    subst hw
    obtain ⟨hP1, hK1, hD1⟩ := hB
    rw [ht] at hP1
    have hP : va_P (dC, dI) vwCl (xW cI cP a o (su (su (su (su (su f 6 (xText (g) (k16))) 7 (nI (0))) 8 (nI (0))) 9 (nI (0))) 17 (nI (0))) g pa tv n pd pk pv) H1 := hP1
    have hD : va_D A (xW cI cP a o (su (su (su (su (su f 6 (xText (g) (k16))) 7 (nI (0))) 8 (nI (0))) 9 (nI (0))) 17 (nI (0))) g pa tv n pd pk pv) := hD1.weaken (fun _ _ _ h => hFc _ h)
    clear hP1 hD1 hK1 hFc hk1 hz1
    generalize H1 = H at hP hS ⊢
    have hP : va_P (dC, dI) vwCl (xW cI cP a o (su (su (su (su (su f 6 (xText (g) (k16))) 7 (nI (0))) 8 (nI (0))) 9 (nI (0))) 17 (nI (0))) g pa tv n pd pk pv) H := hP
    have hD : va_D A (xW cI cP a o (su (su (su (su (su f 6 (xText (g) (k16))) 7 (nI (0))) 8 (nI (0))) 9 (nI (0))) 17 (nI (0))) g pa tv n pd pk pv) := hD
    refine lv_aload_n hx hb dX7_sign_43 rfl (lv_at hl 1 rfl) ?_
    refine lv_iconst (v := (-1)) hx hb dX7_sign_44 (by decide +kernel) ?_
    refine va_put (D := (dC, dI)) (ci := 7) (v := .int ((-1))) (ty := .int) (C := RX7) (T := TX7) (N := 16) hx hb hts hin7 tyX7 tyX7_ok nmX7 hown hK hP hD hS 0 rfl rfl 12 (by decide) hW6 (fun _ h9 => h9) rfl (by decide +kernel) rfl rfl (Nat.le_of_ble_eq_true rfl) dX7_sign_45 (fun H locs hP hD hS => ?_)
    have hP : va_P (dC, dI) vwCl (xW cI cP a o (su (su (su (su (su (su f 6 (xText (g) (k16))) 7 (nI (0))) 8 (nI (0))) 9 (nI (0))) 17 (nI (0))) 12 ((-1))) g pa tv n pd pk pv) H := hP
    have hD : va_D A (xW cI cP a o (su (su (su (su (su (su f 6 (xText (g) (k16))) 7 (nI (0))) 8 (nI (0))) 9 (nI (0))) 17 (nI (0))) 12 ((-1))) g pa tv n pd pk pv) := hD
    refine lv_aload_n hx hb dX7_sign_48 rfl (lv_at hl 1 rfl) ?_
    refine lv_dup hx hb dX7_sign_49 rfl ?_
    refine va_get (D := (dC, dI)) (ci := 7) (v := .int (f 10)) (C := RX7) (T := TX7) (N := 16) hx hb hts hin7 hown hK hP 0 rfl rfl 10 (by decide) hW7 (fun _ h9 => h9) rfl dX7_sign_50 ?_
    refine lv_iconst (v := nI (1)) hx hb dX7_sign_53 (by decide +kernel) ?_
    refine lv_iadd hx hb dX7_sign_54 ?_
    refine va_put (D := (dC, dI)) (ci := 7) (v := .int ((f 10) + (nI (1)))) (ty := .int) (C := RX7) (T := TX7) (N := 16) hx hb hts hin7 tyX7 tyX7_ok nmX7 hown hK hP hD hS 0 rfl rfl 10 (by decide) hW7 (fun _ h9 => h9) rfl (by decide +kernel) rfl rfl (Nat.le_of_ble_eq_true rfl) dX7_sign_55 (fun H locs hP hD hS => ?_)
    have hP : va_P (dC, dI) vwCl (xW cI cP a o (su (su (su (su (su (su (su f 6 (xText (g) (k16))) 7 (nI (0))) 8 (nI (0))) 9 (nI (0))) 17 (nI (0))) 12 ((-1))) 10 ((f 10) + (nI (1)))) g pa tv n pd pk pv) H := hP
    have hD : va_D A (xW cI cP a o (su (su (su (su (su (su (su f 6 (xText (g) (k16))) 7 (nI (0))) 8 (nI (0))) 9 (nI (0))) 17 (nI (0))) 12 ((-1))) 10 ((f 10) + (nI (1)))) g pa tv n pd pk pv) := hD
    refine lv_aload_n hx hb dX7_sign_58 rfl (lv_at hl 1 rfl) ?_
    refine va_get (D := (dC, dI)) (ci := 7) (v := .ref (o 0)) (C := RX7) (T := TX7) (N := 16) hx hb hts hin7 hown hK hP 0 rfl rfl 0 (by decide) hW0 (fun _ h9 => h9) rfl dX7_sign_59 ?_
    have hFc : ∀ q, va_A (xW cI cP a o (su (su (su (su (su (su (su f 6 (xText (g) (k16))) 7 (nI (0))) 8 (nI (0))) 9 (nI (0))) 17 (nI (0))) 12 ((-1))) 10 ((f 10) + (nI (1)))) g pa tv n pd pk pv) H.size q → A q := fun q h => h.elim (fun ⟨j, e, hj⟩ => hD.2 j (q, e) hj) (fun h => hA q (Nat.le_trans hS.1 h))
    refine va_callv (va_runV (As := []) (rest := []) ⟨hx, hb, hml, hown, hts⟩ (c3_empty l dC dI cI cP a o (su (su (su (su (su (su (su f 6 (xText (g) (k16))) 7 (nI (0))) 8 (nI (0))) 9 (nI (0))) 17 (nI (0))) 12 ((-1))) 10 ((f 10) + (nI (1)))) g pa tv n pd pk pv H.size   ) (cwV 0 hts gX7_sign_X3_empty rfl rfl rfl (by decide +kernel) ⟨Nat.le_of_ble_eq_true rfl, Nat.le_of_ble_eq_true rfl⟩) ⟨fun a U g mk q => by obtain ⟨q0, q1, qP, qK, qN, qD⟩ := q; exact ⟨q0, q1, qP, va_K.moved (u := U) (U := U.calling g mk a) (Vm.Alike.refl U.vm) qK, xN.same (u := U) (U := U.calling g mk a) rfl qN, qD⟩, va_recv hK hP (ci := 3) (q0 := 1) rfl rfl, fun U hU hW => ⟨rfl, by rw [hU], by rw [hU]; exact hP, va_K.moved hW.alike hK, xN.warm hW hN, hD.weaken (fun _ _ _ _ => trivial)⟩⟩ rfl rfl hl.1 rfl (lv_room (Nat.le_of_ble_eq_true rfl)) dX7_sign_62 ⟨Nat.le_of_ble_eq_true rfl, Nat.le_of_ble_eq_true rfl⟩) hS (fun q _ h => hFc q h) hFc (fun u t H1 locs ht hvm hw hB hz1 hk1 hS => ?_)
    have hw : u = ((su (su (su (su (su (su (su (su f 6 (xText (g) (k16))) 7 (nI (0))) 8 (nI (0))) 9 (nI (0))) 17 (nI (0))) 12 ((-1))) 10 ((f 10) + (nI (1)))) 16 (nI (0)), g, pa, tv, n, pd, pk, pv) : XSt) := hw
    subst hw
    obtain ⟨hP1, hK1, hD1⟩ := hB
    rw [ht] at hP1
    have hP : va_P (dC, dI) vwCl (xW cI cP a o (su (su (su (su (su (su (su (su f 6 (xText (g) (k16))) 7 (nI (0))) 8 (nI (0))) 9 (nI (0))) 17 (nI (0))) 12 ((-1))) 10 ((f 10) + (nI (1)))) 16 (nI (0))) g pa tv n pd pk pv) H1 := hP1
    have hD : va_D A (xW cI cP a o (su (su (su (su (su (su (su (su f 6 (xText (g) (k16))) 7 (nI (0))) 8 (nI (0))) 9 (nI (0))) 17 (nI (0))) 12 ((-1))) 10 ((f 10) + (nI (1)))) 16 (nI (0))) g pa tv n pd pk pv) := hD1.weaken (fun _ _ _ h => hFc _ h)
    clear hP1 hD1 hK1 hFc hk1 hz1
    generalize H1 = H at hP hS ⊢
    have hP : va_P (dC, dI) vwCl (xW cI cP a o (su (su (su (su (su (su (su (su f 6 (xText (g) (k16))) 7 (nI (0))) 8 (nI (0))) 9 (nI (0))) 17 (nI (0))) 12 ((-1))) 10 ((f 10) + (nI (1)))) 16 (nI (0))) g pa tv n pd pk pv) H := hP
    have hD : va_D A (xW cI cP a o (su (su (su (su (su (su (su (su f 6 (xText (g) (k16))) 7 (nI (0))) 8 (nI (0))) 9 (nI (0))) 17 (nI (0))) 12 ((-1))) 10 ((f 10) + (nI (1)))) 16 (nI (0))) g pa tv n pd pk pv) := hD
    have hP := xw_dropP (0) (by omega) hP
    have hD := xw_dropD (0) (by omega) hD
    have hP : va_P (dC, dI) vwCl (xW cI cP a o (su (su (su (su (su (su (su (su f 6 (xText (g) (k16))) 7 (nI (0))) 8 (nI (0))) 9 (nI (0))) 17 (nI (0))) 12 ((-1))) 10 ((f 10) + (nI (1)))) 16 (nI (0))) g pa tv 0 pd pk pv) H := hP
    have hD : va_D A (xW cI cP a o (su (su (su (su (su (su (su (su f 6 (xText (g) (k16))) 7 (nI (0))) 8 (nI (0))) 9 (nI (0))) 17 (nI (0))) 12 ((-1))) 10 ((f 10) + (nI (1)))) 16 (nI (0))) g pa tv 0 pd pk pv) := hD
    refine lv_aload_n hx hb dX7_sign_65 rfl (lv_at hl 1 rfl) ?_
    refine vp_callSi (va_Run.run (va_runV (As := []) (rest := []) ⟨hx, hb, hml, hown, hts⟩ (c7_colouredCells l dC dI cI cP a o (su (su (su (su (su (su (su (su f 6 (xText (g) (k16))) 7 (nI (0))) 8 (nI (0))) 9 (nI (0))) 17 (nI (0))) 12 ((-1))) 10 ((f 10) + (nI (1)))) 16 (nI (0))) g pa tv 0 pd pk pv   ) (cwV 0 hts gX7_sign_X7_colouredCells rfl rfl rfl (by decide +kernel) ⟨Nat.le_of_ble_eq_true rfl, Nat.le_of_ble_eq_true rfl⟩) ⟨fun a U g mk q => ⟨q.1, q.2.1, va_K.moved (u := U) (U := U.calling g mk a) (Vm.Alike.refl U.vm) q.2.2.1, xN.same (u := U) (U := U.calling g mk a) rfl q.2.2.2⟩, va_recv hK hP (ci := 7) (q0 := 0) rfl rfl, fun U hU hW => ⟨rfl, by rw [hU]; exact hP, va_K.moved hW.alike hK, xN.warm hW hN⟩⟩ rfl rfl hl.1 rfl (lv_room (Nat.le_of_ble_eq_true rfl)) dX7_sign_66 ⟨Nat.le_of_ble_eq_true rfl, Nat.le_of_ble_eq_true rfl⟩)) (fun r hrc => ?_)
    have hrc : r = xCol (xText (g) (k16)) := hrc
    subst hrc
    have hP9 : va_P (dC, dI) vwCl (xW cI cP a o (su (su (su (su (su (su (su (su f 6 (xText (g) (k16))) 7 (nI (0))) 8 (nI (0))) 9 (nI (0))) 17 (nI (0))) 12 ((-1))) 10 ((f 10) + (nI (1)))) 16 (nI (0))) g pa tv 0 pd pk pv) H := hP
    exact W.iret (v := xCol (xText (g) (k16))) hx hb hr (fun t ht hW => ⟨⟨xCol (xText (g) (k16)), (su (su (su (su (su (su (su (su f 6 (xText (g) (k16))) 7 (nI (0))) 8 (nI (0))) 9 (nI (0))) 17 (nI (0))) 12 ((-1))) 10 ((f 10) + (nI (1)))) 16 (nI (0)), g, pa, tv, 0, pd, pk, pv), rfl, (by show ((xCol (xText (g) (k16)), (su (su (su (su (su (su (su (su f 6 (xText (g) (k16))) 7 (nI (0))) 8 (nI (0))) 9 (nI (0))) 17 (nI (0))) 12 ((-1))) 10 ((f 10) + (nI (1)))) 16 (nI (0)), g, pa, tv, 0, pd, pk, pv)) : _ × XSt) = xSign f g pa tv n pd pk pv k16; first | (simp only [xSign, xSignF, if_neg c_1]; done) | (simp only [xSign, xSignF, if_neg c_1]; rfl) | rfl | (simp [xSign, xSignF, if_neg c_1]; done)), by rw [ht]; exact hP9, va_K.moved hW.alike hK, hD⟩, hS.F ht⟩) hS.2.2 dX7_sign_69
  · skip
    refine lv_bipush (v := (-103)) hx hb dX7_sign_13 (by decide +kernel) ?_
    have hP9 : va_P (dC, dI) vwCl (xW cI cP a o f g pa tv n pd pk pv) H := hP
    exact W.iret (v := (-103)) hx hb hr (fun t ht hW => ⟨⟨(-103), (f, g, pa, tv, n, pd, pk, pv), rfl, (by show (((-103), (f, g, pa, tv, n, pd, pk, pv)) : _ × XSt) = xSign f g pa tv n pd pk pv k16; first | (simp only [xSign, xSignF, if_pos c_1]; done) | (simp only [xSign, xSignF, if_pos c_1]; rfl) | rfl | (simp [xSign, xSignF, if_pos c_1]; done)), by rw [ht]; exact hP9, va_K.moved hW.alike hK, hD⟩, hS.F ht⟩) hS.2.2 dX7_sign_15

set_option maxHeartbeats 1200000 in
set_option maxRecDepth 100000 in
theorem c7_trial (l : Launch) (dC : Nat → ClassId) (dI : Nat → Nat → Nat) (cI cP : ClassId) (a : Nat) (o : Nat → Nat) (f : Nat → Int32) (g : Nat → Nat → Int32) (pa : Nat → Option Nat) (tv : Nat → Nat → Int32) (n : Nat) (pd pk : Nat → Nat) (pv : Nat → Nat → Int32) (sz : Nat) (x : Int32) (y : Int32) (k : Nat) (hk : k < 5) : Met l yX7_trial wsX7_trial ({ frames := 1, cells := 0, slots := 0, locals := 20 } : Room) (va_Pc [.ref (a), .int (nI (k)), .int (x), .int (y)] (fun U => U.heap.size = sz ∧ va_P (dC, dI) vwCl (xW cI cP a o f g pa tv n pd pk pv) U.heap ∧ va_K (dC, dI) vwCl [(cI, .int), (cP, .object RX4)] U ∧ xN U ∧ va_D (fun _ => True) (xW cI cP a o f g pa tv n pd pk pv))) (va_Qr (fun (u : XSt) => u = (f, g, pa, su tv k (su (su (tv k) 0 x) 1 y), n, pd, pk, pv)) (fun u ra t => ra = o (11 + k) ∧ xB dC dI cI cP a o (va_A (xW cI cP a o f g pa tv n pd pk pv) sz) u t) (va_A (xW cI cP a o f g pa tv n pd pk pv) sz)) 0 0 (va_A (xW cI cP a o f g pa tv n pd pk pv) sz) := by
  refine Met.ofW (cc := cX7_trial) (maxL := 5) (ret := (some (.object "EachEye$Person"))) (by decide) rfl ?_
  intro p_ e_ s m args below meth c_0 s₁ B hml hv
  obtain ⟨rfl, hsz, hP, hK, hN, hD0⟩ := hv
  have hx := B.exec
  have hb := B.bytes
  have hr := B.returns
  have hts := atoms_spec (ws := wsX7_trial) B.pre
  have hown : s.vm.findClass RX7 = some m.cls := findClass_of_methodNamed B.named
  have hlocks := B.notSynchronized
  subst hsz
  have hD := hD0.self (sz := s.heap.size)
  generalize hAe : va_A (xW cI cP a o f g pa tv n pd pk pv) s.heap.size = A at hD ⊢
  have hA : ∀ q : Nat, s.heap.size ≤ q → A q := fun q h => by rw [← hAe]; exact Or.inr h
  obtain ⟨H, hHe⟩ : ∃ H : Heap, H = s.heap := ⟨_, rfl⟩
  have hS : va_S A s.heap H [] := by rw [hHe]; exact va_S.rf
  rw [← hHe] at hP ⊢
  have hP : va_P (dC, dI) vwCl (xW cI cP a o f g pa tv n pd pk pv) H := hP
  have hl := lv_entry ([.ref (a), .int (nI (k)), .int (x), .int (y)]) (n := 5) (Nat.le_of_ble_eq_true rfl)
  rw [lg_entry_eq]
  generalize (lg_sl ([.ref (a), .int (nI (k)), .int (x), .int (y)]) ++ List.replicate (5 - (lg_sl ([.ref (a), .int (nI (k)), .int (x), .int (y)])).length) Slot.unset).toArray = ls at hl ⊢
  have hl : lv_has ls 5 [(0, .ref (a)), (1, .int (nI (k))), (2, .int (x)), (3, .int (y))] := hl
  have hin0 : ∀ w ∈ wsX00, w ∈ wsX7_trial := fun _ h => List.mem_cons_of_mem _ (List.mem_append_left _ (List.mem_append_left _ (List.mem_append_left _ (List.mem_append_left _ (List.mem_append_right _ h)))))
  have hin2 : ∀ w ∈ wsX20, w ∈ wsX7_trial := fun _ h => List.mem_cons_of_mem _ (List.mem_append_left _ (List.mem_append_left _ (List.mem_append_left _ (List.mem_append_right _ h))))
  have hin4 : ∀ w ∈ wsX40, w ∈ wsX7_trial := fun _ h => List.mem_cons_of_mem _ (List.mem_append_left _ (List.mem_append_left _ (List.mem_append_right _ h)))
  have hin5 : ∀ w ∈ wsX50, w ∈ wsX7_trial := fun _ h => List.mem_cons_of_mem _ (List.mem_append_left _ (List.mem_append_right _ h))
  have hin6 : ∀ w ∈ wsX60, w ∈ wsX7_trial := fun _ h => List.mem_cons_of_mem _ (List.mem_append_right _ h)
  have hin7 : ∀ w ∈ wsX70, w ∈ wsX7_trial := fun _ h => List.mem_cons_of_mem _ (List.mem_append_left _ (List.mem_append_left _ (List.mem_append_left _ (List.mem_append_left _ (List.mem_append_left _ (List.mem_append_right _ h))))))
  have hW0 := hts (.fieldLink RX7 33 "EachEye" "trials" "[LEachEye$Person;") (by decide +kernel)
  have hW1 := hts (.fieldLink RX7 107 "EachEye$Person" "left" "I") (by decide +kernel)
  have hW2 := hts (.fieldLink RX7 110 "EachEye$Person" "right" "I") (by decide +kernel)
  refine lv_aload_n hx hb dX7_trial_0 rfl (lv_at hl 0 rfl) ?_
  refine va_get (D := (dC, dI)) (ci := 7) (v := .ref (o 4)) (C := RX7) (T := TX7) (N := 16) hx hb hts hin7 hown hK hP 0 rfl rfl 4 (by decide) hW0 (fun _ h9 => h9) rfl dX7_trial_1 ?_
  refine lv_iload_n hx hb dX7_trial_4 rfl (lv_at hl 1 rfl) ?_
  refine vp_callSi (va_Run.run (va_runS (As := [.int (nI (k))]) (rest := [.ref (o 4)]) ⟨hx, hb, hml, hown, hts⟩ (c7_isKind l (nI (k))) (va_cwS 1 hts gX7_trial_X7_isKind rfl rfl rfl (by decide +kernel) ⟨Nat.le_of_ble_eq_true rfl, Nat.le_of_ble_eq_true rfl⟩) ⟨fun _ _ _ _ q => q, fun U hU hW => ⟨rfl, trivial⟩⟩ rfl rfl hl.1 rfl (lv_room (Nat.le_of_ble_eq_true rfl)) dX7_trial_5 ⟨Nat.le_of_ble_eq_true rfl, Nat.le_of_ble_eq_true rfl⟩)) (fun r hrc => ?_)
  have hrc : r = b2i (0 ≤ (nI (k)).toInt ∧ (nI (k)).toInt ≤ 4) := hrc
  subst hrc
  refine lv_if_eq (tgt := 15) hx hb dX7_trial_8 (by decide) (fun c_1 => absurd (show 0 ≤ (nI (k)).toInt ∧ (nI (k)).toInt ≤ 4 from by rw [tn (n := k) (by omega)]; omega) (b2i_0 c_1)) (fun c_1 => ?_)
  refine lv_iload_n hx hb dX7_trial_11 rfl (lv_at hl 1 rfl) ?_
  refine lv_goto (tgt := 16) hx hb dX7_trial_12 (by decide) ?_
  refine aldq hx hb hK hP 10 1 rfl rfl (k := k) rfl (by omega) (by decide) rfl dX7_trial_16 ?_
  refine lv_astore (lv' := [(4, .ref (o (11 + (k)))), (0, .ref (a)), (1, .int (nI (k))), (2, .int (x)), (3, .int (y))]) hx hb dX7_trial_17 hl (by decide) rfl (fun ls hl => ?_)
  refine lv_aload hx hb dX7_trial_19 (lv_at hl 0 rfl) ?_
  refine lv_iload_n hx hb dX7_trial_21 rfl (lv_at hl 3 rfl) ?_
  refine pe_put hx hb hts hin0 hin2 hin4 hin5 hin6 hown hK hP hD hS (12 + (k)) (by omega) (xw_t (by omega)) 0 (by decide) hW1 dX7_trial_22 (fun H locs hP hD hS => ?_)
  rw [xw_sett (by omega)] at hP hD
  have hP : va_P (dC, dI) vwCl (xW cI cP a o f g pa (su tv (k) (su (tv (k)) 0 (x))) n pd pk pv) H := hP
  have hD : va_D A (xW cI cP a o f g pa (su tv (k) (su (tv (k)) 0 (x))) n pd pk pv) := hD
  refine lv_aload hx hb dX7_trial_25 (lv_at hl 0 rfl) ?_
  refine lv_iload_n hx hb dX7_trial_27 rfl (lv_at hl 4 rfl) ?_
  refine pe_put hx hb hts hin0 hin2 hin4 hin5 hin6 hown hK hP hD hS (12 + (k)) (by omega) (xw_tq (by omega) (su_s _ _ _)) 1 (by decide) hW2 dX7_trial_28 (fun H locs hP hD hS => ?_)
  rw [xw_sett (by omega), su_su] at hP hD
  have hP : va_P (dC, dI) vwCl (xW cI cP a o f g pa (su tv (k) (su ((su (tv (k)) 0 (x))) 1 (y))) n pd pk pv) H := hP
  have hD : va_D A (xW cI cP a o f g pa (su tv (k) (su ((su (tv (k)) 0 (x))) 1 (y))) n pd pk pv) := hD
  refine lv_aload hx hb dX7_trial_31 (lv_at hl 0 rfl) ?_
  have hP9 : va_P (dC, dI) vwCl (xW cI cP a o f g pa (su tv (k) (su ((su (tv (k)) 0 (x))) 1 (y))) n pd pk pv) H := hP
  exact W.aret (v := .ref (o (11 + (k)))) hx hb hr (Or.inl ⟨_, rfl⟩) (Or.inr ⟨_, rfl⟩) (fun t ht hW => ⟨⟨(f, g, pa, su tv (k) (su ((su (tv (k)) 0 (x))) 1 (y)), n, pd, pk, pv), o (11 + (k)), rfl, (by show ((f, g, pa, su tv (k) (su ((su (tv (k)) 0 (x))) 1 (y)), n, pd, pk, pv) : XSt) = (f, g, pa, su tv k (su (su (tv k) 0 x) 1 y), n, pd, pk, pv); rfl), rfl, by rw [ht]; exact hP9, va_K.moved hW.alike hK, hD⟩, hS.F ht⟩) hS.2.2 dX7_trial_33

set_option maxHeartbeats 1200000 in
set_option maxRecDepth 100000 in
theorem c7_candidate (l : Launch) (dC : Nat → ClassId) (dI : Nat → Nat → Nat) (cI cP : ClassId) (a : Nat) (o : Nat → Nat) (f : Nat → Int32) (g : Nat → Nat → Int32) (pa : Nat → Option Nat) (tv : Nat → Nat → Int32) (n : Nat) (pd pk : Nat → Nat) (pv : Nat → Nat → Int32) (sz : Nat) (i : Nat) (hi : i < 320) : Met l yX7_candidate wsX7_candidate ({ frames := 2, cells := 0, slots := 0, locals := 44 } : Room) (va_Pc [.ref (a), .int (nI (i))] (fun U => U.heap.size = sz ∧ va_P (dC, dI) vwCl (xW cI cP a o f g pa tv n pd pk pv) U.heap ∧ va_K (dC, dI) vwCl [(cI, .int), (cP, .object RX4)] U ∧ xN U ∧ va_D (fun _ => True) (xW cI cP a o f g pa tv n pd pk pv))) (va_Qr (fun (u : XSt) => u = (f, g, pa, xCa tv i, n, pd, pk, pv)) (fun u ra t => ra = o (11 + i / 64) ∧ xB dC dI cI cP a o (va_A (xW cI cP a o f g pa tv n pd pk pv) sz) u t) (va_A (xW cI cP a o f g pa tv n pd pk pv) sz)) 0 0 (va_A (xW cI cP a o f g pa tv n pd pk pv) sz) := by
  refine Met.ofW (cc := cX7_candidate) (maxL := 2) (ret := (some (.object "EachEye$Person"))) (by decide) rfl ?_
  intro p_ e_ s m args below meth c_0 s₁ B hml hv
  obtain ⟨rfl, hsz, hP, hK, hN, hD0⟩ := hv
  have hx := B.exec
  have hb := B.bytes
  have hr := B.returns
  have hts := atoms_spec (ws := wsX7_candidate) B.pre
  have hown : s.vm.findClass RX7 = some m.cls := findClass_of_methodNamed B.named
  have hlocks := B.notSynchronized
  subst hsz
  have hD := hD0.self (sz := s.heap.size)
  generalize hAe : va_A (xW cI cP a o f g pa tv n pd pk pv) s.heap.size = A at hD ⊢
  have hA : ∀ q : Nat, s.heap.size ≤ q → A q := fun q h => by rw [← hAe]; exact Or.inr h
  obtain ⟨H, hHe⟩ : ∃ H : Heap, H = s.heap := ⟨_, rfl⟩
  have hS : va_S A s.heap H [] := by rw [hHe]; exact va_S.rf
  rw [← hHe] at hP ⊢
  have hP : va_P (dC, dI) vwCl (xW cI cP a o f g pa tv n pd pk pv) H := hP
  have hl := lv_entry ([.ref (a), .int (nI (i))]) (n := 2) (Nat.le_of_ble_eq_true rfl)
  rw [lg_entry_eq]
  generalize (lg_sl ([.ref (a), .int (nI (i))]) ++ List.replicate (2 - (lg_sl ([.ref (a), .int (nI (i))])).length) Slot.unset).toArray = ls at hl ⊢
  have hl : lv_has ls 2 [(0, .ref (a)), (1, .int (nI (i)))] := hl
  refine lv_aload_n hx hb dX7_candidate_0 rfl (lv_at hl 0 rfl) ?_
  refine lv_iload_n hx hb dX7_candidate_1 rfl (lv_at hl 1 rfl) ?_
  refine lv_bipush (v := nI (64)) hx hb dX7_candidate_2 (by decide +kernel) ?_
  refine lv_idiv hx hb dX7_candidate_4 (by decide +kernel) ?_
  refine tq (pk_div (a := i) (d := 64) (by omega) (by decide) (by decide)) ?_
  refine lv_iload_n hx hb dX7_candidate_5 rfl (lv_at hl 1 rfl) ?_
  refine lv_bipush (v := nI (8)) hx hb dX7_candidate_6 (by decide +kernel) ?_
  refine lv_idiv hx hb dX7_candidate_8 (by decide +kernel) ?_
  refine tq (pk_div (a := i) (d := 8) (by omega) (by decide) (by decide)) ?_
  refine lv_bipush (v := nI (8)) hx hb dX7_candidate_9 (by decide +kernel) ?_
  refine lv_irem hx hb dX7_candidate_11 (by decide +kernel) ?_
  refine tq (pk_rem (a := (i) / 8) (d := 8) (by omega) (by decide) (by decide)) ?_
  refine lv_iload_n hx hb dX7_candidate_12 rfl (lv_at hl 1 rfl) ?_
  refine lv_bipush (v := nI (8)) hx hb dX7_candidate_13 (by decide +kernel) ?_
  refine lv_irem hx hb dX7_candidate_15 (by decide +kernel) ?_
  refine tq (pk_rem (a := i) (d := 8) (by omega) (by decide) (by decide)) ?_
  have hFc : ∀ q, va_A (xW cI cP a o f g pa tv n pd pk pv) H.size q → A q := fun q h => h.elim (fun ⟨j, e, hj⟩ => hD.2 j (q, e) hj) (fun h => hA q (Nat.le_trans hS.1 h))
  refine va_callr (va_runV (As := [.int (nI ((i) / 64)), .int (nI (((i) / 8) % 8)), .int (nI ((i) % 8))]) (rest := []) ⟨hx, hb, hml, hown, hts⟩ (c7_trial l dC dI cI cP a o f g pa tv n pd pk pv H.size  (nI (((i) / 8) % 8)) (nI ((i) % 8)) ((i) / 64) (by omega)) (cwV 3 hts gX7_candidate_X7_trial rfl rfl rfl (by decide +kernel) ⟨Nat.le_of_ble_eq_true rfl, Nat.le_of_ble_eq_true rfl⟩) ⟨fun a U g mk q => by obtain ⟨q0, q1, qP, qK, qN, qD⟩ := q; exact ⟨q0, q1, qP, va_K.moved (u := U) (U := U.calling g mk a) (Vm.Alike.refl U.vm) qK, xN.same (u := U) (U := U.calling g mk a) rfl qN, qD⟩, va_recv hK hP (ci := 7) (q0 := 0) rfl rfl, fun U hU hW => ⟨rfl, by rw [hU], by rw [hU]; exact hP, va_K.moved hW.alike hK, xN.warm hW hN, hD.weaken (fun _ _ _ _ => trivial)⟩⟩ rfl rfl hl.1 rfl (lv_room (Nat.le_of_ble_eq_true rfl)) dX7_candidate_16 ⟨Nat.le_of_ble_eq_true rfl, Nat.le_of_ble_eq_true rfl⟩) hS (fun q _ h => hFc q h) hFc (fun u ra t H1 locs ht hvm hw hB hz1 hk1 hS => ?_)
  have hw : u = ((f, g, pa, su tv ((i) / 64) (su (su (tv ((i) / 64)) 0 (nI (((i) / 8) % 8))) 1 (nI ((i) % 8))), n, pd, pk, pv) : XSt) := hw
  subst hw
  obtain ⟨hra, hP1, hK1, hD1⟩ := hB
  rw [ht] at hP1
  have hra : ra = o (11 + ((i) / 64)) := hra
  subst hra
  have hP : va_P (dC, dI) vwCl (xW cI cP a o f g pa (su tv ((i) / 64) (su (su (tv ((i) / 64)) 0 (nI (((i) / 8) % 8))) 1 (nI ((i) % 8)))) n pd pk pv) H1 := hP1
  have hD : va_D A (xW cI cP a o f g pa (su tv ((i) / 64) (su (su (tv ((i) / 64)) 0 (nI (((i) / 8) % 8))) 1 (nI ((i) % 8)))) n pd pk pv) := hD1.weaken (fun _ _ _ h => hFc _ h)
  clear hP1 hD1 hK1 hFc hk1 hz1
  generalize H1 = H at hP hS ⊢
  have hP : va_P (dC, dI) vwCl (xW cI cP a o f g pa (su tv ((i) / 64) (su (su (tv ((i) / 64)) 0 (nI (((i) / 8) % 8))) 1 (nI ((i) % 8)))) n pd pk pv) H := hP
  have hD : va_D A (xW cI cP a o f g pa (su tv ((i) / 64) (su (su (tv ((i) / 64)) 0 (nI (((i) / 8) % 8))) 1 (nI ((i) % 8)))) n pd pk pv) := hD
  have hP9 : va_P (dC, dI) vwCl (xW cI cP a o f g pa (su tv ((i) / 64) (su (su (tv ((i) / 64)) 0 (nI (((i) / 8) % 8))) 1 (nI ((i) % 8)))) n pd pk pv) H := hP
  exact W.aret (v := .ref (o (11 + ((i) / 64)))) hx hb hr (Or.inl ⟨_, rfl⟩) (Or.inr ⟨_, rfl⟩) (fun t ht hW => ⟨⟨(f, g, pa, su tv ((i) / 64) (su (su (tv ((i) / 64)) 0 (nI (((i) / 8) % 8))) 1 (nI ((i) % 8))), n, pd, pk, pv), o (11 + ((i) / 64)), rfl, (by show ((f, g, pa, su tv ((i) / 64) (su (su (tv ((i) / 64)) 0 (nI (((i) / 8) % 8))) 1 (nI ((i) % 8))), n, pd, pk, pv) : XSt) = (f, g, pa, xCa tv i, n, pd, pk, pv); rfl), rfl, by rw [ht]; exact hP9, va_K.moved hW.alike hK, hD⟩, hS.F ht⟩) hS.2.2 dX7_candidate_19

set_option maxHeartbeats 1200000 in
set_option maxRecDepth 100000 in
theorem c7_worstLeft (l : Launch) (dC : Nat → ClassId) (dI : Nat → Nat → Nat) (cI cP : ClassId) (a : Nat) (o : Nat → Nat) (f : Nat → Int32) (g : Nat → Nat → Int32) (pa : Nat → Option Nat) (tv : Nat → Nat → Int32) (n : Nat) (pd pk : Nat → Nat) (pv : Nat → Nat → Int32) (i : Nat) (hi : i < 8) : Met l yX7_worstLeft wsX7_worstLeft ({ frames := 1, cells := 0, slots := 0, locals := 21 } : Room) (va_Pc [.ref (a), .int (nI (i))] (fun U => va_P (dC, dI) vwCl (xW cI cP a o f g pa tv n pd pk pv) U.heap ∧ va_K (dC, dI) vwCl [(cI, .int), (cP, .object RX4)] U ∧ xN U)) (vp_Si (fun r => r = xWo g i 8)) 0 0 (fun _ => False) := by
  refine Met.ofW (cc := cX7_worstLeft) (maxL := 4) (ret := (some .int)) (by decide) rfl ?_
  intro p_ e_ s m args below meth c_0 s₁ B hml hv
  obtain ⟨rfl, hP, hK, hN⟩ := hv
  have hx := B.exec
  have hb := B.bytes
  have hr := B.returns
  have hts := atoms_spec (ws := wsX7_worstLeft) B.pre
  have hown : s.vm.findClass RX7 = some m.cls := findClass_of_methodNamed B.named
  have hlocks := B.notSynchronized
  have hP : va_P (dC, dI) vwCl (xW cI cP a o f g pa tv n pd pk pv) s.heap := hP
  have hl := lv_entry ([.ref (a), .int (nI (i))]) (n := 4) (Nat.le_of_ble_eq_true rfl)
  rw [lg_entry_eq]
  generalize (lg_sl ([.ref (a), .int (nI (i))]) ++ List.replicate (4 - (lg_sl ([.ref (a), .int (nI (i))])).length) Slot.unset).toArray = ls at hl ⊢
  have hl : lv_has ls 4 [(0, .ref (a)), (1, .int (nI (i)))] := hl
  have hin7 : ∀ w ∈ wsX70, w ∈ wsX7_worstLeft := fun _ h => List.mem_cons_of_mem _ (List.mem_append_right _ h)
  have hW0 := hts (.fieldLink RX7 36 "EachEye" "sayings" "[I") (by decide +kernel)
  have hW1 := hts (.methodLink RX7 248 Lib.Math.max.name) (by decide +kernel)
  have hW2 := hts (.static Lib.Math.max.name) (by decide +kernel)
  have hW3 := hts (.initialized "java/lang/Math") (by decide +kernel)
  have hW4 := hts (.code Lib.Math.max.name Lib.Math.max.code 2 (some .int)) (by decide +kernel)
  refine lv_iconst (v := nI (0)) hx hb dX7_worstLeft_0 (by decide +kernel) ?_
  refine lv_istore_n (lv' := [(2, .int (nI (0))), (0, .ref (a)), (1, .int (nI (i)))]) hx hb dX7_worstLeft_1 rfl hl (by decide) rfl (fun ls hl => ?_)
  refine lv_iconst (v := nI (0)) hx hb dX7_worstLeft_2 (by decide +kernel) ?_
  refine lv_istore_n (lv' := [(3, .int (nI (0))), (2, .int (nI (0))), (0, .ref (a)), (1, .int (nI (i)))]) hx hb dX7_worstLeft_3 rfl hl (by decide) rfl (fun ls hl => ?_)
  have e0_2 : (nI (0)) = xWo g i 0 := rfl
  refine lp_ro (fun j : Nat => 8 - j) (fun j : Nat => j ≤ 8) (fun j : Nat => [(0, .ref (a)), (1, .int (nI (i))), (2, .int (xWo g i j)), (3, .int (nI (j)))]) (0) (by omega) (by show lv_has ls 4 [(0, .ref (a)), (1, .int (nI (i))), (2, .int (xWo g i 0)), (3, .int (nI (0)))]; rw [← e0_2]; exact lv_sub hl [2, 3, 1, 0] rfl) (fun j hI ih_4 ls hl => ?_)
  have hI : j ≤ 8 := hI
  have hl : lv_has ls 4 [(0, .ref (a)), (1, .int (nI (i))), (2, .int (xWo g i j)), (3, .int (nI (j)))] := hl
  refine lv_iload_n hx hb dX7_worstLeft_4 rfl (lv_at hl 3 rfl) ?_
  refine lv_bipush (v := nI (8)) hx hb dX7_worstLeft_5 (by decide +kernel) ?_
  refine lv_icmp_ge (tgt := 32) hx hb dX7_worstLeft_7 (by decide) (fun c_1 => ?_) (fun c_1 => ?_)
  · skip
    rw [nI_leI (a := 8) (b := j) (by omega) (by omega)] at c_1
    have hE : 8 = j := by omega
    subst hE
    refine lv_iload_n hx hb dX7_worstLeft_32 rfl (lv_at hl 2 rfl) ?_
    exact W.iret (v := xWo g i 8) hx hb hr (fun t ht hW => ⟨xWo g i 8, rfl, (by show xWo g i 8 = xWo g i 8; rfl), ht⟩) (fun _ h => by cases h) dX7_worstLeft_33
  · skip
    rw [nI_leI (a := 8) (b := j) (by omega) (by omega)] at c_1
    refine lv_iload_n hx hb dX7_worstLeft_10 rfl (lv_at hl 2 rfl) ?_
    refine lv_aload_n hx hb dX7_worstLeft_11 rfl (lv_at hl 0 rfl) ?_
    refine va_get (D := (dC, dI)) (ci := 7) (v := .ref (o 5)) (C := RX7) (T := TX7) (N := 16) hx hb hts hin7 hown hK hP 0 rfl rfl 5 (by decide) hW0 (fun _ h9 => h9) rfl dX7_worstLeft_12 ?_
    refine lv_bipush (v := nI (8)) hx hb dX7_worstLeft_15 (by decide +kernel) ?_
    refine lv_iload_n hx hb dX7_worstLeft_17 rfl (lv_at hl 1 rfl) ?_
    refine lv_imul hx hb dX7_worstLeft_18 ?_
    refine tq (pk_mul (8) (i)) ?_
    refine lv_iload_n hx hb dX7_worstLeft_19 rfl (lv_at hl 3 rfl) ?_
    refine lv_iadd hx hb dX7_worstLeft_20 ?_
    refine tq (nI_add (8 * (i)) (j)) ?_
    refine ald hx hb hK hP (f := g 6) (k := 8 * (i) + j) 11 0 rfl rfl rfl (by omega) (by decide) dX7_worstLeft_21 ?_
    refine va_mmax hx hb (hml.trans hl.1.symm) hown hW1 hW2 hW3 hW4 (Nat.le_of_ble_eq_true rfl) (Nat.le_of_ble_eq_true rfl) (Nat.le_of_ble_eq_true rfl) (Nat.le_of_ble_eq_true rfl) dX7_worstLeft_22 ?_
    refine lv_istore_n (lv' := [(2, .int (if (xWo g i j) < (g 6 (8 * (i) + j)) then (g 6 (8 * (i) + j)) else (xWo g i j))), (0, .ref (a)), (1, .int (nI (i))), (3, .int (nI (j)))]) hx hb dX7_worstLeft_25 rfl hl (by decide) rfl (fun ls hl => ?_)
    refine lv_iinc (v := nI (j + 1)) (lv' := [(3, .int (nI (j + 1))), (2, .int (if (xWo g i j) < (g 6 (8 * (i) + j)) then (g 6 (8 * (i) + j)) else (xWo g i j))), (0, .ref (a)), (1, .int (nI (i)))]) hx hb dX7_worstLeft_26 hl (k := 3) rfl (nI_1 _) (by decide) rfl (fun ls hl => ?_)
    refine lv_goto (tgt := 4) hx hb dX7_worstLeft_29 (by decide) ?_
    have e1_2 : (if (xWo g i j) < (g 6 (8 * (i) + j)) then (g 6 (8 * (i) + j)) else (xWo g i j)) = xWo g i (j + 1) := by rfl
    exact ih_4 (j + 1) ls (by show _ < _; omega) (by show _; omega) (by show lv_has ls 4 [(0, .ref (a)), (1, .int (nI (i))), (2, .int (xWo g i (j + 1))), (3, .int (nI ((j + 1))))]; rw [← e1_2]; exact lv_sub hl [2, 3, 1, 0] rfl)
