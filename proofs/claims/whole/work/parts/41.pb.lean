/-! the pure part: layers, people, inks, words -/
theorem xLy_ok {z y w : Int32} (hz : ok7 z) (hw : 0 ≤ w.toInt) : ∀ j, j ≤ 6 → 0 ≤ (xLyT z y w j).toInt ∧ (∀ c, c < 6 → xHa (xLyT z y w j) c = if c < j then (if (y >>> (nI c &&& 31)) &&& nI 1 = nI 1 then xHa w c ||| z else xHa w c) else xHa w c) ∧ xLyN z y w j = sm (fun c => if (if (y >>> (nI c &&& 31)) &&& nI 1 = nI 1 then xHa w c ||| z else xHa w c) = xHa w c then nI 0 else nI 1) j := by
  intro j
  induction j with
  | zero =>
    intro _
    exact ⟨hw, fun c _ => by rw [if_neg (by omega)]; rfl, rfl⟩
  | succ j ih =>
    intro hj
    obtain ⟨h1, h2, h3⟩ := ih (by omega)
    have hjj : xHa (xLyT z y w j) j = xHa w j := by rw [h2 j (by omega), if_neg (by omega)]
    have ho : ok7 (xHa w j ||| z) := ok7_or (ok7_xHa _ _) hz
    have eT : xLyT z y w (j + 1) = if (y >>> (nI j &&& 31)) &&& nI 1 = nI 1 then (if xHa (xLyT z y w j) j ||| z = xHa (xLyT z y w j) j then xLyT z y w j else xWh (xLyT z y w j) j (xHa (xLyT z y w j) j ||| z)) else xLyT z y w j := rfl
    have eN : xLyN z y w (j + 1) = if (y >>> (nI j &&& 31)) &&& nI 1 = nI 1 then (if xHa (xLyT z y w j) j ||| z = xHa (xLyT z y w j) j then xLyN z y w j else xLyN z y w j + 1) else xLyN z y w j := rfl
    rw [eT, eN, hjj, sm, ← h3]
    by_cases hb : (y >>> (nI j &&& 31)) &&& nI 1 = nI 1
    · rw [if_pos hb, if_pos hb, if_pos hb]
      by_cases he : xHa w j ||| z = xHa w j
      · rw [if_pos he, if_pos he, if_pos he]
        refine ⟨h1, fun c hc => ?_, (Int32.add_zero _).symm⟩
        rw [h2 c hc]
        by_cases hcj : c = j
        · subst hcj
          rw [if_neg (by omega), if_pos (by omega), if_pos hb, he]
        · by_cases hlt : c < j
          · rw [if_pos hlt, if_pos (show c < j + 1 by omega)]
          · rw [if_neg hlt, if_neg (show ¬ c < j + 1 by omega)]
      · rw [if_neg he, if_neg he, if_neg he]
        refine ⟨nn_xWh h1 (by omega) ho, fun c hc => ?_, rfl⟩
        rw [xHa_xWh _ (by omega) hc ho]
        by_cases hcj : c = j
        · subst hcj
          rw [if_pos rfl, if_pos (by omega), if_pos hb]
        · rw [if_neg hcj, h2 c hc]
          by_cases hlt : c < j
          · rw [if_pos hlt, if_pos (show c < j + 1 by omega)]
          · rw [if_neg hlt, if_neg (show ¬ c < j + 1 by omega)]
    · rw [if_neg hb, if_neg hb, if_neg hb, if_pos rfl]
      refine ⟨h1, fun c hc => ?_, (Int32.add_zero _).symm⟩
      rw [h2 c hc]
      by_cases hcj : c = j
      · subst hcj
        rw [if_neg (by omega), if_pos (by omega), if_neg hb]
      · by_cases hlt : c < j
        · rw [if_pos hlt, if_pos (show c < j + 1 by omega)]
        · rw [if_neg hlt, if_neg (show ¬ c < j + 1 by omega)]
section PURE
variable {N k1 n k8 c q d : Nat} {f : Nat → Int32} {g : Nat → Nat → Int32} {pa : Nat → Option Nat} {tq : Nat → Nat → Int32} {pd pk : Nat → Nat} {pv : Nat → Nat → Int32} {f' : Nat → Int32} {g' : Nat → Nat → Int32} {h' : Int64}
/-- there is a sign where there is an ink, or a person -/
theorem sg_ink (R : rSign n k8 f f' g') (h : 0 < k8) : 0 ≤ (f 6).toInt ∧ f' 2 = nI 1 ∧ ∀ c, c < 6 → xHa (f 6) c = g' 5 c := by
  rcases R.1 with ⟨h1, _⟩ | h1
  · exact absurd (R.2 h1).2 (by omega)
  · exact h1
theorem sg_per (R : rSign n k8 f f' g') (h : 0 < n) : 0 ≤ (f 6).toInt ∧ f' 2 = nI 1 ∧ ∀ c, c < 6 → xHa (f 6) c = g' 5 c := by
  rcases R.1 with ⟨h1, _⟩ | h1
  · exact absurd (R.2 h1).1 (by omega)
  · exact h1
theorem p_layer (R : RR N k1 n k8 c q d f g pa pd pk pv f' g') (x y : Int32) : (xp3 (xLayer f g k8 x y) pa tq n pd pk pv).1 = (mLayer f' g' h' k8 x y).1 ∧ RS (N + 1) (xp3 (xLayer f g k8 x y) pa tq n pd pk pv).2 (mLayer f' g' h' k8 x y).2 := by
  unfold xLayer mLayer xp3
  by_cases h1 : 0 ≤ x.toInt ∧ x.toInt ≤ (k8 : Int) - 1
  · rw [if_pos (show xOk x k8 from ⟨h1.1, by omega⟩), if_pos h1]
    by_cases h2 : 0 ≤ y.toInt ∧ y.toInt ≤ 63
    · rw [if_neg (show ¬ y.toInt < 0 by omega), if_pos (show y.toInt < ((64 : Nat) : Int) by omega), if_pos h2]
      obtain ⟨R1, R2, R3, R4, R5, R6, R7⟩ := R
      obtain ⟨s1, s2, s3⟩ := sg_ink R2 (by omega)
      obtain ⟨i1, i2⟩ := R3.2.2.2 x.toInt.toNat (by omega)
      obtain ⟨l1, l2, l3⟩ := xLy_ok (y := y) i2 s1 6 (Nat.le_refl 6)
      have e : ∀ j, j < 6 → (if (y >>> (nI j &&& 31)) &&& nI 1 = nI 1 then xHa (f 6) j ||| g 1 x.toInt.toNat else xHa (f 6) j) = mLay g' x.toInt.toNat y j := by
        intro j hj
        rw [s3 j hj, i1]
        rfl
      refine ⟨?_, k1, k8, c, q, d, R1, ⟨Or.inr ⟨l1, s2, fun j hj => ?_⟩, fun z => absurd z (nn_m1 l1)⟩, R3, ⟨?_, R4.2.1, R4.2.2.1, by have := R4.2.2.2.1; omega, R4.2.2.2.2⟩, R5, R6, R7⟩
      · show xLyN _ _ _ 6 = _
        rw [l3]
        apply sm_c
        intro j hj
        rw [e j hj, s3 j hj]
      · show xHa (xLyT (g 1 x.toInt.toNat) y (f 6) 6) j = fil (g' 5) (mLay g' x.toInt.toNat y) 6 j
        rw [l2 j hj, if_pos hj, fil, if_pos hj, e j hj]
      · show f 9 + nI 1 = f' 3 + nI 1
        rw [R4.1]
    · rw [if_neg h2]
      by_cases h3 : y.toInt < 0
      · rw [if_pos h3]; exact ⟨rfl, R.rs1⟩
      · rw [if_neg h3, if_neg (by omega)]; exact ⟨rfl, R.rs1⟩
  · rw [if_neg h1, if_neg (show ¬ xOk x k8 from fun z => h1 ⟨z.1, by have := z.2; omega⟩)]
    exact ⟨rfl, R.rs1⟩
theorem xIni_3 (v : Nat → Int32) (x y : Int32) : (su (su (xIni v) 0 x) 1 y) 0 = x ∧ (su (su (xIni v) 0 x) 1 y) 1 = y ∧ (su (su (xIni v) 0 x) 1 y) 2 = (-1) := ⟨rfl, rfl, rfl⟩
theorem p_person (R : RR N k1 n k8 c q d f g pa pd pk pv f' g') (x y z : Int32) {r : Int32} {u : XSt} (hu : xPerP f g pa tq n pd pk pv x y z r u) : r = (mPerson f' g' h' n x y z).1 ∧ RS (N + 1) u (mPerson f' g' h' n x y z).2 := by
  obtain ⟨hr, hu⟩ := hu
  subst hr
  unfold xPerson mPerson
  by_cases h1 : 0 ≤ x.toInt ∧ x.toInt ≤ 4
  · rw [if_pos h1, if_pos h1]
    by_cases h2 : 0 ≤ y.toInt ∧ y.toInt ≤ 7
    · rw [if_pos h2, if_pos h2]
      by_cases h3 : 0 ≤ z.toInt ∧ z.toInt ≤ 7
      · rw [if_pos h3, if_pos h3]
        by_cases h4 : f 6 = (-1)
        · rw [if_pos h4, if_pos (R.2.1.1.neg.mp h4)]
          rw [if_neg (fun z9 => z9.2.2.2.2.2.2.1 h4)] at hu
          subst hu
          exact ⟨rfl, R.rs1⟩
        · rw [if_neg h4, if_neg (show ¬ f' 2 = nI 0 from fun z9 => h4 (R.2.1.1.neg.mpr z9))]
          by_cases h5 : n = 4
          · rw [if_neg (by omega), if_pos h5]
            rw [if_neg (by omega)] at hu
            subst hu
            exact ⟨rfl, R.rs1⟩
          · obtain ⟨R1, R2, R3, R4, ⟨b1, b2, b3, b4⟩, R6, ⟨a1, a2⟩⟩ := R
            rw [if_pos (by omega), if_neg h5]
            rw [if_pos ⟨h1.1, h1.2, h2.1, h2.2, h3.1, h3.2, h4, by omega⟩] at hu
            obtain ⟨qn, rfl⟩ := hu
            refine ⟨rfl, k1, k8, c, q, d, R1, ⟨R2.1, fun z9 => absurd z9 h4⟩, R3, R4.up, ⟨by show n + 1 ≤ 4; omega, rfl, rfl, ?_⟩, R6, a1, ?_⟩
            · intro i hi
              have hi : i < n + 1 := hi
              show su pa n (some qn) i = some (su pd n qn i) ∧ su pk n x.toInt.toNat i < 5 ∧ PR (su pk n x.toInt.toNat i) (su pv n (su (su (xIni (fun _ => 0)) 0 y) 1 z) i 0) (su pv n (su (su (xIni (fun _ => 0)) 0 y) 1 z) i 1) (su pv n (su (su (xIni (fun _ => 0)) 0 y) 1 z) i 2) (fun j => su (su (su (su (g' 8) (10 * n) x) (10 * n + 1) y) (10 * n + 2) z) (10 * n + 3) (nI 0) (10 * i + j))
              by_cases he : i = n
              · subst he
                rw [su_s, su_s, su_s, su_s]
                refine ⟨rfl, by omega, ?_, ?_, ?_, h2, h3, Or.inl ⟨rfl, ?_⟩⟩
                · show su (su (su (su (g' 8) (10 * i) x) (10 * i + 1) y) (10 * i + 2) z) (10 * i + 3) (nI 0) (10 * i + 0) = _
                  rw [su_n _ _ (by omega), su_n _ _ (by omega), su_n _ _ (by omega), Nat.add_zero, su_s]
                  exact ix_int h1.1
                · show su (su (su (su (g' 8) (10 * i) x) (10 * i + 1) y) (10 * i + 2) z) (10 * i + 3) (nI 0) (10 * i + 1) = _
                  rw [su_n _ _ (by omega), su_n _ _ (by omega), su_s]; rfl
                · show su (su (su (su (g' 8) (10 * i) x) (10 * i + 1) y) (10 * i + 2) z) (10 * i + 3) (nI 0) (10 * i + 2) = _
                  rw [su_n _ _ (by omega), su_s]; rfl
                · show su (su (su (su (g' 8) (10 * i) x) (10 * i + 1) y) (10 * i + 2) z) (10 * i + 3) (nI 0) (10 * i + 3) = _
                  rw [su_s]
              · rw [su_n _ _ he, su_n _ _ he, su_n _ _ he, su_n _ _ he]
                obtain ⟨e1, e2, e3⟩ := b4 i (by omega)
                refine ⟨e1, e2, e3.c (fun j hj => ?_)⟩
                show su (su (su (su (g' 8) (10 * n) x) (10 * n + 1) y) (10 * n + 2) z) (10 * n + 3) (nI 0) (10 * i + j) = _
                rw [su_n _ _ (by omega), su_n _ _ (by omega), su_n _ _ (by omega), su_n _ _ (by omega)]
            · rcases a2 with a2 | ⟨g1, g2, g3, g4, g5, ⟨m9, m1, m2, m3, m4⟩, g7, g8⟩
              · exact Or.inl a2
              · refine Or.inr ⟨g1, g2, g3, g4, g5, ⟨m9, by show m9 ≤ n + 1; omega, m2, m3, fun i hi => ?_⟩, g7, g8⟩
                show PR (su pk n x.toInt.toNat i) (su pv n (su (su (xIni (fun _ => 0)) 0 y) 1 z) i 3) (su pv n (su (su (xIni (fun _ => 0)) 0 y) 1 z) i 4) (su pv n (su (su (xIni (fun _ => 0)) 0 y) 1 z) i 5) (fun j => g' 21 (10 * i + j))
                rw [su_n _ _ (by omega), su_n _ _ (by omega)]
                exact m4 i hi
      · rw [if_neg h3, if_neg h3]
        rw [if_neg (by omega)] at hu
        subst hu
        exact ⟨rfl, R.rs1⟩
    · rw [if_neg h2, if_neg h2]
      rw [if_neg (by omega)] at hu
      subst hu
      exact ⟨rfl, R.rs1⟩
  · rw [if_neg h1, if_neg h1]
    rw [if_neg (by omega)] at hu
    subst hu
    exact ⟨rfl, R.rs1⟩
/-- what a person sees -/
theorem see_eq (R : rPpl n f pa pd pk pv f' g') {i : Nat} (hi : i < n) (x : Int32) : mS g' i x = xSee pk pv i x := by
  obtain ⟨_, _, h0, h1, h2, _⟩ := R.2.2.2 i hi
  unfold mS xSee
  have h0 : g' 8 (10 * i + 0) = _ := h0
  have h1 : g' 8 (10 * i + 1) = _ := h1
  have h2 : g' 8 (10 * i + 2) = _ := h2
  rw [Nat.add_zero] at h0
  rw [h0, h1, h2]
theorem ok_iff (x : Int32) (n : Nat) : xOk x n ↔ (0 ≤ x.toInt ∧ x.toInt ≤ (n : Int) - 1) := ⟨fun h => ⟨h.1, by have := h.2; omega⟩, fun h => ⟨h.1, by have := h.2; omega⟩⟩
theorem xTrue_e (k : Nat) (l r : Int32) : ∀ j, xTrue k l r j = sm (fun j => if see (nI k) l r (nI j) = nI j then 1 else 0) j := by
  intro j
  induction j with
  | zero => rfl
  | succ j ih =>
    rw [xTrue, sm, ← ih]
    by_cases h : see (nI k) l r (nI j) = nI j
    · rw [if_pos h, if_pos h]
    · rw [if_neg h, if_neg h, Int32.add_zero]
theorem tell_eq (R2 : rSign n k8 f f' g') (R : rPpl n f pa pd pk pv f' g') {i : Nat} (hi : i < n) (y : Int32) : xAb f pk pv i y = mTell g' i y := by
  obtain ⟨s1, s2, s3⟩ := sg_per R2 (by omega)
  obtain ⟨_, hk, h0, h1, h2, h3, h4, hT⟩ := R.2.2.2 i hi
  have h0 : g' 8 (10 * i + 0) = _ := h0
  have h1 : g' 8 (10 * i + 1) = _ := h1
  have h2 : g' 8 (10 * i + 2) = _ := h2
  unfold xAb mTell
  by_cases c1 : 10 ≤ y.toInt ∧ y.toInt ≤ 15
  · rw [if_pos (show 10 ≤ y.toInt ∧ y.toInt < 16 by omega), if_neg (show ¬ (0 ≤ y.toInt ∧ y.toInt ≤ 2) by omega), if_pos c1, see_eq R hi, s3 _ (by omega)]
  · rw [if_neg (show ¬ (10 ≤ y.toInt ∧ y.toInt < 16) by omega)]
    by_cases c2 : 20 ≤ y.toInt ∧ y.toInt ≤ 25
    · rw [if_pos (show 20 ≤ y.toInt ∧ y.toInt < 26 by omega), if_neg (show ¬ (0 ≤ y.toInt ∧ y.toInt ≤ 2) by omega), if_neg c1, if_pos c2]
      rcases hT with ⟨t1, t2⟩ | ⟨t1, t2, t3⟩
      · have t2 : g' 8 (10 * i + 3) = nI 0 := t2
        rw [if_pos t1, if_neg (show ¬ g' 8 (10 * i + 3) = nI 1 by rw [t2]; decide +kernel)]
      · have t2 : g' 8 (10 * i + 3) = nI 1 := t2
        rw [if_neg (nn_m1 t1), if_pos t2, t3 _ (by omega)]
        show g' 8 (10 * i + (4 + (y.toInt.toNat - 20))) = _
        congr 1
        omega
    · rw [if_neg (show ¬ (20 ≤ y.toInt ∧ y.toInt < 26) by omega)]
      unfold xAb3
      by_cases c3 : 0 ≤ y.toInt ∧ y.toInt ≤ 2
      · rw [if_pos c3]
        by_cases d0 : y.toInt = 0
        · rw [if_pos d0, d0]; exact h0.symm
        · rw [if_neg d0]
          by_cases d1 : y.toInt = 1
          · rw [if_pos d1, d1]; exact h1.symm
          · rw [if_neg d1, if_pos (show y.toInt = 2 by omega), show y.toInt.toNat = 2 by omega]; exact h2.symm
      · rw [if_neg c3, if_neg c1, if_neg c2, if_neg (show ¬ y.toInt = 0 by omega), if_neg (show ¬ y.toInt = 1 by omega), if_neg (show ¬ y.toInt = 2 by omega)]
        have e3 : y.toInt = 3 ↔ y = nI 3 := by rw [eqi, tn (n := 3) (by decide)]; rfl
        by_cases d3 : y.toInt = 3
        · rw [if_pos d3, if_pos (e3.mp d3), xTrue_e]
          apply sm_c
          intro j _
          rw [see_eq R hi, xSee]
        · rw [if_neg d3, if_neg (fun z => d3 (e3.mpr z))]
theorem p_about (R : RR N k1 n k8 c q d f g pa pd pk pv f' g') (x y : Int32) : xAbout f n pk pv x y = mAbout g' n x y := by
  unfold xAbout mAbout
  by_cases h : 0 ≤ x.toInt ∧ x.toInt ≤ (n : Int) - 1
  · rw [if_pos ((ok_iff x n).mpr h), if_pos h]
    exact tell_eq R.2.1 R.2.2.2.2.1 (by omega) y
  · rw [if_neg (fun z => h ((ok_iff x n).mp z)), if_neg h]
theorem is_eq : ∀ k, k < 5 → ∀ a, a < 5 → (xIs k (nI a) = nI 0 ↔ ¬ (a = 0 ∨ a = k ∨ (a = 3 ∧ k = 4))) := by decide +kernel
theorem p_as (R : RR N k1 n k8 c q d f g pa pd pk pv f' g') (x y : Int32) : xAs n pk x y = mAs g' n x y := by
  unfold xAs mAs
  by_cases h : 0 ≤ x.toInt ∧ x.toInt ≤ (n : Int) - 1
  · rw [if_pos ((ok_iff x n).mpr h), if_pos h]
    by_cases h2 : 0 ≤ y.toInt ∧ y.toInt ≤ 4
    · rw [if_pos h2, if_pos h2]
      obtain ⟨_, hk, h0, _⟩ := R.2.2.2.2.1.2.2.2 x.toInt.toNat (by omega)
      have h0 : g' 8 (10 * x.toInt.toNat + 0) = _ := h0
      rw [Nat.add_zero] at h0
      rw [h0, ← ix_int h.1]
      obtain ⟨a, ha, rfl⟩ : ∃ a, a < 5 ∧ y = nI a := ⟨y.toInt.toNat, by omega, ix_int h2.1⟩
      have hi := is_eq _ hk a ha
      have q0 := nI_eq (a := a) (b := 0) (by omega) (by omega)
      have q1 := nI_eq (a := a) (b := pk x.toInt.toNat) (by omega) (by omega)
      have q3 := nI_eq (a := a) (b := 3) (by omega) (by omega)
      have q4 := nI_eq (a := pk x.toInt.toNat) (b := 4) (by omega) (by omega)
      by_cases i0 : xIs (pk x.toInt.toNat) (nI a) = nI 0
      · have hn := hi.mp i0
        rw [if_pos i0, if_neg (fun z => hn (Or.inl (q0.mp z))), if_neg (fun z => hn (Or.inr (Or.inl (q1.mp z))))]
        by_cases a3 : a = 3
        · rw [if_pos (q3.mpr a3), if_neg (fun z => hn (Or.inr (Or.inr ⟨a3, q4.mp z⟩)))]
        · rw [if_neg (fun z => a3 (q3.mp z))]
      · have hn := Classical.byContradiction (fun z => i0 (hi.mpr z))
        rw [if_neg i0]
        by_cases a0 : a = 0
        · rw [if_pos (q0.mpr a0)]
        · rw [if_neg (fun z => a0 (q0.mp z))]
          by_cases a1 : a = pk x.toInt.toNat
          · rw [if_pos (q1.mpr a1)]
          · rw [if_neg (fun z => a1 (q1.mp z)), if_pos (q3.mpr (by omega)), if_pos (q4.mpr (by omega))]
    · rw [if_neg h2, if_neg h2]
  · rw [if_neg (fun z => h ((ok_iff x n).mp z)), if_neg h]
theorem p_sees (R : RR N k1 n k8 c q d f g pa pd pk pv f' g') (x y : Int32) : xSees n pk pv x y = mSees g' n x y := by
  unfold xSees mSees
  by_cases h : 0 ≤ x.toInt ∧ x.toInt ≤ (n : Int) - 1
  · rw [if_pos ((ok_iff x n).mpr h), if_pos h, see_eq R.2.2.2.2.1 (by omega)]
  · rw [if_neg (fun z => h ((ok_iff x n).mp z)), if_neg h]
/-- one person's own values are set anew, and his row; nothing kept changes -/
theorem per_set (R : rPpl n f pa pd pk pv f' g') {i : Nat} (hi : i < n) {v : Nat → Int32} {F F' : Nat → Int32} {G : Nat → Nat → Int32} (hF : F 7 = f 7) (hF' : F' 6 = f' 6) (hG : ∀ i', i' ≠ i → i' < n → ∀ j, j < 10 → G 8 (10 * i' + j) = g' 8 (10 * i' + j)) (hv : PR (pk i) (v 0) (v 1) (v 2) (fun j => G 8 (10 * i + j))) : rPpl n F pa pd pk (su pv i v) F' G := by
  obtain ⟨b1, b2, b3, b4⟩ := R
  refine ⟨b1, hF.trans b2, hF'.trans b3, fun j hj => ?_⟩
  obtain ⟨e1, e2, e3⟩ := b4 j hj
  refine ⟨e1, e2, ?_⟩
  by_cases he : j = i
  · subst he; rw [su_s]; exact hv
  · rw [su_n _ _ he]; exact e3.c (fun l hl => hG j he hj l hl)
theorem kept_set (R : rKept c n k8 f g pk pv f' g') {i : Nat} {v : Nat → Int32} {F F' : Nat → Int32} {G : Nat → Nat → Int32} {G' : Nat → Nat → Int32} (hv : v 3 = pv i 3 ∧ v 4 = pv i 4 ∧ v 5 = pv i 5) (hF : F 12 = f 12 ∧ F 13 = f 13 ∧ F 14 = f 14 ∧ F 15 = f 15 ∧ F 18 = f 18) (hF' : F' 15 = f' 15 ∧ F' 4 = f' 4 ∧ F' 2 = f' 2 ∧ F' 16 = f' 16 ∧ F' 17 = f' 17 ∧ F' 18 = f' 18 ∧ F' 19 = f' 19) (hG : G 1 = g 1 ∧ G 4 = g 4 ∧ G 5 = g 5) (hG' : G' 20 = g' 20 ∧ G' 21 = g' 21 ∧ G' 22 = g' 22 ∧ G' 23 = g' 23) : rKept c n k8 F G pk (su pv i v) F' G' := by
  obtain ⟨f1, f2, f3, f4, f5⟩ := hF
  obtain ⟨m1, m2, m3, m4, m5, m6, m7⟩ := hF'
  obtain ⟨g1, g2, g3⟩ := hG
  obtain ⟨n1, n2, n3, n4⟩ := hG'
  unfold rKept rKeep at R ⊢
  rw [f1, f2, f3, f4, f5, m1, m2, m3, m4, m5, m6, m7, g1, g2, g3, n1, n2, n3, n4]
  obtain ⟨a1, a2⟩ := R
  refine ⟨a1, ?_⟩
  rcases a2 with a2 | ⟨k1, k2, k3, k4, k5, ⟨m9, l1, l2, l3, l4⟩, k7, k8⟩
  · exact Or.inl a2
  · refine Or.inr ⟨k1, k2, k3, k4, k5, ⟨m9, l1, l2, l3, fun j hj => ?_⟩, k7, k8⟩
    by_cases he : j = i
    · subst he; rw [su_s, hv.1, hv.2.1, hv.2.2]; exact l4 j hj
    · rw [su_n _ _ he]; exact l4 j hj
theorem p_eye (R : RR N k1 n k8 c q d f g pa pd pk pv f' g') (x y z : Int32) : (xEye pv n x y z).1 = (mEye f' g' h' n x y z).1 ∧ RS (N + 1) (f, g, pa, tq, n, pd, pk, (xEye pv n x y z).2) (mEye f' g' h' n x y z).2 := by
  unfold xEye mEye
  by_cases h : 0 ≤ x.toInt ∧ x.toInt ≤ (n : Int) - 1
  · rw [if_pos ((ok_iff x n).mpr h), if_pos h]
    by_cases h2 : 0 ≤ y.toInt ∧ y.toInt ≤ 1
    · rw [if_neg (show ¬ y.toInt < 0 by omega), if_neg (show ¬ ((1 : Nat) : Int) < y.toInt by omega), if_pos h2]
      by_cases h3 : 0 ≤ z.toInt ∧ z.toInt ≤ 7
      · rw [if_pos h3, if_pos h3]
        have hi : x.toInt.toNat < n := by omega
        generalize x.toInt.toNat = i at hi ⊢
        obtain ⟨R1, R2, R3, R4, R5, R6, R7⟩ := R
        obtain ⟨_, hk, w0, w1, w2, w3, w4, hT⟩ := R5.2.2.2 i hi
        have w1 : g' 8 (10 * i + 1) = _ := w1
        have w2 : g' 8 (10 * i + 2) = _ := w2
        have ey : y = nI 0 ↔ y.toInt = 0 := by rw [eqi, tn (n := 0) (by decide)]; rfl
        by_cases h4 : y.toInt = 0
        · rw [if_pos (ey.mpr h4), show y.toInt.toNat = 0 by omega, Nat.add_zero]
          refine ⟨w1.symm, k1, k8, c, q, d, R1, R2, R3, R4.up, per_set R5 hi rfl rfl (fun i' hi' _ j hj => ?_) ⟨?_, ?_, ?_, h3, w4, ?_⟩, R6, kept_set R7 ⟨rfl, rfl, rfl⟩ ⟨rfl, rfl, rfl, rfl, rfl⟩ ⟨rfl, rfl, rfl, rfl, rfl, rfl, rfl⟩ ⟨rfl, rfl, rfl⟩ ⟨rfl, rfl, rfl, rfl⟩⟩
          · show su (g' 8) (10 * i + 1) z (10 * i' + j) = _
            rw [su_n _ _ (by omega)]
          · show su (g' 8) (10 * i + 1) z (10 * i + 0) = _
            rw [su_n _ _ (by omega)]; exact w0
          · show su (g' 8) (10 * i + 1) z (10 * i + 1) = _
            rw [su_s]; rfl
          · show su (g' 8) (10 * i + 1) z (10 * i + 2) = _
            rw [su_n _ _ (by omega)]; exact w2
          · show TR (pv i 2) (su (g' 8) (10 * i + 1) z (10 * i + 3)) (fun c => su (g' 8) (10 * i + 1) z (10 * i + (4 + c)))
            rw [su_n _ _ (by omega)]
            exact hT.c (fun c hc => by rw [su_n _ _ (by omega)])
        · rw [if_neg (fun z9 => h4 (ey.mp z9)), show y.toInt.toNat = 1 by omega]
          refine ⟨w2.symm, k1, k8, c, q, d, R1, R2, R3, R4.up, per_set R5 hi rfl rfl (fun i' hi' _ j hj => ?_) ⟨?_, ?_, ?_, w3, h3, ?_⟩, R6, kept_set R7 ⟨rfl, rfl, rfl⟩ ⟨rfl, rfl, rfl, rfl, rfl⟩ ⟨rfl, rfl, rfl, rfl, rfl, rfl, rfl⟩ ⟨rfl, rfl, rfl⟩ ⟨rfl, rfl, rfl, rfl⟩⟩
          · show su (g' 8) (10 * i + 1 + 1) z (10 * i' + j) = _
            rw [su_n _ _ (by omega)]
          · show su (g' 8) (10 * i + 1 + 1) z (10 * i + 0) = _
            rw [su_n _ _ (by omega)]; exact w0
          · show su (g' 8) (10 * i + 1 + 1) z (10 * i + 1) = _
            rw [su_n _ _ (by omega)]; exact w1
          · show su (g' 8) (10 * i + 1 + 1) z (10 * i + 2) = _
            rw [su_s]; rfl
          · show TR (pv i 2) (su (g' 8) (10 * i + 1 + 1) z (10 * i + 3)) (fun c => su (g' 8) (10 * i + 1 + 1) z (10 * i + (4 + c)))
            rw [su_n _ _ (by omega)]
            exact hT.c (fun c hc => by rw [su_n _ _ (by omega)])
      · rw [if_neg h3, if_neg h3]; exact ⟨rfl, R.rs1⟩
    · rw [if_neg h2]
      by_cases h3 : y.toInt < 0
      · rw [if_pos h3]; exact ⟨rfl, R.rs1⟩
      · rw [if_neg h3, if_pos (by omega)]; exact ⟨rfl, R.rs1⟩
  · rw [if_neg (fun z => h ((ok_iff x n).mp z)), if_neg h]; exact ⟨rfl, R.rs1⟩
theorem p_ink (R : RR N k1 n k8 c q d f g pa pd pk pv f' g') (x : Int32) : (xp3 (xInkM f g k8 x) pa tq n pd pk pv).1 = (mInkM f' g' h' k8 x).1 ∧ RS (N + 1) (xp3 (xInkM f g k8 x) pa tq n pd pk pv).2 (mInkM f' g' h' k8 x).2 := by
  unfold xInkM mInkM xp3
  have ex : x = nI 0 ↔ x.toInt = 0 := by rw [eqi, tn (n := 0) (by decide)]; rfl
  by_cases h1 : 1 ≤ x.toInt ∧ x.toInt ≤ 7
  · rw [if_pos (show 0 ≤ x.toInt ∧ x.toInt ≤ 7 by omega), if_neg (fun z => by have := ex.mp z; omega), if_pos h1]
    by_cases h4 : f 6 = (-1)
    · rw [if_pos h4, if_pos (R.2.1.1.neg.mp h4)]; exact ⟨rfl, R.rs1⟩
    · rw [if_neg h4, if_neg (show ¬ f' 2 = nI 0 from fun z9 => h4 (R.2.1.1.neg.mpr z9))]
      obtain ⟨R1, R2, ⟨i1, i2, i3, i4⟩, R4, R5, R6, ⟨a1, a2⟩⟩ := R
      by_cases h5 : k8 = 5
      · rw [if_neg (by omega), if_pos h5]
        exact ⟨rfl, k1, k8, c, q, d, R1, R2, ⟨i1, i2, i3, i4⟩, R4.up, R5, R6, a1, a2⟩
      · rw [if_pos (by omega), if_neg h5]
        refine ⟨rfl, k1, k8 + 1, c, q, d, R1, ⟨R2.1, fun z9 => absurd z9 h4⟩, ⟨by omega, rfl, rfl, fun j hj => ?_⟩, R4.up, R5, R6, a1, ?_⟩
        · show su (g 1) k8 x j = su (g' 9) k8 x j ∧ ok7 (su (g 1) k8 x j)
          by_cases he : j = k8
          · rw [he, su_s, su_s]; exact ⟨rfl, by unfold ok7; omega⟩
          · rw [su_n _ _ he, su_n _ _ he]; exact i4 j (by omega)
        · rcases a2 with a2 | ⟨g1, g2, g3, g4, g5, g6, ⟨i9, m1, m2, m3, m4⟩, g8⟩
          · exact Or.inl a2
          · refine Or.inr ⟨g1, g2, g3, g4, g5, g6, ⟨i9, by omega, m2, m3, fun j hj => ?_⟩, g8⟩
            show su (g 1) k8 x j = _
            rw [su_n _ _ (by omega)]; exact m4 j hj
  · rw [if_neg h1]
    by_cases h2 : 0 ≤ x.toInt ∧ x.toInt ≤ 7
    · rw [if_pos h2, if_pos (ex.mpr (by omega))]; exact ⟨rfl, R.rs1⟩
    · rw [if_neg h2]; exact ⟨rfl, R.rs1⟩
theorem p_inkOf (R : RR N k1 n k8 c q d f g pa pd pk pv f' g') (x : Int32) : xInkOf g k8 x = mInkOf g' k8 x := by
  unfold xInkOf mInkOf
  by_cases h : 0 ≤ x.toInt ∧ x.toInt ≤ (k8 : Int) - 1
  · rw [if_pos ((ok_iff x k8).mpr h), if_pos h]
    exact (R.2.2.1.2.2.2 _ (by omega)).1
  · rw [if_neg (fun z => h ((ok_iff x k8).mp z)), if_neg h]
theorem told_eq (R : rPpl n f pa pd pk pv f' g') : sm (fun q9 => b2i (¬ pv q9 2 = (-1))) n = mWm g' n := by
  unfold mWm
  apply sm_c
  intro j hj
  obtain ⟨_, _, _, _, _, _, _, hT⟩ := R.2.2.2 j hj
  rcases hT with ⟨t1, t2⟩ | ⟨t1, t2, t3⟩
  · have t2 : g' 8 (10 * j + 3) = nI 0 := t2
    rw [t2, b2i, if_neg (fun z => z t1)]; rfl
  · have t2 : g' 8 (10 * j + 3) = nI 1 := t2
    rw [t2, b2i, if_pos (nn_m1 t1)]; rfl
theorem p_word (R : RR N k1 n k8 c q d f g pa pd pk pv f' g') (x : Int32) : (xWord f g pa tq n pd pk pv k1 x).1 = (mWord f' g' h' k1 n x).1 ∧ RS (N + 1) (xWord f g pa tq n pd pk pv k1 x).2 (mWord f' g' h' k1 n x).2 := by
  unfold xWord mWord
  by_cases h : 0 ≤ x.toInt ∧ x.toInt ≤ (n : Int) - 1
  · rw [if_pos ((ok_iff x n).mpr h), if_pos h]
    by_cases hs : k1 = 6 ∧ mfl g' k1 = 6
    · obtain ⟨t1, t2⟩ := tx_yes R.1 hs
      rw [if_neg (nn_m1 t1), if_pos hs]
      have hi : x.toInt.toNat < n := by omega
      generalize x.toInt.toNat = i at hi ⊢
      generalize xText g k1 = t at t1 t2 ⊢
      obtain ⟨R1, R2, R3, R4, R5, R6, R7⟩ := R
      obtain ⟨_, hk, w0, w1, w2, w3, w4, hT⟩ := R5.2.2.2 i hi
      have hp : ∀ j, j < 6 → mWordG g' i 8 (10 * i + (4 + j)) = g' 0 j - nI 48 := by
        intro j hj
        show su (pur (g' 8) (10 * i + 4) (fun j => g' 0 j - nI 48) 6) (10 * i + 3) (nI 1) (10 * i + (4 + j)) = _
        rw [su_n _ _ (by omega), pur, if_pos (by omega), show 10 * i + (4 + j) - (10 * i + 4) = j by omega]
      have ho : ∀ i' j, j < 10 → (i' ≠ i ∨ j < 3) → mWordG g' i 8 (10 * i' + j) = g' 8 (10 * i' + j) := by
        intro i' j hj hne
        show su (pur (g' 8) (10 * i + 4) (fun j => g' 0 j - nI 48) 6) (10 * i + 3) (nI 1) (10 * i' + j) = _
        rw [su_n _ _ (by omega), pur, if_neg (by omega)]
      have hR5 : rPpl n (su f 16 (nI 0)) pa pd pk (su pv i (su (pv i) 2 t)) (su f' 1 (nI 0)) (mWordG g' i) := by
        refine per_set R5 hi rfl rfl (fun i' hi' _ j hj => ho i' j hj (Or.inl hi')) ⟨(ho i 0 (by omega) (Or.inr (by omega))).trans w0, (ho i 1 (by omega) (Or.inr (by omega))).trans w1, (ho i 2 (by omega) (Or.inr (by omega))).trans w2, w3, w4, Or.inr ⟨t1, ?_, fun j hj => ?_⟩⟩
        · show su (pur (g' 8) (10 * i + 4) (fun j => g' 0 j - nI 48) 6) (10 * i + 3) (nI 1) (10 * i + 3) = _
          rw [su_s]
        · show xHa t j = mWordG g' i 8 (10 * i + (4 + j))
          rw [hp j hj, t2 j hj]
      refine ⟨told_eq hR5, 0, k8, c, q, d, ⟨by omega, rfl, rfl, fun j hj => absurd hj (by omega)⟩, R2, R3, R4.up, hR5, R6, kept_set R7 ⟨rfl, rfl, rfl⟩ ⟨rfl, rfl, rfl, rfl, rfl⟩ ⟨rfl, rfl, rfl, rfl, rfl, rfl, rfl⟩ ⟨rfl, rfl, rfl⟩ ⟨rfl, rfl, rfl, rfl⟩⟩
    · rw [if_pos (tx_no R.1 hs), if_neg hs]
      exact ⟨rfl, R.rs1⟩
  · rw [if_neg (fun z => h ((ok_iff x n).mp z)), if_neg h]; exact ⟨rfl, R.rs1⟩
theorem p_unword (R : RR N k1 n k8 c q d f g pa pd pk pv f' g') (x : Int32) : (xUnword pv n x).1 = (mUnword f' g' h' n x).1 ∧ RS (N + 1) (f, g, pa, tq, n, pd, pk, (xUnword pv n x).2) (mUnword f' g' h' n x).2 := by
  unfold xUnword mUnword
  by_cases h : 0 ≤ x.toInt ∧ x.toInt ≤ (n : Int) - 1
  · rw [if_pos ((ok_iff x n).mpr h), if_pos h]
    have hi : x.toInt.toNat < n := by omega
    generalize x.toInt.toNat = i at hi ⊢
    obtain ⟨R1, R2, R3, R4, R5, R6, R7⟩ := R
    obtain ⟨_, hk, w0, w1, w2, w3, w4, hT⟩ := R5.2.2.2 i hi
    have w0 : g' 8 (10 * i + 0) = _ := w0
    have w1 : g' 8 (10 * i + 1) = _ := w1
    have w2 : g' 8 (10 * i + 2) = _ := w2
    refine ⟨?_, k1, k8, c, q, d, R1, R2, R3, R4.up, per_set R5 hi rfl rfl (fun i' hi' _ j hj => ?_) ⟨?_, ?_, ?_, w3, w4, Or.inl ⟨rfl, ?_⟩⟩, R6, kept_set R7 ⟨rfl, rfl, rfl⟩ ⟨rfl, rfl, rfl, rfl, rfl⟩ ⟨rfl, rfl, rfl, rfl, rfl, rfl, rfl⟩ ⟨rfl, rfl, rfl⟩ ⟨rfl, rfl, rfl, rfl⟩⟩
    · rcases hT with ⟨t1, t2⟩ | ⟨t1, t2, t3⟩
      · rw [if_pos t1]; exact t2.symm
      · rw [if_neg (nn_m1 t1)]; exact t2.symm
    · show su (g' 8) (10 * i + 3) (nI 0) (10 * i' + j) = _
      rw [su_n _ _ (by omega)]
    · show su (g' 8) (10 * i + 3) (nI 0) (10 * i + 0) = _
      rw [su_n _ _ (by omega)]; exact w0
    · show su (g' 8) (10 * i + 3) (nI 0) (10 * i + 1) = _
      rw [su_n _ _ (by omega)]; exact w1
    · show su (g' 8) (10 * i + 3) (nI 0) (10 * i + 2) = _
      rw [su_n _ _ (by omega)]; exact w2
    · show su (g' 8) (10 * i + 3) (nI 0) (10 * i + 3) = _
      rw [su_s]
  · rw [if_neg (fun z => h ((ok_iff x n).mp z)), if_neg h]; exact ⟨rfl, R.rs1⟩
theorem df_eq (R2 : rSign n k8 f f' g') (R : rPpl n f pa pd pk pv f' g') {i j : Nat} (hi : i < n) (hj : j < n) : xDf f pk pv i j = mDo g' i j := by
  obtain ⟨s1, s2, s3⟩ := sg_per R2 (by omega)
  unfold xDf mDo
  have e : fst1 (fun c => !xDfB f pk pv i j c) 6 = fst1 (fun c => !decide (mS g' i (g' 5 c) = mS g' j (g' 5 c))) 6 := by
    apply fst1_c
    intro c hc
    rw [xDfB, s3 c hc, see_eq R hi, see_eq R hj]
  rw [e]
theorem p_differ (R : RR N k1 n k8 c q d f g pa pd pk pv f' g') (x y : Int32) : xDiffer f n pk pv x y = mDiffer g' n x y := by
  unfold xDiffer mDiffer
  by_cases h : 0 ≤ x.toInt ∧ x.toInt ≤ (n : Int) - 1
  · rw [if_pos ((ok_iff x n).mpr h), if_pos h]
    by_cases h2 : 0 ≤ y.toInt ∧ y.toInt ≤ (n : Int) - 1
    · rw [if_pos ((ok_iff y n).mpr h2), if_pos h2, df_eq R.2.1 R.2.2.2.2.1 (by omega) (by omega)]
    · rw [if_neg (fun z => h2 ((ok_iff y n).mp z)), if_neg h2]
  · rw [if_neg (fun z => h ((ok_iff x n).mp z)), if_neg h]
theorem al_eq (R : rPpl n f pa pd pk pv f' g') {i j : Nat} (hi : i < n) (hj : j < n) : xAl pk pv i j = mAo g' i j := by
  unfold xAl mAo
  apply sm_c
  intro z _
  rw [see_eq R hi, see_eq R hj]
  rfl
theorem p_alike (R : RR N k1 n k8 c q d f g pa pd pk pv f' g') (x y : Int32) : xAlike n pk pv x y = mAlike g' n x y := by
  unfold xAlike mAlike
  by_cases h : 0 ≤ x.toInt ∧ x.toInt ≤ (n : Int) - 1
  · rw [if_pos ((ok_iff x n).mpr h), if_pos h]
    by_cases h2 : 0 ≤ y.toInt ∧ y.toInt ≤ (n : Int) - 1
    · rw [if_pos ((ok_iff y n).mpr h2), if_pos h2, al_eq R.2.2.2.2.1 (by omega) (by omega)]
    · rw [if_neg (fun z => h2 ((ok_iff y n).mp z)), if_neg h2]
  · rw [if_neg (fun z => h ((ok_iff x n).mp z)), if_neg h]
theorem p_card (R : RR N k1 n k8 c q d f g pa pd pk pv f' g') (x y : Int32) : (xp3 (xCard f g d x y) pa tq n pd pk pv).1 = (mCard f' g' h' d x y).1 ∧ RS (N + 1) (xp3 (xCard f g d x y) pa tq n pd pk pv).2 (mCard f' g' h' d x y).2 := by
  unfold xCard mCard xp3
  by_cases h1 : 0 ≤ x.toInt ∧ x.toInt ≤ 7
  · rw [if_pos h1, if_pos h1]
    by_cases h2 : 0 ≤ y.toInt ∧ y.toInt ≤ 7
    · rw [if_pos h2, if_pos h2]
      obtain ⟨R1, R2, R3, R4, R5, ⟨b1, b2, b3, b4⟩, R7⟩ := R
      by_cases h3 : d = 8
      · rw [if_neg (by omega), if_pos h3]
        exact ⟨rfl, k1, k8, c, q, d, R1, R2, R3, R4.up, R5, ⟨b1, b2, b3, b4⟩, R7⟩
      · rw [if_pos (by omega), if_neg h3]
        refine ⟨rfl, k1, k8, c, q, d + 1, R1, R2, R3, R4.up, R5, ⟨by omega, rfl, rfl, fun j hj => ?_⟩, R7⟩
        show su (g 2) d x j = su (su (g' 12) (2 * d) x) (2 * d + 1) y (2 * j) ∧ su (g 3) d y j = su (su (g' 12) (2 * d) x) (2 * d + 1) y (2 * j + 1)
        by_cases he : j = d
        · rw [he, su_s, su_s, su_s, su_n _ _ (by omega), su_s]; exact ⟨rfl, rfl⟩
        · rw [su_n _ _ he, su_n _ _ he, su_n _ _ (by omega), su_n _ _ (by omega), su_n _ _ (by omega), su_n _ _ (by omega)]; exact b4 j (by omega)
    · rw [if_neg h2, if_neg h2]; exact ⟨rfl, R.rs1⟩
  · rw [if_neg h1, if_neg h1]; exact ⟨rfl, R.rs1⟩
theorem p_forget (R : RR N k1 n k8 c q d f g pa pd pk pv f' g') : RS (N + 1) (su f 17 (nI 0), g, pa, tq, n, pd, pk, pv) (su f' 10 (nI 0), g', h') := by
  obtain ⟨R1, R2, R3, R4, R5, R6, R7⟩ := R
  exact ⟨k1, k8, c, q, 0, R1, R2, R3, R4.up, R5, ⟨by omega, rfl, rfl, fun j hj => absurd hj (by omega)⟩, R7⟩
theorem cf_eq (R : rCrd d f g f' g') (k : Nat) : xCf g d k = mSo g' d k := by
  unfold xCf mSo xFit
  apply alB_c
  intro j hj
  rw [xFitAt, mSoAt, (R.2.2.2 j hj).1, (R.2.2.2 j hj).2]
theorem p_who (R : RR N k1 n k8 c q d f g pa pd pk pv f' g') (x : Int32) : (xWho f g pa tq n pd pk pv d q x).1 = (mWho f' g' h' d q x).1 ∧ RS (N + 1) (xWho f g pa tq n pd pk pv d q x).2 (mWho f' g' h' d q x).2 := by
  have eN : ∀ k, xWhN g d k = mWhoN g' d k := by
    intro k
    induction k with
    | zero => rfl
    | succ k ih => rw [xWhN, mWhoN, ih, cf_eq R.2.2.2.2.2.1]
  have eL : ∀ k, xWhL g d k = mWhoL g' d k := by
    intro k
    induction k with
    | zero => rfl
    | succ k ih => rw [xWhL, mWhoL, ih, cf_eq R.2.2.2.2.2.1]
  unfold xWho mWho
  by_cases h1 : 0 ≤ x.toInt ∧ x.toInt ≤ 1
  · rw [if_neg (show ¬ x.toInt < 0 by omega), if_pos (show x.toInt ≤ ((1 : Nat) : Int) by omega), if_pos h1]
    obtain ⟨R1, R2, R3, ⟨c1, c2, c3, c4, c5, c6, c7⟩, R5, R6, R7⟩ := R
    by_cases h2 : q = 60
    · rw [if_neg (by omega), if_pos h2]
      exact ⟨rfl, k1, k8, c, q, d, R1, R2, R3, ⟨c1, c2, c3, by omega, c5, c6, c7⟩, R5, R6, R7⟩
    · rw [if_pos (by omega), if_neg h2]
      have key : ∀ (tz : Nat → Nat → Int32), RS (N + 1) (su f 11 (nI (q + 1)), g, pa, tz, n, pd, pk, pv) (su f' 11 (nI (q + 1)), g', h') := fun tz => ⟨k1, k8, c, q + 1, d, R1, R2, R3, ⟨c1, c2, c3, by omega, by omega, rfl, rfl⟩, R5, R6, R7⟩
      by_cases h3 : x = nI 0
      · rw [if_pos h3, if_pos h3]; exact ⟨eN 320, key _⟩
      · rw [if_neg h3, if_neg h3]; exact ⟨eL 320, key _⟩
  · rw [if_neg h1]
    by_cases h2 : x.toInt < 0
    · rw [if_pos h2]; exact ⟨rfl, R.rs1⟩
    · rw [if_neg h2, if_neg (by omega)]; exact ⟨rfl, R.rs1⟩
theorem p_count (R : RR N k1 n k8 c q d f g pa pd pk pv f' g') (x : Int32) : xCount f n k8 d k1 pv x = mCount f' g' k1 n k8 d x := by
  unfold xCount mCount
  rw [col_eq R.2.1.1, xTold, told_eq R.2.2.2.2.1]
  obtain ⟨R1, R2, R3, ⟨c1, c2, c3, c4, c5, c6, c7⟩, R5, R6, R7⟩ := R
  rw [c1, c2, c3, c6, c7]
end PURE
