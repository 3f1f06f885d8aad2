/-! the pure part: few, image, restore, digest -/
def po (u : Nat) : Nat := u % 2 + u / 2 % 2 + u / 4 % 2 + u / 8 % 2 + u / 16 % 2
theorem po_x : ∀ u, u < 32 → xbc (nI u) = nI (po u) := by decide +kernel
theorem po_m : ∀ u, u < 32 → ons (nI u) = nI (po u) := by decide +kernel
theorem po_i : ∀ i, i < 6 → ∀ u, u < 32 → u < 2 ^ i → po u ≤ i := by decide +kernel
theorem po_5 (u : Nat) : po u ≤ 5 := by unfold po; omega
theorem sub_le : ∀ u, u < 32 → ∀ t, t < 32 → (nI t &&& (nI u ^^^ (-1))) = nI 0 → t ≤ u := by decide +kernel
theorem or_0 (x : Int32) : x ||| nI 0 = x := by
  apply b_ext
  intro i hi
  have h : ∀ i, i < 32 → bt (nI 0) i = false := by decide +kernel
  rw [b_or, h i hi, Bool.or_false]
theorem or_as (x y z : Int32) : (x ||| y) ||| z = x ||| (y ||| z) := by
  apply b_ext
  intro i hi
  rw [b_or, b_or, b_or, b_or, Bool.or_assoc]
theorem exB_c {p r : Nat → Bool} {n : Nat} (h : ∀ j, j < n → p j = r j) : exB p n = exB r n := by
  unfold exB
  rw [alB_c (fun j hj => by rw [h j hj])]
/-- the least of fewest, as both find it -/
theorem best_x (S : Nat → Bool) {i b : Nat} (hb : b < 2 ^ i) (hp : po b ≤ i) (hS : S b = true) (h1 : ∀ u, u < 2 ^ i → S u = true → po b ≤ po u) (h2 : ∀ u, u < b → S u = true → po b < po u) : fst1 (fun u => decide (po u = po b) && S u) (2 ^ i) = b ∧ ∀ w, w < po b → fst1 (fun u => decide (po u = w) && S u) (2 ^ i) = 2 ^ i := by
  constructor
  · refine fst1_at hb (fun j hj => ?_) (by rw [hS]; simp)
    cases hs : S j with
    | false => rw [Bool.and_false]
    | true =>
      have := h2 j hj hs
      rw [decide_eq_false (by omega), Bool.false_and]
  · intro w hw
    refine fst1_no (fun j hj => ?_)
    cases hs : S j with
    | false => rw [Bool.and_false]
    | true =>
      have := h1 j hj hs
      rw [decide_eq_false (by omega), Bool.false_and]
section PURE
variable {N k1 n k8 c q d : Nat} {f : Nat → Int32} {g : Nat → Nat → Int32} {pa : Nat → Option Nat} {tq : Nat → Nat → Int32} {pd pk : Nat → Nat} {pv : Nat → Nat → Int32} {f' : Nat → Int32} {g' : Nat → Nat → Int32} {h' : Int64}
theorem to_eq (R : rPpl n f pa pd pk pv f' g') {c : Nat} (hc : c < 6) (y : Int32) : xToA n pk pv c y = mRead g' n c y := by
  unfold xToA mRead
  apply alB_c
  intro j hj
  obtain ⟨_, _, _, _, _, _, _, hT⟩ := R.2.2.2 j hj
  rw [xTo, mRd, see_eq R hj]
  rcases hT with ⟨t1, t2⟩ | ⟨t1, t2, t3⟩
  · have t2 : g' 8 (10 * j + 3) = nI 0 := t2
    rw [decide_eq_true (Or.inl t1), decide_eq_true t2, Bool.true_or]
  · have t2 : g' 8 (10 * j + 3) = nI 1 := t2
    have t3 : xHa (pv j 2) c = g' 8 (10 * j + (4 + c)) := t3 c hc
    rw [decide_eq_false (show ¬ g' 8 (10 * j + 3) = nI 0 by rw [t2]; decide +kernel), Bool.false_or, t3, Nat.add_assoc]
    apply decide_eq_decide.mpr
    exact ⟨fun z => z.resolve_left (nn_m1 t1), fun z => Or.inr z⟩
theorem un_eq (R : rInk k8 f g f' g') (x0 : Int32) (t : Nat) : ∀ k, k ≤ k8 → mUn g' x0 t k = x0 ||| xUn g (nI t) k := by
  intro k
  induction k with
  | zero => intro _; exact (or_0 x0).symm
  | succ k ih =>
    intro hk
    have e1 : mUn g' x0 t (k + 1) = mUn g' x0 t k ||| (if ((nI t >>> (nI k &&& 31)) &&& nI 1) = nI 1 then g' 9 k else nI 0) := rfl
    have e2 : xUn g (nI t) (k + 1) = if ((nI t >>> (nI k &&& 31)) &&& nI 1) = nI 1 then xUn g (nI t) k ||| g 1 k else xUn g (nI t) k := rfl
    rw [e1, e2, ih (by omega)]
    by_cases h : ((nI t >>> (nI k &&& 31)) &&& nI 1) = nI 1
    · rw [if_pos h, if_pos h, (R.2.2.2 k (by omega)).1, or_as]
    · rw [if_neg h, if_neg h, or_0]
theorem sa_eq (s3 : ∀ c, c < 6 → xHa (f 6) c = g' 5 c) (R3 : rInk k8 f g f' g') (R : rPpl n f pa pd pk pv f' g') {c u : Nat} (hc : c < 6) (hu : u < 32) : xSa f g n k8 pk pv c u = mMayB g' n k8 c u := by
  have e : ∀ t, xSaB f g n k8 pk pv c u t = mMayAt g' n k8 c u t := by
    intro t
    rw [xSaB, mMayAt, to_eq R hc, un_eq R3 _ _ _ (Nat.le_refl _), s3 c hc]
  unfold xSa mMayB
  rw [Bool.eq_iff_iff, exB_iff, exB_iff]
  constructor
  · rintro ⟨j, h1, h2⟩
    exact ⟨j, by omega, by rw [← e]; exact h2⟩
  · rintro ⟨j, h1, h2⟩
    have h3 := h2
    rw [mMayAt, Bool.and_eq_true, decide_eq_true_eq] at h3
    have := sub_le u hu j h1 h3.1
    exact ⟨j, by omega, by rw [e]; exact h2⟩
theorem su_eq (s3 : ∀ c, c < 6 → xHa (f 6) c = g' 5 c) (R3 : rInk k8 f g f' g') (R : rPpl n f pa pd pk pv f' g') {u : Nat} (hu : u < 32) : xSu f g n k8 pk pv u = alB (fun c => mMayB g' n k8 c u) 6 := by
  unfold xSu
  exact alB_c (fun j hj => sa_eq s3 R3 R hj hu)
/-- what the model has found ahead of k -/
theorem mb_inv (S : Nat → Bool) {i : Nat} (hS : ∀ u, u < 32 → alB (fun c => mMayB g' n i c u) 6 = S u) : ∀ k, k ≤ 32 → ((∀ u, u < k → S u = false) ∧ mBest g' n i k = (-1)) ∨ ∃ b, b < k ∧ S b = true ∧ mBest g' n i k = nI b ∧ (∀ u, u < k → S u = true → po b ≤ po u) ∧ (∀ u, u < b → S u = true → po b < po u) := by
  intro k
  induction k with
  | zero => intro _; exact Or.inl ⟨fun u hu => absurd hu (by omega), rfl⟩
  | succ k ih =>
    intro hk
    have e : mBest g' n i (k + 1) = if mLess (nI k) (mBest g' n i k) ∧ alB (fun c => mMayB g' n i c k) 6 = true then nI k else mBest g' n i k := rfl
    rw [e, hS k (by omega)]
    rcases ih (by omega) with ⟨h1, h2⟩ | ⟨b, h1, h2, h3, h4, h5⟩
    · rw [h2]
      cases hs : S k with
      | true =>
        rw [if_pos ⟨Or.inl rfl, rfl⟩]
        refine Or.inr ⟨k, by omega, hs, rfl, fun u hu hsu => ?_, fun u hu hsu => ?_⟩
        · by_cases he : u = k
          · rw [he]; exact Nat.le_refl _
          · rw [h1 u (by omega)] at hsu; cases hsu
        · rw [h1 u (by omega)] at hsu; cases hsu
      | false =>
        rw [if_neg (fun z => by cases z.2)]
        refine Or.inl ⟨fun u hu => ?_, rfl⟩
        by_cases he : u = k
        · rw [he]; exact hs
        · exact h1 u (by omega)
    · rw [h3]
      have hl : mLess (nI k) (nI b) ↔ po k < po b := by
        unfold mLess
        have p1 := po_5 k
        have p2 := po_5 b
        rw [po_m k (by omega), po_m b (by omega), tn (n := po k) (by omega), tn (n := po b) (by omega)]
        constructor
        · intro z
          rcases z with z | z
          · have z2 := congrArg Int32.toInt z
            rw [tn (n := b) (by omega)] at z2
            have z3 : (-1 : Int32).toInt = -1 := by decide
            omega
          · omega
        · intro z; exact Or.inr (by omega)
      by_cases hs : mLess (nI k) (nI b) ∧ S k = true
      · rw [if_pos hs]
        have hlt := hl.mp hs.1
        refine Or.inr ⟨k, by omega, hs.2, rfl, fun u hu hsu => ?_, fun u hu hsu => ?_⟩
        · by_cases he : u = k
          · rw [he]; exact Nat.le_refl _
          · have := h4 u (by omega) hsu; omega
        · have := h4 u (by omega) hsu; omega
      · rw [if_neg hs]
        refine Or.inr ⟨b, by omega, h2, rfl, fun u hu hsu => ?_, h5⟩
        by_cases he : u = k
        · subst he
          have : ¬ po u < po b := fun z => hs ⟨hl.mpr z, hsu⟩
          omega
        · exact h4 u (by omega) hsu
theorem best_eq (s3 : ∀ c, c < 6 → xHa (f 6) c = g' 5 c) (R3 : rInk k8 f g f' g') (R : rPpl n f pa pd pk pv f' g') : xBest f g n k8 pk pv = mBest g' n k8 (2 ^ k8) ∧ (mBest g' n k8 (2 ^ k8) = (-1) ∨ ∃ b, b < 32 ∧ mBest g' n k8 (2 ^ k8) = nI b) := by
  have hp : 2 ^ k8 ≤ 32 := pow5 R3.1
  have hS : ∀ u, u < 32 → alB (fun c => mMayB g' n k8 c u) 6 = xSu f g n k8 pk pv u := fun u hu => (su_eq s3 R3 R hu).symm
  have hw : ∀ w, w ≤ 5 → xFw f g n k8 pk pv w = fst1 (fun u => decide (po u = w) && xSu f g n k8 pk pv u) (2 ^ k8) := by
    intro w hw
    unfold xFw
    apply fst1_c
    intro u hu
    rw [xFs, po_x u (by omega)]
    have p1 := po_5 u
    rw [decide_eq_decide.mpr (nI_eq (a := po u) (b := w) (by omega) (by omega))]
  have h8 := R3.1
  generalize hT : xSu f g n k8 pk pv = S at hS hw
  rcases mb_inv S hS (2 ^ k8) hp with ⟨h1, h2⟩ | ⟨b, h1, h2, h3, h4, h5⟩
  · refine ⟨?_, Or.inl h2⟩
    have hx : xFx f g n k8 pk pv = k8 + 1 := by
      unfold xFx
      refine fst1_no (fun w hw2 => ?_)
      rw [hw w (by omega), fst1_no (fun j hj => by rw [h1 j hj, Bool.and_false])]
      simp
    rw [h2, xBest, hx, if_neg (by omega)]
  · refine ⟨?_, Or.inr ⟨b, by omega, h3⟩⟩
    have hpb := po_i k8 (by omega) b (by omega) h1
    obtain ⟨g1, g2⟩ := best_x S h1 hpb h2 h4 h5
    have hx : xFx f g n k8 pk pv = po b := by
      unfold xFx
      refine fst1_at (by omega) (fun w hw2 => ?_) ?_
      · rw [hw w (by omega), g2 w hw2]; simp
      · rw [hw _ (by omega), g1]; exact decide_eq_true h1
    rw [h3, xBest, hx, if_pos (by omega), hw _ (by omega), g1]
theorem few_eq (R2 : rSign n k8 f f' g') (hs : ¬ f 6 = (-1)) (R3 : rInk k8 f g f' g') (R : rPpl n f pa pd pk pv f' g') {x : Int32} (hx : 0 ≤ x.toInt ∧ x.toInt ≤ 1) : xFew f g n k8 pk pv x = mFewOf g' n k8 x := by
  have s3 : ∀ c, c < 6 → xHa (f 6) c = g' 5 c := by
    rcases R2.1 with ⟨z, _⟩ | ⟨_, _, z⟩
    · exact absurd z hs
    · exact z
  obtain ⟨e1, e2⟩ := best_eq s3 R3 R
  unfold xFew mFewOf
  rw [if_neg (show ¬ x.toInt < 0 by omega), if_pos (show x.toInt ≤ ((1 : Nat) : Int) by omega), if_neg hs, e1]
  have ex : x = nI 0 ↔ x.toInt = 0 := by rw [eqi, tn (n := 0) (by decide)]; rfl
  have ey : x = nI 1 ↔ x.toInt = 1 := by rw [eqi, tn (n := 1) (by decide)]; rfl
  by_cases hb : mBest g' n k8 (2 ^ k8) = (-1)
  · rw [if_pos hb, if_pos hb, hb]
  · rw [if_neg hb, if_neg hb]
    obtain ⟨b, hb2, hb3⟩ := e2.resolve_left hb
    by_cases h0 : x.toInt = 0
    · rw [if_pos (ex.mpr h0), if_neg (fun z => by have := ey.mp z; omega), hb3, po_x b hb2, po_m b hb2]
    · rw [if_neg (fun z => h0 (ex.mp z)), if_pos (ey.mpr (by omega))]
theorem p_few (R : RR N k1 n k8 c q d f g pa pd pk pv f' g') (x : Int32) : xFew f g n k8 pk pv x = mFew f' g' n k8 x := by
  unfold mFew
  by_cases hx : 0 ≤ x.toInt ∧ x.toInt ≤ 1
  · rw [if_pos hx]
    by_cases h4 : f 6 = (-1)
    · rw [if_pos (R.2.1.1.neg.mp h4), xFew, if_neg (show ¬ x.toInt < 0 by omega), if_pos (show x.toInt ≤ ((1 : Nat) : Int) by omega), if_pos h4]
    · rw [if_neg (show ¬ f' 2 = nI 0 from fun z9 => h4 (R.2.1.1.neg.mpr z9))]
      exact few_eq R.2.1 h4 R.2.2.1 R.2.2.2.2.1 hx
  · rw [if_neg hx, xFew]
    by_cases h2 : x.toInt < 0
    · rw [if_pos h2]
    · rw [if_neg h2, if_neg (by omega)]
theorem fil_lt {α : Type} (F G : Nat → α) {k j : Nat} (h : j < k) : fil F G k j = G j := by rw [fil, if_pos h]
theorem p_image (R : RR N k1 n k8 c q d f g pa pd pk pv f' g') : (xImage f g pa tq n k8 pd pk pv).1 = (mImage f' g' h' n k8 d).1 ∧ RS (N + 1) (xImage f g pa tq n k8 pd pk pv).2 (mImage f' g' h' n k8 d).2 := by
  unfold xImage mImage
  by_cases h4 : f 6 = (-1)
  · rw [if_pos h4, if_pos (R.2.1.1.neg.mp h4)]; exact ⟨rfl, R.rs1⟩
  · rw [if_neg h4, if_neg (show ¬ f' 2 = nI 0 from fun z9 => h4 (R.2.1.1.neg.mpr z9))]
    obtain ⟨R1, R2, R3, R4, ⟨b1, b2, b3, b4⟩, R6, R7⟩ := R
    obtain ⟨s1, s2, s3⟩ : 0 ≤ (f 6).toInt ∧ f' 2 = nI 1 ∧ ∀ c, c < 6 → xHa (f 6) c = g' 5 c := by
      rcases R2.1 with ⟨z, _⟩ | z
      · exact absurd z h4
      · exact z
    have hpv : ∀ i, i < n → fil pv (fun q9 => xKeep (pv q9)) n i = xKeep (pv i) := fun i hi => fil_lt _ _ hi
    refine ⟨rfl, k1, k8, c, q, d, R1, R2, R3, R4.up, ⟨b1, b2, b3, fun i hi => ?_⟩, R6, Or.inr ⟨c, Nat.le_refl _, R4.2.2.1⟩, Or.inr ⟨rfl, s2, s1, fun j hj => ?_, R4.1, ⟨n, Nat.le_refl _, rfl, rfl, fun i hi => ?_⟩, ⟨k8, Nat.le_refl _, rfl, rfl, fun j hj => ?_⟩, ⟨d, R6.1, R6.2.1, rfl, fun j hj => ?_⟩⟩⟩
    · show pa i = some (pd i) ∧ pk i < 5 ∧ PR (pk i) (fil pv (fun q9 => xKeep (pv q9)) n i 0) (fil pv (fun q9 => xKeep (pv q9)) n i 1) (fil pv (fun q9 => xKeep (pv q9)) n i 2) (fun j => g' 8 (10 * i + j))
      rw [hpv i hi]
      exact b4 i hi
    · show xHa (f 6) j = fil (g' 20) (g' 5) 6 j
      rw [fil_lt _ _ hj]; exact s3 j hj
    · show PR (pk i) (fil pv (fun q9 => xKeep (pv q9)) n i 3) (fil pv (fun q9 => xKeep (pv q9)) n i 4) (fil pv (fun q9 => xKeep (pv q9)) n i 5) (fun j => fil (g' 21) (g' 8) 40 (10 * i + j))
      have hi : i < n := hi
      rw [hpv i hi]
      exact (b4 i hi).2.2.c (fun j hj => fil_lt _ _ (by omega))
    · show g 1 j = fil (g' 22) (g' 9) 5 j
      rw [fil_lt _ _ (by have := R3.1; omega)]; exact (R3.2.2.2 j hj).1
    · show fil (g 4) (g 2) 8 j = fil (g' 23) (g' 12) 16 (2 * j) ∧ fil (g 5) (g 3) 8 j = fil (g' 23) (g' 12) 16 (2 * j + 1)
      have := R6.1
      rw [fil_lt _ _ (by omega), fil_lt _ _ (by omega), fil_lt _ _ (by omega), fil_lt _ _ (by omega)]
      exact R6.2.2.2 j hj
/-- what restore wants to know ahead of it -/
theorem kp_n (R : RR N k1 n k8 c q d f g pa pd pk pv f' g') : ∃ m9, (¬ f 12 = (-1) → f 13 = nI m9) ∧ m9 ≤ n := by
  rcases R.2.2.2.2.2.2.2 with ⟨z, _⟩ | ⟨_, _, _, _, _, ⟨m9, h1, h2, _⟩, _⟩
  · exact ⟨0, fun h => absurd z h, Nat.zero_le _⟩
  · exact ⟨m9, fun _ => h2, h1⟩
theorem p_restore (R : RR N k1 n k8 c q d f g pa pd pk pv f' g') {m9 : Nat} (e13 : ¬ f 12 = (-1) → f 13 = nI m9) (b13 : m9 ≤ n) : (xRestore f g pa tq n m9 pd pk pv).1 = (mRestore f' g' h').1 ∧ RS (N + 1) (xRestore f g pa tq n m9 pd pk pv).2 (mRestore f' g' h').2 := by
  unfold xRestore mRestore
  obtain ⟨R1, R2, R3, R4, ⟨b1, b2, b3, b4⟩, R6, ⟨a1, a2⟩⟩ := R
  rcases a2 with ⟨z1, z2⟩ | ⟨g1, g2, g3, g4, g5, ⟨m, m1, m2, m3, m4⟩, ⟨i9, i1, i2, i3, i4⟩, ⟨d9, d1, d2, d3, d4⟩⟩
  · rw [if_pos z1, if_neg z2]
    exact ⟨rfl, k1, k8, c, q, d, R1, R2, R3, R4.up, ⟨b1, b2, b3, b4⟩, R6, a1, Or.inl ⟨z1, z2⟩⟩
  · have hm : m9 = m := by
      have := e13 (nn_m1 g3)
      rw [m2, nI_eq (by omega) (by omega)] at this
      exact this.symm
    subst hm
    rw [if_neg (nn_m1 g3), if_pos g1]
    have hpv : ∀ i, i < m9 → fil pv (fun q9 => xBack (pv q9)) m9 i = xBack (pv i) := fun i hi => fil_lt _ _ hi
    have h8 := R3.1
    refine ⟨m3.symm, k1, i9, c, q, d9, R1, ⟨Or.inr ⟨g3, g2, fun j hj => ?_⟩, fun z => absurd z (nn_m1 g3)⟩, ⟨by omega, i2, i3, fun j hj => ?_⟩, ⟨g5, R4.2.1, R4.2.2.1, by have := R4.2.2.2.1; omega, R4.2.2.2.2⟩, ⟨by show m9 ≤ 4; omega, rfl, m3, fun i hi => ?_⟩, ⟨d1, d2, d3, fun j hj => ?_⟩, a1, Or.inr ⟨g1, g2, g3, g4, g5, ⟨m9, Nat.le_refl _, m2, m3, fun i hi => ?_⟩, ⟨i9, Nat.le_refl _, i2, i3, i4⟩, ⟨d9, d1, d2, d3, d4⟩⟩⟩
    · show xHa (f 12) j = fil (g' 5) (g' 20) 6 j
      rw [fil_lt _ _ hj]; exact g4 j hj
    · show g 1 j = fil (g' 9) (g' 22) 5 j ∧ ok7 (g 1 j)
      rw [fil_lt _ _ (by omega)]
      exact ⟨i4 j hj, (R3.2.2.2 j (by omega)).2⟩
    · have hi : i < m9 := hi
      show pa i = some (pd i) ∧ pk i < 5 ∧ PR (pk i) (fil pv (fun q9 => xBack (pv q9)) m9 i 0) (fil pv (fun q9 => xBack (pv q9)) m9 i 1) (fil pv (fun q9 => xBack (pv q9)) m9 i 2) (fun j => fil (g' 8) (g' 21) 40 (10 * i + j))
      rw [hpv i hi]
      obtain ⟨o1, o2, _⟩ := b4 i (by omega)
      exact ⟨o1, o2, (m4 i hi).c (fun j hj => fil_lt _ _ (by omega))⟩
    · show fil (g 2) (g 4) 8 j = fil (g' 12) (g' 23) 16 (2 * j) ∧ fil (g 3) (g 5) 8 j = fil (g' 12) (g' 23) 16 (2 * j + 1)
      rw [fil_lt _ _ (by omega), fil_lt _ _ (by omega), fil_lt _ _ (by omega), fil_lt _ _ (by omega)]
      exact d4 j hj
    · have hi : i < m9 := hi
      show PR (pk i) (fil pv (fun q9 => xBack (pv q9)) m9 i 3) (fil pv (fun q9 => xBack (pv q9)) m9 i 4) (fil pv (fun q9 => xBack (pv q9)) m9 i 5) (fun j => g' 21 (10 * i + j))
      rw [hpv i hi]
      exact m4 i hi
theorem sy1_t (p : Nat) (h : Int64) {k : Nat} (hk : k < 4 ∨ (10 ≤ k ∧ k ≤ 15) ∨ 19 < k) : mSy1 g' p h (k + 1) = 31 * mSy1 g' p h k + (mTell g' p (nI k)).toInt64 := by rw [mSy1, if_pos hk]
theorem sy1_f (p : Nat) (h : Int64) {k : Nat} (hk : ¬ (k < 4 ∨ (10 ≤ k ∧ k ≤ 15) ∨ 19 < k)) : mSy1 g' p h (k + 1) = mSy1 g' p h k := by rw [mSy1, if_neg hk]
theorem hf_c {F G : Nat → Int32} {h : Int64} : ∀ {m : Nat}, (∀ j, j < m → F j = G j) → hf F h m = hf G h m
  | 0, _ => rfl
  | m + 1, e => by rw [hf, hf, hf_c (fun j hj => e j (by omega)), e m (by omega)]
theorem sy1_a (p : Nat) (h : Int64) : ∀ m, m ≤ 4 → mSy1 g' p h m = hf (fun j => mTell g' p (nI j)) h m := by
  intro m
  induction m with
  | zero => intro _; rfl
  | succ m ih => intro hm; rw [sy1_t p h (by omega), ih (by omega), hf]
theorem sy1_b (p : Nat) (h : Int64) : ∀ m, m ≤ 6 → mSy1 g' p h (4 + m) = mSy1 g' p h 4 := by
  intro m
  induction m with
  | zero => intro _; rfl
  | succ m ih => intro hm; rw [← Nat.add_assoc, sy1_f p h (by omega), ih (by omega)]
theorem sy1_d (p : Nat) (h : Int64) : ∀ m, m ≤ 6 → mSy1 g' p h (10 + m) = hf (fun j => mTell g' p (nI (10 + j))) (mSy1 g' p h 10) m := by
  intro m
  induction m with
  | zero => intro _; rfl
  | succ m ih => intro hm; rw [← Nat.add_assoc, sy1_t p h (by omega), ih (by omega), hf]
theorem sy1_e (p : Nat) (h : Int64) : ∀ m, m ≤ 4 → mSy1 g' p h (16 + m) = mSy1 g' p h 16 := by
  intro m
  induction m with
  | zero => intro _; rfl
  | succ m ih => intro hm; rw [← Nat.add_assoc, sy1_f p h (by omega), ih (by omega)]
theorem sy1_g (p : Nat) (h : Int64) : ∀ m, m ≤ 6 → mSy1 g' p h (20 + m) = hf (fun j => mTell g' p (nI (20 + j))) (mSy1 g' p h 20) m := by
  intro m
  induction m with
  | zero => intro _; rfl
  | succ m ih => intro hm; rw [← Nat.add_assoc, sy1_t p h (by omega), ih (by omega), hf]
theorem sy1_26 (p : Nat) (h : Int64) : mSy1 g' p h 26 = hf (fun j => mTell g' p (nI (20 + j))) (hf (fun j => mTell g' p (nI (10 + j))) (hf (fun j => mTell g' p (nI j)) h 4) 6) 6 := by
  rw [show 26 = 20 + 6 from rfl, sy1_g p h 6 (by omega), show mSy1 g' p h 20 = mSy1 g' p h (16 + 4) from rfl, sy1_e p h 4 (by omega), show mSy1 g' p h 16 = mSy1 g' p h (10 + 6) from rfl, sy1_d p h 6 (by omega), show mSy1 g' p h 10 = mSy1 g' p h (4 + 6) from rfl, sy1_b p h 6 (by omega), sy1_a p h 4 (by omega)]
theorem wp_eq (R2 : rSign n k8 f f' g') (R : rPpl n f pa pd pk pv f' g') {i : Nat} (hi : i < n) (h : Int64) : xWp f n pk pv i h n = mSyP g' n i h := by
  have hn := R.1
  have ab : ∀ y, xAbout f n pk pv (nI i) y = mTell g' i y := by
    intro y
    have e : (nI i).toInt = (i : Int) := tn (n := i) (by omega)
    rw [xAbout, if_pos (show xOk (nI i) n from ⟨by omega, by omega⟩), e]
    exact tell_eq R2 R hi y
  have e3 : xWp3 f n pk pv i h = mSy1 g' i h 26 := by
    rw [sy1_26, xWp3]
    simp only [ab]
  have key : ∀ k, k ≤ n → xWp f n pk pv i h k = mSy2 g' i (mSy1 g' i h 26) k := by
    intro k
    induction k with
    | zero => intro _; exact e3
    | succ k ih =>
      intro hk
      have ei : (nI i).toInt = (i : Int) := tn (n := i) (by omega)
      have ek : (nI k).toInt = (k : Int) := tn (n := k) (by omega)
      rw [xWp, mSy2, ih (by omega), xDiffer, xAlike, if_pos (show xOk (nI i) n from ⟨by omega, by omega⟩), if_pos (show xOk (nI k) n from ⟨by omega, by omega⟩), if_pos (show xOk (nI i) n from ⟨by omega, by omega⟩), if_pos (show xOk (nI k) n from ⟨by omega, by omega⟩), ei, ek]
      show 31 * (31 * _ + (xDf f pk pv i k).toInt64) + (xAl pk pv i k).toInt64 = _
      rw [df_eq R2 R hi (show k < n by omega), al_eq R hi (show k < n by omega)]
  exact key n (Nat.le_refl _)
theorem p_digest (R : RR N k1 n k8 c q d f g pa pd pk pv f' g') : xDig f g n k8 d k1 pk pv = mH6 f' g' k1 n k8 d 9 ∧ RS (N + 1) (f, g, pa, tq, n, pd, pk, pv) (f', g', h') := by
  refine ⟨?_, R.rs1⟩
  have hcn : ∀ j, xCount f n k8 d k1 pv (nI j) = mCount f' g' k1 n k8 d (nI j) := fun j => p_count R (nI j)
  obtain ⟨R1, R2, R3, R4, R5, R6, R7⟩ := R
  have e2 : xD2 f g n k8 pk pv = mH2 f' g' n k8 := by
    unfold xD2 mH2
    by_cases h4 : f 6 = (-1)
    · rw [if_pos h4, if_pos (R2.1.neg.mp h4)]
    · rw [if_neg h4, if_neg (show ¬ f' 2 = nI 0 from fun z9 => h4 (R2.1.neg.mpr z9)), few_eq R2 h4 R3 R5 (by decide +kernel), few_eq R2 h4 R3 R5 (by decide +kernel)]
      have s3 : ∀ c, c < 6 → xHa (f 6) c = g' 5 c := by
        rcases R2.1 with ⟨z, _⟩ | ⟨_, _, z⟩
        · exact absurd z h4
        · exact z
      have e1 : ∀ k, k ≤ 6 → hf (fun q9 => xHa (f 6) q9) 853 k = mH1 g' k := by
        intro k
        induction k with
        | zero => intro _; rfl
        | succ k ih => intro hk; rw [hf, mH1, ih (by omega), s3 k (by omega)]
      rw [e1 6 (Nat.le_refl 6)]
  have e3 : ∀ k, k ≤ n → xD3 f g n k8 pk pv k = mH3 f' g' n k8 k := by
    intro k
    induction k with
    | zero => intro _; exact e2
    | succ k ih => intro hk; rw [xD3, mH3, ih (by omega), wp_eq R2 R5 (by omega)]
  have e4 : ∀ k, k ≤ k8 → hf (fun q9 => g 1 q9) (xD3 f g n k8 pk pv n) k = mH4 f' g' n k8 k := by
    intro k
    induction k with
    | zero => intro _; exact e3 n (Nat.le_refl n)
    | succ k ih => intro hk; rw [hf, mH4, ih (by omega), (R3.2.2.2 k (by omega)).1]
  have e5 : ∀ k, k ≤ k1 → hf (fun q9 => g 0 q9) (hf (fun q9 => g 1 q9) (xD3 f g n k8 pk pv n) k8) k = mH5 f' g' n k8 k := by
    intro k
    induction k with
    | zero => intro _; exact e4 k8 (Nat.le_refl _)
    | succ k ih => intro hk; rw [hf, mH5, ih (by omega), R1.2.2.2 k (by omega)]
  have e6 : ∀ k, hf (fun q9 => xCount f n k8 d k1 pv (nI q9)) (hf (fun q9 => g 0 q9) (hf (fun q9 => g 1 q9) (xD3 f g n k8 pk pv n) k8) k1) k = mH6 f' g' k1 n k8 d k := by
    intro k
    induction k with
    | zero => exact e5 k1 (Nat.le_refl _)
    | succ k ih => rw [hf, mH6, ih, hcn]
  exact e6 9
end PURE
