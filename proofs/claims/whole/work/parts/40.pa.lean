/-! the pure part: bits of ints (the family of bits begins with the kit's to-paste text), texts of six hues -/
def bt (x : Int32) (i : Nat) : Bool := x.toBitVec.getLsbD i
theorem b_ext {x y : Int32} (h : ∀ i, i < 32 → bt x i = bt y i) : x = y := Int32.toBitVec_inj.mp (BitVec.eq_of_getLsbD_eq (fun i hi => h i hi))
theorem b_or (x y : Int32) (i : Nat) : bt (x ||| y) i = (bt x i || bt y i) := by unfold bt; rw [Int32.toBitVec_or, BitVec.getLsbD_or]
theorem b_and (x y : Int32) (i : Nat) : bt (x &&& y) i = (bt x i && bt y i) := by unfold bt; rw [Int32.toBitVec_and, BitVec.getLsbD_and]
theorem b_xor (x y : Int32) (i : Nat) : bt (x ^^^ y) i = (bt x i ^^ bt y i) := by unfold bt; rw [Int32.toBitVec_xor, BitVec.getLsbD_xor]
theorem b_big {x : Int32} {i : Nat} (h : 32 ≤ i) : bt x i = false := BitVec.getLsbD_of_ge _ _ h
theorem b_m1 : ∀ i, i < 32 → bt (-1) i = true := by decide +kernel
theorem s_l : ∀ n, n < 32 → ((nI n &&& 31).toBitVec.smod 32).toNat = n := by decide +kernel
theorem b_shl (n : Nat) (hn : n < 32) (x : Int32) {i : Nat} (hi : i < 32) : bt (x <<< (nI n &&& 31)) i = (decide (n ≤ i) && bt x (i - n)) := by
  unfold bt
  rw [Int32.toBitVec_shiftLeft]
  show (x.toBitVec <<< ((nI n &&& 31).toBitVec.smod 32).toNat).getLsbD i = _
  rw [s_l n hn, BitVec.getLsbD_shiftLeft]
  rcases Nat.lt_or_ge i n with h | h
  · simp [h, Nat.not_le.mpr h]
  · simp [hi, h, Nat.not_lt.mpr h]
theorem b_sshr (n : Nat) (hn : n < 32) (x : Int32) {i : Nat} (hi : i < 32) : bt (x >>> (nI n &&& 31)) i = if n + i < 32 then bt x (n + i) else bt x 31 := by
  unfold bt
  rw [Int32.toBitVec_shiftRight]
  show (x.toBitVec.sshiftRight ((nI n &&& 31).toBitVec.smod 32).toNat).getLsbD i = _
  rw [s_l n hn, BitVec.getLsbD_sshiftRight, BitVec.msb_eq_getLsbD_last]
  simp [hi]
theorem b_7 : ∀ i, i < 32 → bt (nI 7) i = decide (i < 3) := by decide +kernel
def ok7 (x : Int32) : Prop := 0 ≤ x.toInt ∧ x.toInt ≤ 7
theorem ok7_nI {j : Nat} (h : j < 8) : ok7 (nI j) := by
  unfold ok7; rw [tn (n := j) (by omega)]; omega
theorem ok7_ex {x : Int32} (h : ok7 x) : ∃ j, j < 8 ∧ x = nI j := ⟨x.toInt.toNat, by have := h.1; have := h.2; omega, ix_int h.1⟩
theorem ok7_and (x : Int32) : ok7 (x &&& nI 7) := by
  obtain ⟨j, h1, h2⟩ := pk_andE x (m := nI 7) 3 (by decide +kernel)
  rw [h2]; exact ok7_nI h1
theorem ok7_id {x : Int32} (h : ok7 x) : x &&& nI 7 = x := by
  obtain ⟨j, h1, rfl⟩ := ok7_ex h
  have k : ∀ j, j < 8 → nI j &&& nI 7 = nI j := by decide +kernel
  exact k j h1
theorem ok7_land {x : Int32} (h : ok7 x) (y : Int32) : ok7 (x &&& y) := by
  have e : x &&& y = (x &&& y) &&& nI 7 := by
    apply b_ext
    intro i hi
    have h2 : bt x i = (bt x i && bt (nI 7) i) := by rw [← b_and, ok7_id h]
    rw [b_and, b_and, b_and]
    revert h2
    cases bt x i <;> cases bt y i <;> cases bt (nI 7) i <;> simp
  rw [e]; exact ok7_and _
theorem ok7_or {x y : Int32} (h : ok7 x) (h' : ok7 y) : ok7 (x ||| y) := by
  obtain ⟨j, h1, rfl⟩ := ok7_ex h
  obtain ⟨k, h2, rfl⟩ := ok7_ex h'
  have d : ∀ j, j < 8 → ∀ k, k < 8 → 0 ≤ (nI j ||| nI k).toInt ∧ (nI j ||| nI k).toInt ≤ 7 := by decide +kernel
  exact d j h1 k h2
theorem ok7_xor {x y : Int32} (h : ok7 x) (h' : ok7 y) : ok7 (x ^^^ y) := by
  obtain ⟨j, h1, rfl⟩ := ok7_ex h
  obtain ⟨k, h2, rfl⟩ := ok7_ex h'
  have d : ∀ j, j < 8 → ∀ k, k < 8 → 0 ≤ (nI j ^^^ nI k).toInt ∧ (nI j ^^^ nI k).toInt ≤ 7 := by decide +kernel
  exact d j h1 k h2
theorem ok7_see (k l r : Int32) {h : Int32} (hh : ok7 h) : ok7 (see k l r h) := by
  unfold see
  split
  · exact ok7_or (ok7_land hh _) (ok7_land hh _)
  · split
    · exact ok7_xor (ok7_land hh _) (ok7_land hh _)
    · split
      · exact ok7_land (ok7_land hh _) _
      · split
        · split
          · exact ok7_land hh _
          · exact ok7_land hh _
        · exact ok7_land hh _
theorem ok7_big {y : Int32} (h : ok7 y) {i : Nat} (hi : 3 ≤ i) : bt y i = false := by
  rcases Nat.lt_or_ge i 32 with h3 | h3
  · have h2 : bt y i = (bt y i && bt (nI 7) i) := by rw [← b_and, ok7_id h]
    rw [b_7 i h3, decide_eq_false (by omega), Bool.and_false] at h2
    exact h2
  · exact b_big h3
theorem nn_bt (x : Int32) : 0 ≤ x.toInt ↔ bt x 31 = false := by
  have e : bt x 31 = x.toBitVec.msb := by unfold bt; rw [BitVec.msb_eq_getLsbD_last]
  rw [e, BitVec.msb_eq_toInt]
  show _ ↔ decide (x.toInt < 0) = false
  rw [decide_eq_false_iff_not]
  omega
theorem nn_m1 {x : Int32} (h : 0 ≤ x.toInt) : ¬ x = (-1) := by
  intro e
  rw [e] at h
  exact absurd h (by decide)
theorem b_xHa (x : Int32) {k : Nat} (hk : k < 6) {i : Nat} (hi : i < 32) : bt (xHa x k) i = (decide (i < 3) && bt x (3 * k + i)) := by
  unfold xHa
  rw [b_and, b_sshr (3 * k) (by omega) x hi, b_7 i hi]
  by_cases h : i < 3
  · rw [if_pos (by omega), Bool.and_comm]
  · simp [h]
theorem ok7_xHa (x : Int32) (k : Nat) : ok7 (xHa x k) := ok7_and _
theorem b_xWh (x : Int32) {k : Nat} (hk : k < 6) {y : Int32} (hy : ok7 y) {i : Nat} (hi : i < 32) : bt (xWh x k y) i = if 3 * k ≤ i ∧ i < 3 * k + 3 then bt y (i - 3 * k) else bt x i := by
  unfold xWh
  rw [b_or, b_and, b_xor, b_shl (3 * k) (by omega) _ hi, b_shl (3 * k) (by omega) _ hi, b_m1 i hi]
  by_cases h1 : 3 * k ≤ i
  · rw [b_7 _ (by omega)]
    by_cases h2 : i < 3 * k + 3
    · rw [if_pos ⟨h1, h2⟩, decide_eq_true h1, decide_eq_true (show i - 3 * k < 3 by omega)]
      simp
    · rw [if_neg (by omega), decide_eq_true h1, decide_eq_false (show ¬ i - 3 * k < 3 by omega), ok7_big hy (show 3 ≤ i - 3 * k by omega)]
      simp
  · rw [if_neg (by omega), decide_eq_false h1]
    simp
theorem xHa_xWh (x : Int32) {k j : Nat} (hk : k < 6) (hj : j < 6) {y : Int32} (hy : ok7 y) : xHa (xWh x k y) j = if j = k then y else xHa x j := by
  apply b_ext
  intro i hi
  rw [b_xHa _ hj hi]
  by_cases h3 : i < 3
  · rw [b_xWh x hk hy (by omega), decide_eq_true h3, Bool.true_and]
    by_cases h : j = k
    · subst h
      rw [if_pos ⟨by omega, by omega⟩, if_pos rfl, Nat.add_sub_cancel_left]
    · rw [if_neg (by omega), if_neg h, b_xHa _ hj hi, decide_eq_true h3, Bool.true_and]
  · rw [decide_eq_false h3, Bool.false_and]
    by_cases h : j = k
    · rw [if_pos h, ok7_big hy (by omega)]
    · rw [if_neg h, ok7_big (ok7_xHa x j) (by omega)]
theorem nn_xWh {x : Int32} (h : 0 ≤ x.toInt) {k : Nat} (hk : k < 6) {y : Int32} (hy : ok7 y) : 0 ≤ (xWh x k y).toInt := by
  rw [nn_bt] at h ⊢
  rw [b_xWh x hk hy (by omega), if_neg (by omega), h]
theorem xHa_0 : ∀ k, k < 6 → xHa (nI 0) k = nI 0 := by decide +kernel
/-- a digit's code -/
theorem dig (a : Int32) : (0 ≤ (a - nI 48).toInt ∧ (a - nI 48).toInt ≤ 7) ↔ (48 ≤ a.toInt ∧ a.toInt ≤ 55) := by
  have h1 := Int32.toInt_lt a
  have h2 := Int32.le_toInt a
  have e : (nI 48).toInt = 48 := by decide +kernel
  rw [Int32.toInt_sub, e, Int.bmod_def]
  constructor
  · intro h; split at h <;> omega
  · intro h; split <;> omega
theorem fst1_all {p : Nat → Bool} : ∀ {n : Nat}, fst1 p n = n → ∀ j, j < n → p j = false
  | 0, _, j, hj => absurd hj (by omega)
  | n + 1, h, j, hj => by
    have hle := fst1_le p n
    unfold fst1 at h
    by_cases h1 : fst1 p n < n
    · rw [if_pos h1] at h; omega
    · rw [if_neg h1] at h
      by_cases h2 : p n = true
      · rw [if_pos h2] at h; omega
      · by_cases hn : j = n
        · subst hn; cases hp : p j with
          | false => rfl
          | true => exact absurd hp h2
        · exact fst1_all (n := n) (by omega) j (by omega)
theorem xTxt_ok {g : Nat → Nat → Int32} (h : ∀ j, j < 6 → ok7 (g 0 j - nI 48)) : ∀ j, j ≤ 6 → 0 ≤ (xTxt g j).toInt ∧ ∀ c, c < j → xHa (xTxt g j) c = g 0 c - nI 48 := by
  intro j
  induction j with
  | zero => intro _; exact ⟨(show 0 ≤ (nI 0).toInt by decide), fun c hc => absurd hc (by omega)⟩
  | succ j ih =>
    intro hj
    obtain ⟨h1, h2⟩ := ih (by omega)
    refine ⟨nn_xWh h1 (by omega) (h j (by omega)), fun c hc => ?_⟩
    show xHa (xWh (xTxt g j) j (g 0 j - nI 48)) c = _
    rw [xHa_xWh _ (by omega) (by omega) (h j (by omega))]
    by_cases hcj : c = j
    · rw [if_pos hcj, hcj]
    · rw [if_neg hcj]; exact h2 c (by omega)
/-- a text and six cells: none and 0, or some and 1 -/
def TR (t b : Int32) (w : Nat → Int32) : Prop := (t = (-1) ∧ b = nI 0) ∨ (0 ≤ t.toInt ∧ b = nI 1 ∧ ∀ c, c < 6 → xHa t c = w c)
theorem TR.c {t b : Int32} {w w' : Nat → Int32} (h : TR t b w) (hw : ∀ c, c < 6 → w c = w' c) : TR t b w' := by
  rcases h with h | ⟨h1, h2, h3⟩
  · exact Or.inl h
  · exact Or.inr ⟨h1, h2, fun c hc => (h3 c hc).trans (hw c hc)⟩
theorem TR.neg {t b : Int32} {w : Nat → Int32} (h : TR t b w) : t = (-1) ↔ b = nI 0 := by
  rcases h with ⟨h1, h2⟩ | ⟨h1, h2, h3⟩
  · exact ⟨fun _ => h2, fun _ => h1⟩
  · exact ⟨fun e => absurd e (nn_m1 h1), fun e => absurd (h2.symm.trans e) (by decide +kernel)⟩
def PR (k : Nat) (l r t : Int32) (w : Nat → Int32) : Prop := w 0 = nI k ∧ w 1 = l ∧ w 2 = r ∧ ok7 l ∧ ok7 r ∧ TR t (w 3) (fun c => w (4 + c))
theorem PR.c {k : Nat} {l r t : Int32} {w w' : Nat → Int32} (h : PR k l r t w) (hw : ∀ j, j < 10 → w' j = w j) : PR k l r t w' := by
  obtain ⟨h0, h1, h2, h3, h4, h5⟩ := h
  refine ⟨(hw 0 (by omega)).trans h0, (hw 1 (by omega)).trans h1, (hw 2 (by omega)).trans h2, h3, h4, ?_⟩
  rw [hw 3 (by omega)]
  exact h5.c (fun c hc => (hw (4 + c) (by omega)).symm)
/-! the relation between the two states, in parts -/
def rPage (k1 : Nat) (f : Nat → Int32) (g : Nat → Nat → Int32) (f' : Nat → Int32) (g' : Nat → Nat → Int32) : Prop := k1 ≤ 10 ∧ f 16 = nI k1 ∧ f' 1 = nI k1 ∧ ∀ j, j < k1 → g 0 j = g' 0 j
def rSign (n k8 : Nat) (f : Nat → Int32) (f' : Nat → Int32) (g' : Nat → Nat → Int32) : Prop := TR (f 6) (f' 2) (g' 5) ∧ (f 6 = (-1) → n = 0 ∧ k8 = 0)
def rInk (k8 : Nat) (f : Nat → Int32) (g : Nat → Nat → Int32) (f' : Nat → Int32) (g' : Nat → Nat → Int32) : Prop := k8 ≤ 5 ∧ f 8 = nI k8 ∧ f' 7 = nI k8 ∧ ∀ j, j < k8 → g 1 j = g' 9 j ∧ ok7 (g 1 j)
def rCnt (N c q : Nat) (f f' : Nat → Int32) : Prop := f 9 = f' 3 ∧ f 10 = nI c ∧ f' 4 = nI c ∧ c ≤ N ∧ q ≤ 60 ∧ f 11 = nI q ∧ f' 11 = nI q
def rPpl (n : Nat) (f : Nat → Int32) (pa : Nat → Option Nat) (pd pk : Nat → Nat) (pv : Nat → Nat → Int32) (f' : Nat → Int32) (g' : Nat → Nat → Int32) : Prop := n ≤ 4 ∧ f 7 = nI n ∧ f' 6 = nI n ∧ ∀ i, i < n → pa i = some (pd i) ∧ pk i < 5 ∧ PR (pk i) (pv i 0) (pv i 1) (pv i 2) (fun j => g' 8 (10 * i + j))
def rCrd (d : Nat) (f : Nat → Int32) (g : Nat → Nat → Int32) (f' : Nat → Int32) (g' : Nat → Nat → Int32) : Prop := d ≤ 8 ∧ f 17 = nI d ∧ f' 10 = nI d ∧ ∀ j, j < d → g 2 j = g' 12 (2 * j) ∧ g 3 j = g' 12 (2 * j + 1)
def rKeep (n k8 : Nat) (f : Nat → Int32) (g : Nat → Nat → Int32) (pk : Nat → Nat) (pv : Nat → Nat → Int32) (f' : Nat → Int32) (g' : Nat → Nat → Int32) : Prop := f' 15 = f' 4 ∧ f' 2 = nI 1 ∧ 0 ≤ (f 12).toInt ∧ (∀ c, c < 6 → xHa (f 12) c = g' 20 c) ∧ f 15 = f' 19 ∧ (∃ m9, m9 ≤ n ∧ f 13 = nI m9 ∧ f' 16 = nI m9 ∧ ∀ i, i < m9 → PR (pk i) (pv i 3) (pv i 4) (pv i 5) (fun j => g' 21 (10 * i + j))) ∧ (∃ i9, i9 ≤ k8 ∧ f 14 = nI i9 ∧ f' 17 = nI i9 ∧ ∀ j, j < i9 → g 1 j = g' 22 j) ∧ (∃ d9, d9 ≤ 8 ∧ f 18 = nI d9 ∧ f' 18 = nI d9 ∧ ∀ j, j < d9 → g 4 j = g' 23 (2 * j) ∧ g 5 j = g' 23 (2 * j + 1))
def rKept (c n k8 : Nat) (f : Nat → Int32) (g : Nat → Nat → Int32) (pk : Nat → Nat) (pv : Nat → Nat → Int32) (f' : Nat → Int32) (g' : Nat → Nat → Int32) : Prop := (f' 15 = (-1) ∨ ∃ j, j ≤ c ∧ f' 15 = nI j) ∧ ((f 12 = (-1) ∧ ¬ f' 15 = f' 4) ∨ rKeep n k8 f g pk pv f' g')
def RR (N k1 n k8 c q d : Nat) (f : Nat → Int32) (g : Nat → Nat → Int32) (pa : Nat → Option Nat) (pd pk : Nat → Nat) (pv : Nat → Nat → Int32) (f' : Nat → Int32) (g' : Nat → Nat → Int32) : Prop := rPage k1 f g f' g' ∧ rSign n k8 f f' g' ∧ rInk k8 f g f' g' ∧ rCnt N c q f f' ∧ rPpl n f pa pd pk pv f' g' ∧ rCrd d f g f' g' ∧ rKept c n k8 f g pk pv f' g'
def RS (N : Nat) (u : XSt) (v : MSt) : Prop := ∃ k1 k8 c q d : Nat, RR N k1 u.2.2.2.2.1 k8 c q d u.1 u.2.1 u.2.2.1 u.2.2.2.2.2.1 u.2.2.2.2.2.2.1 u.2.2.2.2.2.2.2 v.1 v.2.1
theorem rCnt.up {N c q : Nat} {f f' : Nat → Int32} (h : rCnt N c q f f') : rCnt (N + 1) c q f f' := by
  obtain ⟨h1, h2, h3, h4, h5⟩ := h
  exact ⟨h1, h2, h3, by omega, h5⟩
section PURE
variable {N k1 n k8 c q d : Nat} {f : Nat → Int32} {g : Nat → Nat → Int32} {pa : Nat → Option Nat} {tq : Nat → Nat → Int32} {pd pk : Nat → Nat} {pv : Nat → Nat → Int32} {f' : Nat → Int32} {g' : Nat → Nat → Int32} {h' : Int64}
theorem RR.rs (R : RR N k1 n k8 c q d f g pa pd pk pv f' g') : RS N (f, g, pa, tq, n, pd, pk, pv) (f', g', h') := ⟨k1, k8, c, q, d, R⟩
theorem RR.rs1 (R : RR N k1 n k8 c q d f g pa pd pk pv f' g') : RS (N + 1) (f, g, pa, tq, n, pd, pk, pv) (f', g', h') := ⟨k1, k8, c, q, d, R.1, R.2.1, R.2.2.1, R.2.2.2.1.up, R.2.2.2.2⟩
theorem fl_eq (h : rPage k1 f g f' g') : xfl g k1 = mfl g' k1 := by
  unfold xfl mfl
  apply fst1_c
  intro j hj
  have hj : j < k1 := by omega
  rw [xdg, mdg, h.2.2.2 j hj, decide_eq_decide.mpr (dig _)]
theorem tx_no (h : rPage k1 f g f' g') (hs : ¬ (k1 = 6 ∧ mfl g' k1 = 6)) : xText g k1 = (-1) := by
  unfold xText
  rw [fl_eq h]
  by_cases h1 : k1 = 6
  · rw [if_pos h1, if_neg (fun z => hs ⟨h1, z⟩)]
  · rw [if_neg h1]
theorem tx_yes (h : rPage k1 f g f' g') (hs : k1 = 6 ∧ mfl g' k1 = 6) : 0 ≤ (xText g k1).toInt ∧ ∀ c, c < 6 → xHa (xText g k1) c = g' 0 c - nI 48 := by
  obtain ⟨h1, h2⟩ := hs
  have e : xText g k1 = xTxt g 6 := by
    unfold xText
    rw [fl_eq h, if_pos h1, if_pos h2]
  have h3 : ∀ j, j < 6 → ok7 (g 0 j - nI 48) := by
    intro j hj
    rw [h1] at h2
    have h4 := fst1_all (n := 6) (p := fun j => !mdg g' j) h2 j hj
    have h5 : mdg g' j = true := by
      cases hm : mdg g' j with
      | true => rfl
      | false => rw [hm] at h4; cases h4
    rw [mdg, decide_eq_true_eq] at h5
    rw [h.2.2.2 j (by omega)]
    exact (dig _).mpr h5
  have h4 := xTxt_ok h3 6 (Nat.le_refl 6)
  rw [e]
  exact ⟨h4.1, fun c hc => by rw [h4.2 c hc, h.2.2.2 c (by omega)]⟩
theorem p_letter (R : RR N k1 n k8 c q d f g pa pd pk pv f' g') (x : Int32) : (xp3 (xLetter f g k1 x) pa tq n pd pk pv).1 = (mLetter f' g' h' k1 x).1 ∧ RS (N + 1) (xp3 (xLetter f g k1 x) pa tq n pd pk pv).2 (mLetter f' g' h' k1 x).2 := by
  unfold xLetter mLetter xp3
  by_cases h1 : 1 ≤ x.toInt ∧ x.toInt ≤ 126
  · rw [if_neg (show ¬ x.toInt < ((1 : Nat) : Int) by omega), if_pos (show x.toInt ≤ ((126 : Nat) : Int) by omega), if_pos h1]
    by_cases h2 : k1 = 10
    · rw [if_neg (by omega), if_pos h2]
      exact ⟨rfl, R.rs1⟩
    · obtain ⟨⟨a1, a2, a3, a4⟩, R2, R3, R4, R5, R6, R7⟩ := R
      rw [if_pos (by omega), if_neg h2]
      refine ⟨rfl, k1 + 1, k8, c, q, d, ⟨by omega, rfl, rfl, fun j hj => ?_⟩, R2, R3, R4.up, R5, R6, R7⟩
      show su (g 0) k1 x j = su (g' 0) k1 x j
      by_cases hk : j = k1
      · rw [hk, su_s, su_s]
      · rw [su_n _ _ hk, su_n _ _ hk]; exact a4 j (by omega)
  · rw [if_neg h1]
    by_cases h2 : x.toInt < ((1 : Nat) : Int)
    · rw [if_pos h2]; exact ⟨rfl, R.rs1⟩
    · rw [if_neg h2, if_neg (by omega)]; exact ⟨rfl, R.rs1⟩
theorem p_blank (R : RR N k1 n k8 c q d f g pa pd pk pv f' g') : RS (N + 1) (su f 16 (nI 0), g, pa, tq, n, pd, pk, pv) (su f' 1 (nI 0), g', h') := by
  obtain ⟨R1, R2, R3, R4, R5, R6, R7⟩ := R
  exact ⟨0, k8, c, q, d, ⟨by omega, rfl, rfl, fun j hj => absurd hj (by omega)⟩, R2, R3, R4.up, R5, R6, R7⟩
theorem p_fault (R : RR N k1 n k8 c q d f g pa pd pk pv f' g') : nI (xfl g k1) = nI (mfl g' k1) := by rw [fl_eq R.1]
theorem col_eq {F : Nat → Int32} {G : Nat → Nat → Int32} {t : Int32} (h : TR t (F 2) (G 5)) : xCol t = mInk F G := by
  unfold xCol mInk
  rcases h with ⟨h1, h2⟩ | ⟨h1, h2, h3⟩
  · rw [if_pos h1, if_pos h2]; rfl
  · rw [if_neg (nn_m1 h1), if_neg (by rw [h2]; decide +kernel)]
    apply sm_c
    intro j hj
    rw [h3 j hj]
    by_cases hz : G 5 j = nI 0
    · rw [if_pos hz, b2i, if_neg (fun z => z hz)]
    · rw [if_neg hz, b2i, if_pos hz]
theorem p_sign (hN : N < 2 ^ 30) (R : RR N k1 n k8 c q d f g pa pd pk pv f' g') : (xSign f g pa tq n pd pk pv k1).1 = (mSign f' g' h' k1).1 ∧ RS (N + 1) (xSign f g pa tq n pd pk pv k1).2 (mSign f' g' h' k1).2 := by
  unfold xSign mSign
  by_cases hs : k1 = 6 ∧ mfl g' k1 = 6
  · obtain ⟨t1, t2⟩ := tx_yes R.1 hs
    rw [if_neg (nn_m1 t1), if_pos hs]
    obtain ⟨R1, R2, R3, ⟨c1, c2, c3, c4, c5⟩, R5, R6, ⟨a1, a2⟩⟩ := R
    have hT : TR (xText g k1) (mSignF f' 2) (mSignG g' 5) := Or.inr ⟨t1, rfl, fun c hc => by
      rw [t2 c hc]
      show _ = fil (g' 5) (fun j => g' 0 j - nI 48) 6 c
      rw [fil, if_pos hc]⟩
    refine ⟨col_eq hT, 0, 0, c + 1, q, 0, ⟨by omega, rfl, rfl, fun j hj => absurd hj (by omega)⟩, ⟨hT, fun _ => ⟨rfl, rfl⟩⟩, ⟨by omega, rfl, rfl, fun j hj => absurd hj (by omega)⟩, ⟨rfl, ?_, ?_, by omega, c5⟩, ⟨by show 0 ≤ 4; omega, rfl, rfl, fun j hj => absurd hj (by show ¬ j < 0; omega)⟩, ⟨by omega, rfl, rfl, fun j hj => absurd hj (by omega)⟩, ?_, Or.inl ⟨rfl, ?_⟩⟩
    · show f 10 + nI 1 = _
      rw [c2, nI_add]
    · show f' 4 + nI 1 = _
      rw [c3, nI_add]
    · rcases a1 with a1 | ⟨j, h1, h2⟩
      · exact Or.inl a1
      · exact Or.inr ⟨j, by omega, h2⟩
    · show ¬ f' 15 = f' 4 + nI 1
      rw [c3, nI_add]
      rcases a1 with a1 | ⟨j, h1, h2⟩
      · rw [a1]
        intro z
        have z2 := congrArg Int32.toInt z
        rw [tn (n := c + 1) (by omega)] at z2
        have : ((-1 : Int32)).toInt = -1 := by decide
        omega
      · rw [h2, nI_eq (by omega) (by omega)]
        omega
  · rw [if_pos (tx_no R.1 hs), if_neg hs]
    exact ⟨rfl, R.rs1⟩
theorem p_hue (R : RR N k1 n k8 c q d f g pa pd pk pv f' g') (x : Int32) : xHue (f 6) x = mHue f' g' x := by
  unfold xHue mHue
  rcases R.2.1.1 with ⟨h1, h2⟩ | ⟨h1, h2, h3⟩
  · rw [if_pos h1, if_pos h2]
  · rw [if_neg (nn_m1 h1), if_neg (show ¬ f' 2 = nI 0 by rw [h2]; decide +kernel)]
    by_cases hx : 0 ≤ x.toInt ∧ x.toInt ≤ 5
    · rw [if_neg (by omega), if_pos (by omega), if_pos hx, h3 _ (by omega)]
    · rw [if_neg hx]
      by_cases h4 : x.toInt < 0
      · rw [if_pos h4]
      · rw [if_neg h4, if_neg (by omega)]
end PURE
