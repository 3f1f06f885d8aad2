/-! the pure part: next, ageing -/
/-- how many of the first k codes that fit say of hue u that they see s -/
def cs (S : Nat → Bool) (u s : Nat) : Nat → Nat
  | 0 => 0
  | k + 1 => if S k = true ∧ sayN k u = s then cs S u s k + 1 else cs S u s k
def cn (S : Nat → Bool) : Nat → Nat
  | 0 => 0
  | k + 1 => if S k = true then cn S k + 1 else cn S k
theorem cs_le (S : Nat → Bool) (u s : Nat) : ∀ k, cs S u s k ≤ k := by
  intro k
  induction k with
  | zero => exact Nat.le_refl 0
  | succ k ih => unfold cs; split <;> omega
theorem cn_le (S : Nat → Bool) : ∀ k, cn S k ≤ k := by
  intro k
  induction k with
  | zero => exact Nat.le_refl 0
  | succ k ih => unfold cn; split <;> omega
theorem cn_0 (S : Nat → Bool) (u s : Nat) : ∀ k, cn S k = 0 → cs S u s k = 0 := by
  intro k
  induction k with
  | zero => intro _; rfl
  | succ k ih =>
    intro h
    unfold cn at h
    by_cases hS : S k = true
    · rw [if_pos hS] at h; omega
    · rw [if_neg hS] at h
      unfold cs
      rw [if_neg (fun z => hS z.1)]
      exact ih h
theorem cn_p (S : Nat → Bool) {u : Nat} (hu : u < 8) : ∀ k, k ≤ 320 → 0 < cn S k → ∃ s, s < 8 ∧ 0 < cs S u s k := by
  intro k
  induction k with
  | zero => intro _ h; exact absurd (show 0 < 0 from h) (by decide)
  | succ k ih =>
    intro hk h
    by_cases hS : S k = true
    · refine ⟨sayN k u, sayN_b k u (by omega) hu, ?_⟩
      unfold cs
      rw [if_pos ⟨hS, rfl⟩]
      omega
    · unfold cn at h
      rw [if_neg hS] at h
      obtain ⟨s, h1, h2⟩ := ih (by omega) h
      refine ⟨s, h1, ?_⟩
      unfold cs
      rw [if_neg (fun z => hS z.1)]
      exact h2
def mx (v : Nat → Nat) : Nat → Nat
  | 0 => 0
  | k + 1 => if v k ≤ mx v k then mx v k else v k
theorem mx_le {v : Nat → Nat} {B : Nat} : ∀ {k : Nat}, (∀ j, j < k → v j ≤ B) → mx v k ≤ B
  | 0, _ => Nat.zero_le _
  | k + 1, h => by
    unfold mx
    split
    · exact mx_le (fun j hj => h j (by omega))
    · exact h k (by omega)
theorem mx_ge {v : Nat → Nat} : ∀ {k : Nat} {j : Nat}, j < k → v j ≤ mx v k
  | 0, j, hj => absurd hj (by omega)
  | k + 1, j, hj => by
    unfold mx
    by_cases he : j = k
    · subst he; split <;> omega
    · have := mx_ge (v := v) (k := k) (j := j) (by omega)
      split <;> omega
theorem wst_e {r : Nat → Int32} {v : Nat → Nat} : ∀ {k : Nat}, (∀ j, j < k → r j = nI (v j) ∧ v j ≤ 320) → mWst r k = nI (mx v k)
  | 0, _ => rfl
  | k + 1, h => by
    have h1 := h k (by omega)
    have h2 := wst_e (r := r) (v := v) (k := k) (fun j hj => h j (by omega))
    have h3 := mx_le (v := v) (B := 320) (k := k) (fun j hj => (h j (by omega)).2)
    have h4 := h1.2
    rw [mWst, mx, h1.1, h2, tn (n := v k) (by omega), tn (n := mx v k) (by omega)]
    by_cases hc : v k ≤ mx v k
    · rw [if_pos hc, if_pos (by omega)]
    · rw [if_neg hc, if_neg (by omega)]
theorem wo_e {g : Nat → Nat → Int32} {u : Nat} {v : Nat → Nat} : ∀ {k : Nat}, (∀ j, j < k → g 6 (8 * u + j) = nI (v j) ∧ v j ≤ 320) → xWo g u k = nI (mx v k)
  | 0, _ => rfl
  | k + 1, h => by
    have h1 := h k (by omega)
    have h2 := wo_e (g := g) (u := u) (v := v) (k := k) (fun j hj => h j (by omega))
    have h3 := mx_le (v := v) (B := 320) (k := k) (fun j hj => (h j (by omega)).2)
    have h4 := h1.2
    rw [xWo, mx, h1.1, h2]
    by_cases hc : v k ≤ mx v k
    · rw [if_pos hc, if_neg (fun z => by rw [nI_ltI (by omega) (by omega)] at z; omega)]
    · rw [if_neg hc, if_pos ((nI_ltI (by omega) (by omega)).mpr (by omega))]
/-- the class's table of sayings -/
theorem sy1_i (r : Nat → Int32) {k : Nat} (hk : k < 320) : ∀ j, j ≤ 8 → ∀ u s, u < 8 → s < 8 → xSy1 r k j (8 * u + s) = if u < j ∧ sayN k u = s then r (8 * u + s) + nI 1 else r (8 * u + s) := by
  intro j
  induction j with
  | zero => intro _ u s _ _; rw [if_neg (by omega)]; rfl
  | succ j ih =>
    intro hj u s hu hs
    have hb := sayN_b k j hk (by omega)
    have e : xSy1 r k (j + 1) = su (xSy1 r k j) (8 * j + sayN k j) (xSy1 r k j (8 * j + sayN k j) + nI 1) := rfl
    rw [e]
    by_cases hu2 : u = j
    · subst hu2
      by_cases h2 : sayN k u = s
      · rw [if_pos ⟨by omega, h2⟩, ← h2, su_s, ih (by omega) u (sayN k u) hu hb, if_neg (by omega)]
      · rw [if_neg (fun z => h2 z.2), su_n _ _ (by omega), ih (by omega) u s hu hs, if_neg (by omega)]
    · rw [su_n _ _ (by omega), ih (by omega) u s hu hs]
      by_cases h2 : u < j ∧ sayN k u = s
      · rw [if_pos h2, if_pos ⟨by omega, h2.2⟩]
      · rw [if_neg h2, if_neg (fun z => h2 ⟨by have := z.1; omega, z.2⟩)]
theorem sy_e (g : Nat → Nat → Int32) (d : Nat) (r : Nat → Int32) (hr : ∀ j, j < 64 → r j = nI 0) {S : Nat → Bool} (hS : ∀ k, xCf g d k = S k) : ∀ k, k ≤ 320 → ∀ u s, u < 8 → s < 8 → xSy g d r k (8 * u + s) = nI (cs S u s k) := by
  intro k
  induction k with
  | zero => intro _ u s hu hs; exact hr _ (by omega)
  | succ k ih =>
    intro hk u s hu hs
    have e : xSy g d r (k + 1) = if xCf g d k = true then xSy1 (xSy g d r k) k 8 else xSy g d r k := rfl
    rw [e, hS k]
    unfold cs
    by_cases h : S k = true
    · rw [if_pos h, sy1_i _ (by omega) 8 (Nat.le_refl 8) u s hu hs, ih (by omega) u s hu hs]
      by_cases h2 : sayN k u = s
      · rw [if_pos ⟨hu, h2⟩, if_pos ⟨h, h2⟩, nI_add]
      · rw [if_neg (fun z => h2 z.2), if_neg (fun z => h2 z.2)]
    · rw [if_neg h, if_neg (fun z => h z.1)]
      exact ih (by omega) u s hu hs
/-- the model's -/
theorem says_e (g' : Nat → Nat → Int32) (d u : Nat) (r : Nat → Int32) (hr : ∀ j, j < 8 → r j = nI 0) {S : Nat → Bool} (hS : ∀ k, mSo g' d k = S k) : ∀ k, k ≤ 320 → ∀ s, s < 8 → mSays g' d u r k s = nI (cs S u s k) := by
  intro k
  induction k with
  | zero => intro _ s hs; exact hr _ hs
  | succ k ih =>
    intro hk s hs
    have e : mSays g' d u r (k + 1) = su (mSays g' d u r k) (sayN k u) (mSays g' d u r k (sayN k u) + (if mSo g' d k = true then nI 1 else nI 0)) := rfl
    rw [e, hS k]
    unfold cs
    by_cases h2 : sayN k u = s
    · rw [h2, su_s, ih (by omega) s hs]
      by_cases h : S k = true
      · rw [if_pos h, if_pos ⟨h, rfl⟩, nI_add]
      · rw [if_neg h, if_neg (fun z => h z.1), nI_add, Nat.add_zero]
    · rw [su_n _ _ (fun z => h2 z.symm), if_neg (fun z => h2 z.2)]
      exact ih (by omega) s hs
def wv (S : Nat → Bool) (u : Nat) : Nat := mx (fun s => cs S u s 320) 8
theorem wv_le (S : Nat → Bool) (u : Nat) : wv S u ≤ 320 := mx_le (fun j _ => cs_le _ _ _ _)
theorem wv_0 (S : Nat → Bool) (u : Nat) (h : cn S 320 = 0) : wv S u = 0 := by
  have : wv S u ≤ 0 := mx_le (fun j _ => by rw [cn_0 S u j 320 h]; exact Nat.le_refl 0)
  omega
theorem wv_p (S : Nat → Bool) {u : Nat} (hu : u < 8) (h : 0 < cn S 320) : 0 < wv S u := by
  obtain ⟨s, h1, h2⟩ := cn_p S hu 320 (Nat.le_refl _) h
  exact Nat.lt_of_lt_of_le h2 (mx_ge (v := fun s => cs S u s 320) h1)
/-- the best hue of the first k + 1, and how many are left of it -/
def bw (S : Nat → Bool) : Nat → Nat × Nat
  | 0 => (0, wv S 0)
  | j + 1 => if (bw S j).2 ≤ wv S (j + 1) then bw S j else (j + 1, wv S (j + 1))
theorem bw_le (S : Nat → Bool) : ∀ j, (bw S j).2 ≤ 320 := by
  intro j
  induction j with
  | zero => exact wv_le S 0
  | succ j ih =>
    unfold bw
    split
    · exact ih
    · exact wv_le S _
theorem mnx_e (g' : Nat → Nat → Int32) (d : Nat) {S : Nat → Bool} (hS : ∀ k, mSo g' d k = S k) (u : Nat) (hu : u < 8) : mWst (mSays g' d u (fil (mNx g' d u).2.2 (fun _ => nI 0) 8) 320) 8 = nI (wv S u) :=
  wst_e (fun j hj => ⟨says_e g' d u _ (fun i hi => by rw [fil, if_pos hi]) hS 320 (Nat.le_refl _) j hj, cs_le _ _ _ _⟩)
theorem mNx_s (g : Nat → Nat → Int32) (n k : Nat) : mNx g n (k + 1) = ((if (mWst (mSays g n k (fil (mNx g n k).2.2 (fun _ => nI 0) 8) 320) 8).toInt ≤ 0 then (mNx g n k).1 else if (mNx g n k).2.1.toInt ≤ (mWst (mSays g n k (fil (mNx g n k).2.2 (fun _ => nI 0) 8) 320) 8).toInt then (mNx g n k).1 else nI k), (if (mNx g n k).2.1.toInt ≤ (mWst (mSays g n k (fil (mNx g n k).2.2 (fun _ => nI 0) 8) 320) 8).toInt then (mNx g n k).2.1 else (mWst (mSays g n k (fil (mNx g n k).2.2 (fun _ => nI 0) 8) 320) 8)), mSays g n k (fil (mNx g n k).2.2 (fun _ => nI 0) 8) 320) := by rw [mNx]
theorem mnx_0 (g' : Nat → Nat → Int32) (d : Nat) {S : Nat → Bool} (hS : ∀ k, mSo g' d k = S k) (h0 : cn S 320 = 0) : ∀ k, k ≤ 8 → (mNx g' d k).1 = (-1) := by
  intro k
  induction k with
  | zero => intro _; rfl
  | succ k ih =>
    intro hk
    rw [mNx_s, mnx_e g' d hS k (by omega), wv_0 S k h0, if_pos (show (nI 0).toInt ≤ 0 by rw [tn (n := 0) (by decide)]; decide)]
    generalize mSays g' d k _ 320 = Z
    exact ih (by omega)
theorem mnx_p (g' : Nat → Nat → Int32) (d : Nat) {S : Nat → Bool} (hS : ∀ k, mSo g' d k = S k) (h0 : 0 < cn S 320) : ∀ k, k < 8 → (mNx g' d (k + 1)).1 = nI (bw S k).1 ∧ (mNx g' d (k + 1)).2.1 = nI (bw S k).2 := by
  have e : ∀ k, k < 8 → (mNx g' d (k + 1)).1 = (if (nI (wv S k)).toInt ≤ 0 then (mNx g' d k).1 else if (mNx g' d k).2.1.toInt ≤ (nI (wv S k)).toInt then (mNx g' d k).1 else nI k) ∧ (mNx g' d (k + 1)).2.1 = (if (mNx g' d k).2.1.toInt ≤ (nI (wv S k)).toInt then (mNx g' d k).2.1 else nI (wv S k)) := by
    intro k hk
    rw [mNx_s, mnx_e g' d hS k hk]
    generalize mSays g' d k _ 320 = Z
    exact ⟨rfl, rfl⟩
  intro k
  induction k with
  | zero =>
    intro _
    have hp := wv_p S (u := 0) (by decide) h0
    have hl := wv_le S 0
    have e0 := e 0 (by decide)
    have h1 : (mNx g' d 0).2.1 = nI 321 := rfl
    rw [h1, tn (n := wv S 0) (by omega), tn (n := 321) (by decide), if_neg (by omega), if_neg (by omega), if_neg (by omega)] at e0
    exact e0
  | succ k ih =>
    intro hk
    obtain ⟨i1, i2⟩ := ih (by omega)
    have hp := wv_p S (u := k + 1) hk h0
    have hl := wv_le S (k + 1)
    have hb := bw_le S k
    have e0 := e (k + 1) hk
    rw [i1, i2, tn (n := wv S (k + 1)) (by omega), tn (n := (bw S k).2) (by omega), if_neg (by omega)] at e0
    have eb : bw S (k + 1) = if (bw S k).2 ≤ wv S (k + 1) then bw S k else (k + 1, wv S (k + 1)) := rfl
    rw [eb]
    by_cases hc : (bw S k).2 ≤ wv S (k + 1)
    · rw [if_pos (by omega), if_pos (by omega)] at e0
      rw [if_pos hc]
      exact e0
    · rw [if_neg (by omega), if_neg (by omega)] at e0
      rw [if_neg hc]
      exact e0
theorem xnx_e (g : Nat → Nat → Int32) {S : Nat → Bool} (hw : ∀ u, u < 8 → xWo g u 8 = nI (wv S u)) : ∀ k, k < 8 → xNx g k = (nI (bw S k).1, nI (bw S k).2) := by
  intro k
  induction k with
  | zero => intro _; show (nI 0, xWo g 0 8) = _; rw [hw 0 (by decide)]; rfl
  | succ k ih =>
    intro hk
    have hl := wv_le S (k + 1)
    have hb := bw_le S k
    have e : xNx g (k + 1) = if (xNx g k).2.toInt ≤ (xWo g (k + 1) 8).toInt then xNx g k else (nI (k + 1), xWo g (k + 1) 8) := rfl
    rw [e, ih (by omega), hw (k + 1) hk]
    show (if (nI (bw S k).2).toInt ≤ (nI (wv S (k + 1))).toInt then _ else _) = _
    rw [tn (n := wv S (k + 1)) (by omega), tn (n := (bw S k).2) (by omega)]
    have eb : bw S (k + 1) = if (bw S k).2 ≤ wv S (k + 1) then bw S k else (k + 1, wv S (k + 1)) := rfl
    rw [eb]
    by_cases hc : (bw S k).2 ≤ wv S (k + 1)
    · rw [if_pos (by omega), if_pos hc]
    · rw [if_neg (by omega), if_neg hc]
/-! draws, ageing -/
theorem msk31 (y : Int64) : ∃ a, a < 2 ^ 31 ∧ (y &&& 2147483647).toInt32 = nI a := by
  refine ⟨y.toBitVec.toNat % 2 ^ 31, Nat.mod_lt _ (by decide), ?_⟩
  have hm : ∀ i, i < 32 → (2147483647 : Int64).toBitVec.getLsbD i = decide (i < 31) := by decide +kernel
  apply Int32.toBitVec_inj.mp
  apply BitVec.eq_of_getLsbD_eq
  intro i hi
  rw [Int64.toBitVec_toInt32, BitVec.getLsbD_signExtend, if_pos (show i < 64 by omega), Int64.toBitVec_and, BitVec.getLsbD_and, hm i hi, decide_eq_true hi, Bool.true_and]
  show _ = (BitVec.ofNat 32 (y.toBitVec.toNat % 2 ^ 31)).getLsbD i
  rw [BitVec.getLsbD_ofNat, Nat.testBit_mod_two_pow, decide_eq_true hi, Bool.true_and, Bool.and_comm]
  rfl
theorem nxs_nn (x : Int32) : ∃ a, a < 2 ^ 31 ∧ nxs x = nI a := msk31 _
theorem dr_eq {x : Int32} {a : Nat} (ha : a < 2 ^ 31) (hx : x = nI a) {m k : Nat} (hm : (nI m - nI 1).toBitVec.toNat = 2 ^ k - 1) (hk : 2 ^ k = m) (h0 : 0 < m) (hm2 : m < 2 ^ 31) : dq x m = nI (a / 65536 % m) ∧ dr x (nI m) = nI (a / 65536 % m) := by
  subst hx
  have hd : a / 65536 < 2 ^ 31 := Nat.lt_of_le_of_lt (Nat.div_le_self _ _) ha
  constructor
  · unfold dq
    rw [pk_shrN ha (nI 16 &&& 31) 16 (by decide +kernel), pk_andN (Nat.lt_of_le_of_lt (Nat.div_le_self _ _) (by omega)) k hm, hk]
  · unfold dr
    rw [pk_div ha (by decide) (by decide), pk_rem hd h0 hm2]
theorem dr_2 (x : Int32) : ∃ b, b < 2 ∧ dq (nxs x) 2 = nI b ∧ dr (nxs x) (nI 2) = nI b := by
  obtain ⟨a, h1, h2⟩ := nxs_nn x
  obtain ⟨e1, e2⟩ := dr_eq h1 h2 (m := 2) (k := 1) (by decide +kernel) (by decide) (by decide) (by decide)
  exact ⟨a / 65536 % 2, Nat.mod_lt _ (by decide), e1, e2⟩
theorem dr_8 (x : Int32) : ∃ b, b < 8 ∧ dq (nxs x) 8 = nI b ∧ dr (nxs x) (nI 8) = nI b := by
  obtain ⟨a, h1, h2⟩ := nxs_nn x
  obtain ⟨e1, e2⟩ := dr_eq h1 h2 (m := 8) (k := 3) (by decide +kernel) (by decide) (by decide) (by decide)
  exact ⟨a / 65536 % 8, Nat.mod_lt _ (by decide), e1, e2⟩
theorem and_m1 (x : Int32) : x &&& (nI 0 ^^^ (-1)) = x := by
  apply b_ext
  intro i hi
  have h : ∀ i, i < 32 → bt (nI 0 ^^^ (-1)) i = true := by decide +kernel
  rw [b_and, h i hi, Bool.and_true]
theorem pc7 : ∀ a, a < 8 → xbc (nI a) = prt (nI a) := by decide +kernel
theorem xRead_ok (k : Nat) (l r x : Int32) : ∀ j, j ≤ 6 → ∀ c, c < j → xHa (xRead k l r x j) c = see (nI k) l r (xHa x c) := by
  intro j
  induction j with
  | zero => intro _ c hc; exact absurd hc (by omega)
  | succ j ih =>
    intro hj c hc
    have e : xRead k l r x (j + 1) = xWh (xRead k l r x j) j (see (nI k) l r (xHa x j)) := rfl
    rw [e, xHa_xWh _ (by omega) (by omega) (ok7_see _ _ _ (ok7_xHa _ _))]
    by_cases h : c = j
    · rw [if_pos h, h]
    · rw [if_neg h]; exact ih (by omega) c (by omega)
theorem xRead_c {k k' : Nat} {l r l' r' x : Int32} (h : ∀ c, c < 6 → see (nI k) l r (xHa x c) = see (nI k') l' r' (xHa x c)) : ∀ j, j ≤ 6 → xRead k l r x j = xRead k' l' r' x j := by
  intro j
  induction j with
  | zero => intro _; rfl
  | succ j ih => intro hj; rw [xRead, xRead, ih (by omega), h j (by omega)]
theorem xRead_i (k k' : Nat) (l r l' r' x : Int32) : xRead k l r x 6 = xRead k' l' r' x 6 ↔ ∀ c, c < 6 → see (nI k) l r (xHa x c) = see (nI k') l' r' (xHa x c) := by
  constructor
  · intro h c hc
    rw [← xRead_ok k l r x 6 (Nat.le_refl 6) c hc, h, xRead_ok k' l' r' x 6 (Nat.le_refl 6) c hc]
  · intro h; exact xRead_c h 6 (Nat.le_refl 6)
section PURE
variable {N k1 n k8 c q d : Nat} {f : Nat → Int32} {g : Nat → Nat → Int32} {pa : Nat → Option Nat} {tq : Nat → Nat → Int32} {pd pk : Nat → Nat} {pv : Nat → Nat → Int32} {f' : Nat → Int32} {g' : Nat → Nat → Int32} {h' : Int64}
theorem p_next (R : RR N k1 n k8 c q d f g pa pd pk pv f' g') : (xNext f g pa tq n pd pk pv d q).1 = (mNext f' g' h' d q).1 ∧ RS (N + 1) (xNext f g pa tq n pd pk pv d q).2 (mNext f' g' h' d q).2 := by
  unfold xNext mNext
  obtain ⟨R1, R2, R3, ⟨c1, c2, c3, c4, c5, c6, c7⟩, R5, R6, R7⟩ := R
  by_cases h2 : q = 60
  · rw [if_neg (by omega), if_pos h2]
    exact ⟨rfl, k1, k8, c, q, d, R1, R2, R3, ⟨c1, c2, c3, by omega, c5, c6, c7⟩, R5, R6, R7⟩
  · rw [if_pos (by omega), if_neg h2]
    refine ⟨?_, k1, k8, c, q + 1, d, R1, R2, R3, ⟨c1, c2, c3, by omega, by omega, rfl, rfl⟩, R5, R6, R7⟩
    have hS : ∀ k, xCf g d k = mSo g' d k := cf_eq R6
    generalize hm : mSo g' d = S at hS
    have hS' : ∀ k, mSo g' d k = S k := fun k => by rw [hm]
    have hc : ∀ k, k ≤ 320 → xCy g d k = nI (cn S k) := by
      intro k
      induction k with
      | zero => intro _; rfl
      | succ k ih =>
        intro hk
        rw [xCy, cn, hS, ih (by omega)]
        by_cases h : S k = true
        · rw [if_pos h, if_pos h, nI_1]
        · rw [if_neg h, if_neg h]
    have hl := cn_le S 320
    dsimp only
    rw [hc 320 (Nat.le_refl _)]
    by_cases h0 : cn S 320 = 0
    · rw [h0, if_pos rfl, mnx_0 g' d hS' h0 8 (Nat.le_refl 8)]
    · rw [if_neg (fun z => h0 ((nI_eq (by omega) (by omega)).mp z))]
      have hw : ∀ u, u < 8 → xWo (xSyG g d) u 8 = nI (wv S u) := by
        intro u hu
        exact wo_e (fun j hj => ⟨sy_e g d (fil (g 6) (fun _ => nI 0) 64) (fun i hi => by rw [fil, if_pos hi]) hS 320 (Nat.le_refl _) u j hu hj, cs_le _ _ _ _⟩)
      rw [xnx_e (xSyG g d) hw 7 (by decide)]
      exact (mnx_p g' d hS' (by omega) 7 (by decide)).1.symm
theorem age_eq (s3 : ∀ c, c < 6 → xHa (f 6) c = g' 5 c) (R : rPpl n f pa pd pk pv f' g') {i : Nat} (hi : i < n) (z : Int32) : ∀ j, xAgS z j = (mAg g' i z j).1 ∧ xAgV (xAgW tq pk pv i) z j 0 = (mAg g' i z j).2.1 ∧ xAgV (xAgW tq pk pv i) z j 1 = (mAg g' i z j).2.2.1 ∧ ok7 (xAgV (xAgW tq pk pv i) z j 0) ∧ ok7 (xAgV (xAgW tq pk pv i) z j 1) ∧ xAgC (pk i) (xAgW tq pk pv i) z (f 6) (xRead (pk i) (pv i 0) (pv i 1) (f 6) 6) j = (mAg g' i z j).2.2.2 := by
  obtain ⟨_, hk, w0, w1, w2, w3, w4, hT⟩ := R.2.2.2 i hi
  have w0 : g' 8 (10 * i + 0) = _ := w0
  have w1 : g' 8 (10 * i + 1) = _ := w1
  have w2 : g' 8 (10 * i + 2) = _ := w2
  rw [Nat.add_zero] at w0
  intro j
  induction j with
  | zero => exact ⟨rfl, w1.symm, w2.symm, w3, w4, rfl⟩
  | succ j ih =>
    obtain ⟨i1, i2, i3, i4, i5, i6⟩ := ih
    have eS : xAgS z (j + 1) = nxs (nxs (xAgS z j)) := rfl
    have eV : xAgV (xAgW tq pk pv i) z (j + 1) = xLose (xAgV (xAgW tq pk pv i) z j) (dq (nxs (xAgS z j)) 2) (dq (nxs (nxs (xAgS z j))) 8) := rfl
    have eC : xAgC (pk i) (xAgW tq pk pv i) z (f 6) (xRead (pk i) (pv i 0) (pv i 1) (f 6) 6) (j + 1) = if xAgC (pk i) (xAgW tq pk pv i) z (f 6) (xRead (pk i) (pv i 0) (pv i 1) (f 6) 6) j = (-1) then (if xRead (pk i) (xAgV (xAgW tq pk pv i) z (j + 1) 0) (xAgV (xAgW tq pk pv i) z (j + 1) 1) (f 6) 6 = xRead (pk i) (pv i 0) (pv i 1) (f 6) 6 then xAgC (pk i) (xAgW tq pk pv i) z (f 6) (xRead (pk i) (pv i 0) (pv i 1) (f 6) 6) j else nI (j + 1)) else xAgC (pk i) (xAgW tq pk pv i) z (f 6) (xRead (pk i) (pv i 0) (pv i 1) (f 6) 6) j := rfl
    generalize xAgV (xAgW tq pk pv i) z j = v at i2 i3 i4 i5 eV
    generalize hM : mAg g' i z j = M at i1 i2 i3 i6
    obtain ⟨a, b1, b2, b3⟩ := M
    have eM : mAg g' i z (j + 1) = (nxs (nxs a), (if dr (nxs a) (nI 2) = nI 0 then b1 &&& (mAgG (dr (nxs (nxs a)) (nI 8)) ^^^ (-1)) else b1), (if dr (nxs a) (nI 2) = nI 1 then b2 &&& (mAgG (dr (nxs (nxs a)) (nI 8)) ^^^ (-1)) else b2), (if b3 = (-1) then (if mLike g' i (if dr (nxs a) (nI 2) = nI 0 then b1 &&& (mAgG (dr (nxs (nxs a)) (nI 8)) ^^^ (-1)) else b1) (if dr (nxs a) (nI 2) = nI 1 then b2 &&& (mAgG (dr (nxs (nxs a)) (nI 8)) ^^^ (-1)) else b2) = true then b3 else nI (j + 1)) else b3)) := by
      rw [mAg, hM]
    have i1 : xAgS z j = a := i1
    have i2 : v 0 = b1 := i2
    have i3 : v 1 = b2 := i3
    have i6 : _ = b3 := i6
    rw [i1] at eS eV
    have hLV : xAgV (xAgW tq pk pv i) z (j + 1) 0 = (if dr (nxs a) (nI 2) = nI 0 then b1 &&& (mAgG (dr (nxs (nxs a)) (nI 8)) ^^^ (-1)) else b1) ∧ xAgV (xAgW tq pk pv i) z (j + 1) 1 = (if dr (nxs a) (nI 2) = nI 1 then b2 &&& (mAgG (dr (nxs (nxs a)) (nI 8)) ^^^ (-1)) else b2) := by
      rw [eV]
      obtain ⟨e, e1, e2, e3⟩ := dr_2 a
      obtain ⟨t, t1, t2, t3⟩ := dr_8 (nxs a)
      rw [e2, e3, t2, t3]
      have q1 := nI_eq (a := e) (b := 0) (by omega) (by omega)
      have q2 := nI_eq (a := e) (b := 1) (by omega) (by omega)
      unfold xLose mAgG
      rw [tn (n := t) (by omega), if_neg (by omega)]
      by_cases h3 : t < 3
      · rw [if_pos (show (t : Int) < ((3 : Nat) : Int) by omega), if_neg (show ¬ ((3 : Nat) : Int) ≤ (t : Int) by omega)]
        by_cases h0 : e = 0
        · rw [if_pos (q1.mpr h0), if_pos (q1.mpr h0), if_neg (fun z => by have := q2.mp z; omega), i2]
          exact ⟨rfl, i3⟩
        · rw [if_neg (fun z => h0 (q1.mp z)), if_neg (fun z => h0 (q1.mp z)), if_pos (q2.mpr (by omega)), i3]
          exact ⟨i2, rfl⟩
      · rw [if_neg (show ¬ (t : Int) < ((3 : Nat) : Int) by omega), if_pos (show ((3 : Nat) : Int) ≤ (t : Int) by omega), and_m1, and_m1]
        refine ⟨?_, ?_⟩
        · rw [i2]; split <;> rfl
        · rw [i3]; split <;> rfl
    have hok : ok7 (xAgV (xAgW tq pk pv i) z (j + 1) 0) ∧ ok7 (xAgV (xAgW tq pk pv i) z (j + 1) 1) := by
      rw [hLV.1, hLV.2, ← i2, ← i3]
      constructor
      · split
        · exact ok7_land i4 _
        · exact i4
      · split
        · exact ok7_land i5 _
        · exact i5
    rw [eM]
    refine ⟨eS, hLV.1, hLV.2, hok.1, hok.2, ?_⟩
    rw [eC, i6, hLV.1, hLV.2]
    generalize (if dr (nxs a) (nI 2) = nI 0 then b1 &&& (mAgG (dr (nxs (nxs a)) (nI 8)) ^^^ (-1)) else b1) = L
    generalize (if dr (nxs a) (nI 2) = nI 1 then b2 &&& (mAgG (dr (nxs (nxs a)) (nI 8)) ^^^ (-1)) else b2) = Rr
    have hlk : mLike g' i L Rr = true ↔ xRead (pk i) L Rr (f 6) 6 = xRead (pk i) (pv i 0) (pv i 1) (f 6) 6 := by
      rw [xRead_i, mLike, alB_iff]
      constructor
      · intro h c hc
        have := h c hc
        rw [mLikeAt, decide_eq_true_eq, w0, see_eq R hi, ← s3 c hc] at this
        exact this
      · intro h c hc
        rw [mLikeAt, decide_eq_true_eq, w0, see_eq R hi, ← s3 c hc]
        exact h c hc
    show (if b3 = (-1) then _ else b3) = (if b3 = (-1) then _ else b3)
    by_cases hb : b3 = (-1)
    · rw [if_pos hb, if_pos hb]
      by_cases hr : xRead (pk i) L Rr (f 6) 6 = xRead (pk i) (pv i 0) (pv i 1) (f 6) 6
      · rw [if_pos hr, if_pos (hlk.mpr hr)]
      · rw [if_neg hr, if_neg (fun z => hr (hlk.mp z))]
    · rw [if_neg hb, if_neg hb]
theorem p_ageing (R : RR N k1 n k8 c q d f g pa pd pk pv f' g') (x y z w : Int32) : (xAgeing f g pa tq n pd pk pv x y z w).1 = (mAgeing f' g' h' n x y z w).1 ∧ RS (N + 1) (xAgeing f g pa tq n pd pk pv x y z w).2 (mAgeing f' g' h' n x y z w).2 := by
  unfold xAgeing mAgeing
  by_cases h : 0 ≤ x.toInt ∧ x.toInt ≤ (n : Int) - 1
  · rw [if_pos ((ok_iff x n).mpr h), if_pos h]
    by_cases h1 : 1 ≤ y.toInt ∧ y.toInt ≤ 60
    · rw [if_pos h1]
      by_cases h2 : z.toInt < 0
      · rw [if_neg (by omega), if_pos h2]; exact ⟨rfl, R.rs1⟩
      · rw [if_neg h2]
        by_cases h3 : 0 ≤ w.toInt ∧ w.toInt ≤ 2
        · rw [if_pos ⟨h1.1, h1.2, by omega, h3.1, h3.2⟩, if_pos h3]
          obtain ⟨R1, R2, R3, R4, R5, R6, R7⟩ := R
          refine ⟨?_, k1, k8, c, q, d, R1, R2, R3, R4.up, R5, R6, R7⟩
          obtain ⟨s1, s2, s3⟩ := sg_per R2 (by omega)
          have hi : x.toInt.toNat < n := by omega
          obtain ⟨a1, a2, a3, a4, a5, a6⟩ := age_eq (tq := tq) s3 R5 hi z y.toInt.toNat
          show xAgR f tq pk pv x.toInt.toNat y.toInt.toNat z w = _
          unfold xAgR
          have e0 : w = nI 0 ↔ w.toInt = 0 := by rw [eqi, tn (n := 0) (by decide)]; rfl
          have e1 : w = nI 1 ↔ w.toInt = 1 := by rw [eqi, tn (n := 1) (by decide)]; rfl
          by_cases c0 : w.toInt = 0
          · rw [if_pos c0, if_pos (e0.mpr c0)]; exact a6
          · rw [if_neg c0, if_neg (fun z => c0 (e0.mp z))]
            by_cases c1 : w.toInt = 1
            · rw [if_pos c1, if_pos (e1.mpr c1)]
              obtain ⟨u1, v1, v2⟩ := ok7_ex a4
              obtain ⟨u2, v3, v4⟩ := ok7_ex a5
              rw [← a2, ← a3, v2, v4, pc7 _ v1, pc7 _ v3]
            · rw [if_neg c1, if_neg (fun z => c1 (e1.mp z))]; exact a1
        · rw [if_neg (by omega), if_neg h3]; exact ⟨rfl, R.rs1⟩
    · rw [if_neg (by omega), if_neg h1]; exact ⟨rfl, R.rs1⟩
  · rw [if_neg (fun z => h ((ok_iff x n).mp z)), if_neg h]; exact ⟨rfl, R.rs1⟩
end PURE
