/-! the model's world: a: the object; o k: the address of the array in slot k; f k: the int in slot k; g k: the array of slot k; h: the hash -/
def mF (o : Nat → Nat) (f : Nat → Int32) (h : Int64) : List Value := [.ref (o 0), .int (f 1), .int (f 2), .int (f 3), .int (f 4), .ref (o 5), .int (f 6), .int (f 7), .ref (o 8), .ref (o 9), .int (f 10), .int (f 11), .ref (o 12), .ref (o 13), .int (f 14), .int (f 15), .int (f 16), .int (f 17), .int (f 18), .int (f 19), .ref (o 20), .ref (o 21), .ref (o 22), .ref (o 23), .long h]
def mW (cI : ClassId) (a : Nat) (o : Nat → Nat) (f : Nat → Int32) (g : Nat → Nat → Int32) (h : Int64) : va_W := [(a, .inr (8, mF o f h)), (o 0, .inl (cI, 10, .inl (g 0))), (o 5, .inl (cI, 6, .inl (g 5))), (o 8, .inl (cI, 40, .inl (g 8))), (o 9, .inl (cI, 5, .inl (g 9))), (o 12, .inl (cI, 16, .inl (g 12))), (o 13, .inl (cI, 8, .inl (g 13))), (o 20, .inl (cI, 6, .inl (g 20))), (o 21, .inl (cI, 40, .inl (g 21))), (o 22, .inl (cI, 5, .inl (g 22))), (o 23, .inl (cI, 16, .inl (g 23)))]
abbrev MSt : Type := (Nat → Int32) × (Nat → Nat → Int32) × Int64
/-- what the model's cells are behind a method -/
def mB (dC : Nat → ClassId) (dI : Nat → Nat → Nat) (cI : ClassId) (a : Nat) (o : Nat → Nat) (A : Nat → Prop) (u : MSt) (t : State) : Prop := va_P (dC, dI) vwCl (mW cI a o u.1 u.2.1 u.2.2) t.heap ∧ va_K (dC, dI) vwCl [(cI, .int)] t ∧ va_D A (mW cI a o u.1 u.2.1 u.2.2)
theorem nar_b2i {P : Prop} [Decidable P] : narrow .boolean (.int (b2i P)) = .int (b2i P) := by
  by_cases h : P
  · rw [b2i, if_pos h]; rfl
  · rw [b2i, if_neg h]; rfl
/-- what a kind makes of both eyes -/
def see (k l r h : Int32) : Int32 := if k.toInt = 0 then (h &&& l) ||| (h &&& r) else if k.toInt = 1 then (h &&& l) ^^^ (h &&& r) else if k.toInt = 2 then (h &&& l) &&& (h &&& r) else if k.toInt = 3 then (if h &&& l = nI 0 then h &&& r else h &&& l) else h &&& r
/-- the model's p-th person sees -/
def mS (g : Nat → Nat → Int32) (p : Nat) (h : Int32) : Int32 := see (g 8 (10 * p)) (g 8 (10 * p + 1)) (g 8 (10 * p + 2)) h
def mdg (g : Nat → Nat → Int32) (j : Nat) : Bool := decide (48 ≤ (g 0 j).toInt ∧ (g 0 j).toInt ≤ 55)
def mfl (g : Nat → Nat → Int32) (n : Nat) : Nat := fst1 (fun j => !mdg g j) (min n 6)
def mSix (g : Nat → Nat → Int32) (n : Nat) : Prop := n = 6 ∧ mfl g n = 6
def mInk (f : Nat → Int32) (g : Nat → Nat → Int32) : Int32 := if f 2 = nI 0 then nI 0 else sm (fun c => if g 5 c = nI 0 then 0 else 1) 6
def mHue (f : Nat → Int32) (g : Nat → Nat → Int32) (x : Int32) : Int32 := if f 2 = nI 0 then (-101) else if 0 ≤ x.toInt ∧ x.toInt ≤ 5 then g 5 x.toInt.toNat else (-101)
def mTrue (g : Nat → Nat → Int32) (p : Nat) : Int32 := sm (fun j => if mS g p (nI j) = nI j then 1 else 0) 8
def mTell (g : Nat → Nat → Int32) (p : Nat) (x : Int32) : Int32 := if 0 ≤ x.toInt ∧ x.toInt ≤ 2 then g 8 (10 * p + x.toInt.toNat) else if 10 ≤ x.toInt ∧ x.toInt ≤ 15 then mS g p (g 5 (x.toInt.toNat - 10)) else if 20 ≤ x.toInt ∧ x.toInt ≤ 25 then (if g 8 (10 * p + 3) = nI 1 then g 8 (10 * p + x.toInt.toNat - 16) else (-1)) else if x = nI 3 then mTrue g p else (-102)
def mIs (x : Int32) (n : Nat) : Prop := 0 ≤ x.toInt ∧ x.toInt ≤ (n : Int) - 1
def mAbout (g : Nat → Nat → Int32) (n : Nat) (q x : Int32) : Int32 := if 0 ≤ q.toInt ∧ q.toInt ≤ (n : Int) - 1 then mTell g q.toInt.toNat x else (-101)
def mAs (g : Nat → Nat → Int32) (n : Nat) (q x : Int32) : Int32 := if 0 ≤ q.toInt ∧ q.toInt ≤ (n : Int) - 1 then (if 0 ≤ x.toInt ∧ x.toInt ≤ 4 then (if x = nI 0 then nI q.toInt.toNat else if x = g 8 (10 * q.toInt.toNat) then nI q.toInt.toNat else if x = nI 3 then (if g 8 (10 * q.toInt.toNat) = nI 4 then nI q.toInt.toNat else (-1)) else (-1)) else (-102)) else (-101)
def mSees (g : Nat → Nat → Int32) (n : Nat) (q x : Int32) : Int32 := if 0 ≤ q.toInt ∧ q.toInt ≤ (n : Int) - 1 then (if 0 ≤ x.toInt ∧ x.toInt ≤ 7 then mS g q.toInt.toNat x else (-102)) else (-101)
def mInkOf (g : Nat → Nat → Int32) (n : Nat) (q : Int32) : Int32 := if 0 ≤ q.toInt ∧ q.toInt ≤ (n : Int) - 1 then g 9 q.toInt.toNat else (-101)
def mWm (g : Nat → Nat → Int32) (n : Nat) : Int32 := sm (fun j => g 8 (10 * j + 3)) n
def mDo (g : Nat → Nat → Int32) (p q : Nat) : Int32 := if fst1 (fun c => !decide (mS g p (g 5 c) = mS g q (g 5 c))) 6 < 6 then nI (fst1 (fun c => !decide (mS g p (g 5 c) = mS g q (g 5 c))) 6) else (-1)
def mDiffer (g : Nat → Nat → Int32) (n : Nat) (p q : Int32) : Int32 := if 0 ≤ p.toInt ∧ p.toInt ≤ (n : Int) - 1 then (if 0 ≤ q.toInt ∧ q.toInt ≤ (n : Int) - 1 then mDo g p.toInt.toNat q.toInt.toNat else (-101)) else (-101)
def mAo (g : Nat → Nat → Int32) (p q : Nat) : Int32 := sm (fun j => if mS g p (nI j) = mS g q (nI j) then 1 else 0) 8
def mAlike (g : Nat → Nat → Int32) (n : Nat) (p q : Int32) : Int32 := if 0 ≤ p.toInt ∧ p.toInt ≤ (n : Int) - 1 then (if 0 ≤ q.toInt ∧ q.toInt ≤ (n : Int) - 1 then mAo g p.toInt.toNat q.toInt.toNat else (-101)) else (-101)
theorem dec_toInt {n : Nat} (h : n < 2 ^ 30) : ((nI n - nI 1).toInt64).toInt = (n : Int) - 1 := by
  rw [Int32.toInt_toInt64, pk_sub_toInt h (by decide)]
  rfl
/-- all whom a word is told read it at cell c where the cell shows x -/
def mRd (g : Nat → Nat → Int32) (c : Nat) (x : Int32) (p : Nat) : Bool := decide (g 8 (10 * p + 3) = nI 0) || decide (mS g p x = g 8 (10 * p + 4 + c))
def mRead (g : Nat → Nat → Int32) (n c : Nat) (x : Int32) : Bool := alB (mRd g c x) n
def mUn (g : Nat → Nat → Int32) (x0 : Int32) (t : Nat) : Nat → Int32
  | 0 => x0
  | k + 1 => mUn g x0 t k ||| (if ((nI t >>> (nI k &&& 31)) &&& nI 1) = nI 1 then g 9 k else nI 0)
def mMayAt (g : Nat → Nat → Int32) (n i c : Nat) (set : Nat) (t : Nat) : Bool := decide ((nI t &&& (nI set ^^^ (-1))) = nI 0) && mRead g n c (mUn g (g 5 c) t i)
def exB (p : Nat → Bool) (n : Nat) : Bool := !alB (fun j => !p j) n
theorem exB_iff {p : Nat → Bool} {n : Nat} : exB p n = true ↔ ∃ j, j < n ∧ p j = true := by
  constructor
  · intro h
    by_cases h2 : alB (fun j => !p j) n = true
    · rw [exB, h2] at h; cases h
    · have h3 : ¬ ∀ j, j < n → (!p j) = true := fun z => h2 (alB_iff.mpr z)
      exact Classical.byContradiction (fun z => h3 (fun j hj => by
        cases hp : p j with
        | false => rfl
        | true => exact absurd ⟨j, hj, hp⟩ z))
  · intro ⟨j, hj, hp⟩
    cases h2 : alB (fun j => !p j) n with
    | false => rw [exB, h2]; rfl
    | true =>
      have := alB_iff.mp h2 j hj
      rw [hp] at this; cases this
def mMayB (g : Nat → Nat → Int32) (n i c : Nat) (set : Nat) : Bool := exB (mMayAt g n i c set) 32
/-- how many of five bits -/
def ons (x : Int32) : Int32 := sm (fun j => (x >>> (nI j &&& 31)) &&& 1) 5
abbrev mLess (x b : Int32) : Prop := b = (-1) ∨ (ons x).toInt < (ons b).toInt
def mBest (g : Nat → Nat → Int32) (n i : Nat) : Nat → Int32
  | 0 => (-1)
  | k + 1 => if mLess (nI k) (mBest g n i k) ∧ alB (fun c => mMayB g n i c k) 6 = true then nI k else mBest g n i k
def mFewOf (g : Nat → Nat → Int32) (n i : Nat) (x : Int32) : Int32 := if mBest g n i (2 ^ i) = (-1) then mBest g n i (2 ^ i) else if x = nI 1 then mBest g n i (2 ^ i) else ons (mBest g n i (2 ^ i))
def mFew (f : Nat → Int32) (g : Nat → Nat → Int32) (n i : Nat) (x : Int32) : Int32 := if 0 ≤ x.toInt ∧ x.toInt ≤ 1 then (if f 2 = nI 0 then (-103) else mFewOf g n i x) else (-102)
theorem shl1 : ∀ k, k ≤ 5 → nI 1 <<< (nI k &&& 31) = nI (2 ^ k) := by
  intro k hk
  have h : ∀ k, k < 6 → nI 1 <<< (nI k &&& 31) = nI (2 ^ k) := by decide +kernel
  exact h k (by omega)
theorem pow5 : ∀ {k}, k ≤ 5 → 2 ^ k ≤ 32 := by
  intro k hk
  have h : ∀ k, k < 6 → 2 ^ k ≤ 32 := by decide
  exact h k (by omega)
def mSoAt (g : Nat → Nat → Int32) (code j : Nat) : Bool := decide (see (nI (code / 64)) (nI (code / 8 % 8)) (nI (code % 8)) (g 12 (2 * j)) = g 12 (2 * j + 1))
def mSo (g : Nat → Nat → Int32) (n code : Nat) : Bool := alB (mSoAt g code) n
def mCount (f : Nat → Int32) (g : Nat → Nat → Int32) (n1 n6 n7 n10 : Nat) (x : Int32) : Int32 := if x.toInt = 0 then mInk f g else if x.toInt = 1 then nI n6 else if x.toInt = 2 then nI n7 else if x.toInt = 3 then f 3 else if x.toInt = 4 then mWm g n6 else if x.toInt = 5 then nI n10 else if x.toInt = 6 then nI n1 else if x.toInt = 7 then f 4 else if x.toInt = 8 then f 11 else (-102)
def mLikeAt (g : Nat → Nat → Int32) (p : Nat) (x y : Int32) (c : Nat) : Bool := decide (see (g 8 (10 * p)) x y (g 5 c) = mS g p (g 5 c))
def mLike (g : Nat → Nat → Int32) (p : Nat) (x y : Int32) : Bool := alB (mLikeAt g p x y) 6
