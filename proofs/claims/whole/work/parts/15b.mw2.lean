/-! what the writing methods do -/
theorem su_fil_at {α : Type} (f g : Nat → α) (k : Nat) : fil f g k k = f k := by simp [fil]
def pur {α : Type} (f : Nat → α) (b : Nat) (G : Nat → α) (k : Nat) : Nat → α := fun j => if b ≤ j ∧ j < b + k then G (j - b) else f j
theorem pur_0 {α : Type} (f : Nat → α) (b : Nat) (G : Nat → α) : pur f b G 0 = f := by
  funext j
  unfold pur
  have h : ¬ (b ≤ j ∧ j < b + 0) := by omega
  rw [if_neg h]
theorem pur_s {α : Type} (f : Nat → α) (b : Nat) (G : Nat → α) (k : Nat) : su (pur f b G k) (b + k) (G k) = pur f b G (k + 1) := by
  funext j
  unfold su pur
  by_cases h : j = b + k
  · subst h
    rw [if_pos rfl, if_pos (by omega), Nat.add_sub_cancel_left]
  · rw [if_neg h]
    by_cases h2 : b ≤ j ∧ j < b + k
    · rw [if_pos h2, if_pos (by omega)]
    · rw [if_neg h2, if_neg (by omega)]
def mLetter (f : Nat → Int32) (g : Nat → Nat → Int32) (h : Int64) (n : Nat) (x : Int32) : Int32 × MSt := if 1 ≤ x.toInt ∧ x.toInt ≤ 126 then (if n = 10 then ((-104), f, g, h) else (nI (n + 1), su f 1 (nI (n + 1)), su g 0 (su (g 0) n x), h)) else ((-102), f, g, h)
def mBlank (f : Nat → Int32) (g : Nat → Nat → Int32) (h : Int64) (n : Nat) : Int32 × MSt := (nI n, su f 1 (nI 0), g, h)
def mSignF (f : Nat → Int32) : Nat → Int32 := su (su (su (su (su (su (su f 6 (nI 0)) 7 (nI 0)) 10 (nI 0)) 3 (nI 0)) 2 (nI 1)) 4 (f 4 + nI 1)) 1 (nI 0)
def mSignG (g : Nat → Nat → Int32) : Nat → Nat → Int32 := su g 5 (fil (g 5) (fun j => g 0 j - nI 48) 6)
def mSign (f : Nat → Int32) (g : Nat → Nat → Int32) (h : Int64) (n : Nat) : Int32 × MSt := if n = 6 ∧ mfl g n = 6 then (mInk (mSignF f) (mSignG g), mSignF f, mSignG g, h) else ((-103), f, g, h)
def mLay (g : Nat → Nat → Int32) (q : Nat) (x : Int32) (c : Nat) : Int32 := if (x >>> (nI c &&& 31)) &&& nI 1 = nI 1 then g 5 c ||| g 9 q else g 5 c
def mLayer (f : Nat → Int32) (g : Nat → Nat → Int32) (h : Int64) (n : Nat) (q x : Int32) : Int32 × MSt := if 0 ≤ q.toInt ∧ q.toInt ≤ (n : Int) - 1 then (if 0 ≤ x.toInt ∧ x.toInt ≤ 63 then (sm (fun c => if mLay g q.toInt.toNat x c = g 5 c then nI 0 else nI 1) 6, su f 3 (f 3 + nI 1), su g 5 (fil (g 5) (mLay g q.toInt.toNat x) 6), h) else ((-102), f, g, h)) else ((-101), f, g, h)
def mPerson (f : Nat → Int32) (g : Nat → Nat → Int32) (h : Int64) (n : Nat) (k x y : Int32) : Int32 × MSt := if 0 ≤ k.toInt ∧ k.toInt ≤ 4 then (if 0 ≤ x.toInt ∧ x.toInt ≤ 7 then (if 0 ≤ y.toInt ∧ y.toInt ≤ 7 then (if f 2 = nI 0 then ((-103), f, g, h) else if n = 4 then ((-104), f, g, h) else (nI (n + 1 - 1), su f 6 (nI (n + 1)), su g 8 (su (su (su (su (g 8) (10 * n) k) (10 * n + 1) x) (10 * n + 2) y) (10 * n + 3) (nI 0)), h)) else ((-102), f, g, h)) else ((-102), f, g, h)) else ((-102), f, g, h)
def mEye (f : Nat → Int32) (g : Nat → Nat → Int32) (h : Int64) (n : Nat) (q x y : Int32) : Int32 × MSt := if 0 ≤ q.toInt ∧ q.toInt ≤ (n : Int) - 1 then (if 0 ≤ x.toInt ∧ x.toInt ≤ 1 then (if 0 ≤ y.toInt ∧ y.toInt ≤ 7 then (g 8 (10 * q.toInt.toNat + 1 + x.toInt.toNat), f, su g 8 (su (g 8) (10 * q.toInt.toNat + 1 + x.toInt.toNat) y), h) else ((-102), f, g, h)) else ((-102), f, g, h)) else ((-101), f, g, h)
def mInkM (f : Nat → Int32) (g : Nat → Nat → Int32) (h : Int64) (n : Nat) (x : Int32) : Int32 × MSt := if 1 ≤ x.toInt ∧ x.toInt ≤ 7 then (if f 2 = nI 0 then ((-103), f, g, h) else if n = 5 then ((-104), f, g, h) else (nI (n + 1 - 1), su f 7 (nI (n + 1)), su g 9 (su (g 9) n x), h)) else ((-102), f, g, h)
def mWordG (g : Nat → Nat → Int32) (q : Nat) : Nat → Nat → Int32 := su g 8 (su (pur (g 8) (10 * q + 4) (fun j => g 0 j - nI 48) 6) (10 * q + 3) (nI 1))
def mWord (f : Nat → Int32) (g : Nat → Nat → Int32) (h : Int64) (n1 n : Nat) (q : Int32) : Int32 × MSt := if 0 ≤ q.toInt ∧ q.toInt ≤ (n : Int) - 1 then (if n1 = 6 ∧ mfl g n1 = 6 then (mWm (mWordG g q.toInt.toNat) n, su f 1 (nI 0), mWordG g q.toInt.toNat, h) else ((-103), f, g, h)) else ((-101), f, g, h)
def mUnword (f : Nat → Int32) (g : Nat → Nat → Int32) (h : Int64) (n : Nat) (q : Int32) : Int32 × MSt := if 0 ≤ q.toInt ∧ q.toInt ≤ (n : Int) - 1 then (g 8 (10 * q.toInt.toNat + 3), f, su g 8 (su (g 8) (10 * q.toInt.toNat + 3) (nI 0)), h) else ((-101), f, g, h)
def mCard (f : Nat → Int32) (g : Nat → Nat → Int32) (h : Int64) (n : Nat) (x y : Int32) : Int32 × MSt := if 0 ≤ x.toInt ∧ x.toInt ≤ 7 then (if 0 ≤ y.toInt ∧ y.toInt ≤ 7 then (if n = 8 then ((-104), f, g, h) else (nI (n + 1), su f 10 (nI (n + 1)), su g 12 (su (su (g 12) (2 * n) x) (2 * n + 1) y), h)) else ((-102), f, g, h)) else ((-102), f, g, h)
def mForget (f : Nat → Int32) (g : Nat → Nat → Int32) (h : Int64) (n : Nat) : Int32 × MSt := (nI n, su f 10 (nI 0), g, h)
def mWhoN (g : Nat → Nat → Int32) (n : Nat) : Nat → Int32
  | 0 => nI 0
  | k + 1 => if mSo g n (319 - k) = true then mWhoN g n k + 1 else mWhoN g n k
def mWhoL (g : Nat → Nat → Int32) (n : Nat) : Nat → Int32
  | 0 => (-1)
  | k + 1 => if mSo g n (319 - k) = true then nI (319 - k) else mWhoL g n k
def mWho (f : Nat → Int32) (g : Nat → Nat → Int32) (h : Int64) (n nq : Nat) (x : Int32) : Int32 × MSt := if 0 ≤ x.toInt ∧ x.toInt ≤ 1 then (if nq = 60 then ((-103), f, g, h) else if x = nI 0 then (mWhoN g n 320, su f 11 (nI (nq + 1)), g, h) else (mWhoL g n 320, su f 11 (nI (nq + 1)), g, h)) else ((-102), f, g, h)
theorem dn319 (k : Nat) : (nI 319 - nI k) + (-1) = nI 319 - nI (k + 1) := by
  rw [← nI_1 k]
  apply Int32.toBitVec_inj.mp
  simp only [Int32.toBitVec_add, Int32.toBitVec_sub]
  generalize (nI 319).toBitVec = a
  generalize (nI k).toBitVec = b
  have h1 : (-1 : Int32).toBitVec = -1#32 := by decide +kernel
  have h2 : (1 : Int32).toBitVec = 1#32 := by decide +kernel
  rw [h1, h2, BitVec.sub_eq_add_neg, BitVec.sub_eq_add_neg, BitVec.neg_add, BitVec.sub_eq_add_neg, BitVec.add_assoc]
theorem dn_t {k : Nat} (h : k ≤ 320) (c : (nI 319 - nI k).toInt < 0) : 320 = k := by
  rw [pk_sub_toInt (by omega) (by omega)] at c
  omega
theorem dn_f {k : Nat} (h : k ≤ 320) (c : ¬ (nI 319 - nI k).toInt < 0) : k ≤ 319 := by
  rw [pk_sub_toInt (by omega) (by omega)] at c
  omega
def nxs (x : Int32) : Int32 := ((((1103515245 : Int64) * x.toInt64) + 12345) &&& 2147483647).toInt32
def dr (x w : Int32) : Int32 := (x / nI 65536) - (x / nI 65536) / w * w
def mAgG (q : Int32) : Int32 := if ((3 : Nat) : Int) ≤ q.toInt then nI 0 else nI 1 <<< (q &&& 31)
def mAg (g : Nat → Nat → Int32) (p : Nat) (x0 : Int32) : Nat → Int32 × Int32 × Int32 × Int32
  | 0 => (x0, g 8 (10 * p + 1), g 8 (10 * p + 2), (-1))
  | k + 1 => (nxs (nxs (mAg g p x0 k).1),
      (if dr (nxs (mAg g p x0 k).1) (nI 2) = nI 0 then (mAg g p x0 k).2.1 &&& (mAgG (dr (nxs (nxs (mAg g p x0 k).1)) (nI 8)) ^^^ (-1)) else (mAg g p x0 k).2.1),
      (if dr (nxs (mAg g p x0 k).1) (nI 2) = nI 1 then (mAg g p x0 k).2.2.1 &&& (mAgG (dr (nxs (nxs (mAg g p x0 k).1)) (nI 8)) ^^^ (-1)) else (mAg g p x0 k).2.2.1),
      (if (mAg g p x0 k).2.2.2 = (-1) then (if mLike g p (if dr (nxs (mAg g p x0 k).1) (nI 2) = nI 0 then (mAg g p x0 k).2.1 &&& (mAgG (dr (nxs (nxs (mAg g p x0 k).1)) (nI 8)) ^^^ (-1)) else (mAg g p x0 k).2.1) (if dr (nxs (mAg g p x0 k).1) (nI 2) = nI 1 then (mAg g p x0 k).2.2.1 &&& (mAgG (dr (nxs (nxs (mAg g p x0 k).1)) (nI 8)) ^^^ (-1)) else (mAg g p x0 k).2.2.1) = true then (mAg g p x0 k).2.2.2 else nI (k + 1)) else (mAg g p x0 k).2.2.2))
def prt (x : Int32) : Int32 := ((x &&& 1) + ((x >>> ((1 : Int32) &&& 31)) &&& 1)) + ((x >>> ((2 : Int32) &&& 31)) &&& 1)
def mAgeing (f : Nat → Int32) (g : Nat → Nat → Int32) (h : Int64) (n : Nat) (q y z x : Int32) : Int32 × MSt := if 0 ≤ q.toInt ∧ q.toInt ≤ (n : Int) - 1 then (if 1 ≤ y.toInt ∧ y.toInt ≤ 60 then (if z.toInt < 0 then ((-102), f, g, h) else if 0 ≤ x.toInt ∧ x.toInt ≤ 2 then ((if x = nI 0 then (mAg g q.toInt.toNat z y.toInt.toNat).2.2.2 else if x = nI 1 then prt (mAg g q.toInt.toNat z y.toInt.toNat).2.1 + prt (mAg g q.toInt.toNat z y.toInt.toNat).2.2.1 else (mAg g q.toInt.toNat z y.toInt.toNat).1), su f 14 (mAg g q.toInt.toNat z y.toInt.toNat).1, g, h) else ((-102), f, g, h)) else ((-102), f, g, h)) else ((-101), f, g, h)
def mSy1 (g : Nat → Nat → Int32) (p : Nat) (h : Int64) : Nat → Int64
  | 0 => h
  | k + 1 => if k < 4 ∨ (10 ≤ k ∧ k ≤ 15) ∨ 19 < k then 31 * mSy1 g p h k + (mTell g p (nI k)).toInt64 else mSy1 g p h k
def mSy2 (g : Nat → Nat → Int32) (p : Nat) (h : Int64) : Nat → Int64
  | 0 => h
  | k + 1 => 31 * (31 * mSy2 g p h k + (mDo g p k).toInt64) + (mAo g p k).toInt64
def mSyP (g : Nat → Nat → Int32) (n p : Nat) (h : Int64) : Int64 := mSy2 g p (mSy1 g p h 26) n
def mImgF (f : Nat → Int32) (n6 n7 n10 : Nat) : Nat → Int32 := su (su (su (su (su f 16 (nI n6)) 17 (nI n7)) 18 (nI n10)) 19 (f 3)) 15 (f 4)
def mImgG (g : Nat → Nat → Int32) : Nat → Nat → Int32 := su (su (su (su g 20 (fil (g 20) (g 5) 6)) 21 (fil (g 21) (g 8) 40)) 22 (fil (g 22) (g 9) 5)) 23 (fil (g 23) (g 12) 16)
def mImage (f : Nat → Int32) (g : Nat → Nat → Int32) (h : Int64) (n6 n7 n10 : Nat) : Int32 × MSt := if f 2 = nI 0 then ((-103), f, g, h) else (nI n6, mImgF f n6 n7 n10, mImgG g, h)
def mResF (f : Nat → Int32) : Nat → Int32 := su (su (su (su f 6 (f 16)) 7 (f 17)) 10 (f 18)) 3 (f 19)
def mResG (g : Nat → Nat → Int32) : Nat → Nat → Int32 := su (su (su (su g 5 (fil (g 5) (g 20) 6)) 8 (fil (g 8) (g 21) 40)) 9 (fil (g 9) (g 22) 5)) 12 (fil (g 12) (g 23) 16)
def mRestore (f : Nat → Int32) (g : Nat → Nat → Int32) (h : Int64) : Int32 × MSt := if f 15 = f 4 then (f 16, mResF f, mResG g, h) else ((-103), f, g, h)
