theorem su_su {α : Type} (f : Nat → α) (k : Nat) (x y : α) : su (su f k x) k y = su f k y := by
  funext j
  unfold su
  by_cases h : j = k <;> simp [h]
def sayN (k u : Nat) : Nat := (see (nI (k / 64)) (nI (k / 8 % 8)) (nI (k % 8)) (nI u)).toInt.toNat
theorem see_rng : ∀ a, a < 5 → ∀ b, b < 8 → ∀ c, c < 8 → ∀ d, d < 8 → 0 ≤ (see (nI a) (nI b) (nI c) (nI d)).toInt ∧ (see (nI a) (nI b) (nI c) (nI d)).toInt < 8 := by decide +kernel
theorem sayN_e (k u : Nat) (hk : k < 320) (hu : u < 8) : see (nI (k / 64)) (nI (k / 8 % 8)) (nI (k % 8)) (nI u) = nI (sayN k u) := ix_int (see_rng _ (by omega) _ (by omega) _ (by omega) _ hu).1
theorem sayN_b (k u : Nat) (hk : k < 320) (hu : u < 8) : sayN k u < 8 := by
  have h := see_rng (k / 64) (by omega) (k / 8 % 8) (by omega) (k % 8) (by omega) u hu
  unfold sayN
  omega
def mSays (g : Nat → Nat → Int32) (n u : Nat) (r : Nat → Int32) : Nat → Nat → Int32
  | 0 => r
  | k + 1 => su (mSays g n u r k) (sayN k u) (mSays g n u r k (sayN k u) + (if mSo g n k = true then nI 1 else nI 0))
def mWst (r : Nat → Int32) : Nat → Int32
  | 0 => nI 0
  | k + 1 => if (r k).toInt ≤ (mWst r k).toInt then mWst r k else r k
def mNx (g : Nat → Nat → Int32) (n : Nat) : Nat → Int32 × Int32 × (Nat → Int32)
  | 0 => ((-1), nI 321, g 13)
  | k + 1 => ((if (mWst (mSays g n k (fil (mNx g n k).2.2 (fun _ => nI 0) 8) 320) 8).toInt ≤ 0 then (mNx g n k).1 else if (mNx g n k).2.1.toInt ≤ (mWst (mSays g n k (fil (mNx g n k).2.2 (fun _ => nI 0) 8) 320) 8).toInt then (mNx g n k).1 else nI k),
      (if (mNx g n k).2.1.toInt ≤ (mWst (mSays g n k (fil (mNx g n k).2.2 (fun _ => nI 0) 8) 320) 8).toInt then (mNx g n k).2.1 else mWst (mSays g n k (fil (mNx g n k).2.2 (fun _ => nI 0) 8) 320) 8),
      mSays g n k (fil (mNx g n k).2.2 (fun _ => nI 0) 8) 320)
def mNext (f : Nat → Int32) (g : Nat → Nat → Int32) (h : Int64) (n nq : Nat) : Int32 × MSt := if nq = 60 then ((-103), f, g, h) else ((mNx g n 8).1, su f 11 (nI (nq + 1)), su g 13 (mNx g n 8).2.2, h)
def mH1 (g : Nat → Nat → Int32) : Nat → Int64
  | 0 => 853
  | k + 1 => 31 * mH1 g k + (g 5 k).toInt64
def mH2 (f : Nat → Int32) (g : Nat → Nat → Int32) (n6 n7 : Nat) : Int64 := if f 2 = nI 0 then 853 else 31 * (31 * mH1 g 6 + (mFewOf g n6 n7 (nI 0)).toInt64) + (mFewOf g n6 n7 (nI 1)).toInt64
def mH3 (f : Nat → Int32) (g : Nat → Nat → Int32) (n6 n7 : Nat) : Nat → Int64
  | 0 => mH2 f g n6 n7
  | k + 1 => mSyP g n6 k (mH3 f g n6 n7 k)
def mH4 (f : Nat → Int32) (g : Nat → Nat → Int32) (n6 n7 : Nat) : Nat → Int64
  | 0 => mH3 f g n6 n7 n6
  | k + 1 => 31 * mH4 f g n6 n7 k + (g 9 k).toInt64
def mH5 (f : Nat → Int32) (g : Nat → Nat → Int32) (n6 n7 : Nat) : Nat → Int64
  | 0 => mH4 f g n6 n7 n7
  | k + 1 => 31 * mH5 f g n6 n7 k + (g 0 k).toInt64
def mH6 (f : Nat → Int32) (g : Nat → Nat → Int32) (n1 n6 n7 n10 : Nat) : Nat → Int64
  | 0 => mH5 f g n6 n7 n1
  | k + 1 => 31 * mH6 f g n1 n6 n7 n10 k + (mCount f g n1 n6 n7 n10 (nI k)).toInt64
