/-! nest words and casts that no word list carries; the class's state behind a method -/
def xNw : List Cond := [.methodLinkNest RX7 11 yX3_init RX7, .fieldLinkNest RX7 208 RX3 "codes" "[I" RX7, .fieldLinkNest RX7 50 RX3 "size" "I" RX7, .methodLinkNest RX7 28 yX1_init RX7, .fieldLinkNest RX7 144 RX1 "size" "I" RX7, .methodLinkNest RX7 225 yX0_init RX7, .methodLinkNest RX0 3 yX4_init RX7, .methodLinkNest RX7 228 yX2_init RX7, .methodLinkNest RX2 3 yX4_init RX7, .methodLinkNest RX7 231 yX6_init RX7, .methodLinkNest RX6 3 yX4_init RX7, .methodLinkNest RX7 234 yX5_init RX7, .methodLinkNest RX5 3 yX6_init RX7, .methodLinkNest RX7 235 yX4_init RX7, .methodLinkNest RX3 19 yX7_isHue RX7, .methodLinkNest RX3 27 yX7_withHue RX7, .methodLinkNest RX4 24 yX7_hueAt RX7, .methodLinkNest RX4 32 yX7_withHue RX7]
def xCs : List (String × String) := [(RX0, RX4), (RX2, RX4), (RX6, RX4), (RX5, RX4), (RX5, RX6)]
def xNc : List (String × String) := [(RX4, RX0), (RX4, RX2), (RX4, RX6), (RX4, RX5), (RX0, RX2), (RX0, RX6), (RX0, RX5), (RX2, RX0), (RX2, RX6), (RX2, RX5), (RX6, RX0), (RX6, RX2), (RX6, RX5), (RX5, RX0), (RX5, RX2)]
def xN (U : State) : Prop := (∀ w ∈ xNw, va_Nw w U) ∧ (∀ q ∈ xCs, va_Nw (.castable q.1 q.2) U) ∧ (∀ q ∈ xNc, va_Nc q.1 q.2 U)
theorem xN.warm {s U : State} (hW : s.WarmedH U.vm) (h : xN s) : xN U := by
  refine ⟨fun w hw => ?_, fun q hq => va_Nw.warmC hW (h.2.1 q hq), fun q hq => (h.2.2 q hq).moved hW.alike⟩
  have h1 := h.1 w hw
  simp only [xNw, List.mem_cons, List.not_mem_nil, or_false] at hw
  rcases hw with rfl | rfl | rfl | rfl | rfl | rfl | rfl | rfl | rfl | rfl | rfl | rfl | rfl | rfl | rfl | rfl | rfl | rfl
  all_goals first | exact va_Nw.warmM hW h1 | exact va_Nw.warmF hW h1
theorem xN.same {u U : State} (hv : u.vm = U.vm) (h : xN u) : xN U := by
  refine ⟨fun w hw => ?_, fun q hq => va_Nw.same rfl hv (h.2.1 q hq), fun q hq => (h.2.2 q hq).moved (by rw [hv]; exact Vm.Alike.refl _)⟩
  have h1 := h.1 w hw
  simp only [xNw, List.mem_cons, List.not_mem_nil, or_false] at hw
  rcases hw with rfl | rfl | rfl | rfl | rfl | rfl | rfl | rfl | rfl | rfl | rfl | rfl | rfl | rfl | rfl | rfl | rfl | rfl
  all_goals exact va_Nw.same rfl hv h1
abbrev XSt : Type := (Nat → Int32) × (Nat → Nat → Int32) × (Nat → Option Nat) × (Nat → Nat → Int32) × Nat × (Nat → Nat) × (Nat → Nat) × (Nat → Nat → Int32)
def xWu (cI cP : ClassId) (a : Nat) (o : Nat → Nat) (u : XSt) : va_W := xW cI cP a o u.1 u.2.1 u.2.2.1 u.2.2.2.1 u.2.2.2.2.1 u.2.2.2.2.2.1 u.2.2.2.2.2.2.1 u.2.2.2.2.2.2.2
def xB (dC : Nat → ClassId) (dI : Nat → Nat → Nat) (cI cP : ClassId) (a : Nat) (o : Nat → Nat) (A : Nat → Prop) (u : XSt) (t : State) : Prop := va_P (dC, dI) vwCl (xWu cI cP a o u) t.heap ∧ va_K (dC, dI) vwCl [(cI, .int), (cP, .object RX4)] t ∧ va_D A (xWu cI cP a o u)
theorem and_or32 (h l r : Int32) : h &&& (l ||| r) = (h &&& l) ||| (h &&& r) := by
  apply Int32.toBitVec_inj.mp
  simp only [Int32.toBitVec_and, Int32.toBitVec_or]
  ext i
  simp [Bool.and_or_distrib_left]
theorem and_xor32 (h l r : Int32) : h &&& (l ^^^ r) = (h &&& l) ^^^ (h &&& r) := by
  apply Int32.toBitVec_inj.mp
  simp only [Int32.toBitVec_and, Int32.toBitVec_xor]
  ext i
  simp [Bool.and_xor_distrib_left]
theorem and_and32 (h l r : Int32) : (h &&& l) &&& r = (h &&& l) &&& (h &&& r) := by
  apply Int32.toBitVec_inj.mp
  simp only [Int32.toBitVec_and]
  ext i hi
  simp only [BitVec.getElem_and]
  cases h.toBitVec[i] <;> cases l.toBitVec[i] <;> cases r.toBitVec[i] <;> rfl
theorem see_0 (l r h : Int32) : see (nI 0) l r h = (h &&& l) ||| (h &&& r) := by
  unfold see; rw [if_pos (by decide +kernel)]
theorem see_1 (l r h : Int32) : see (nI 1) l r h = (h &&& l) ^^^ (h &&& r) := by
  unfold see; rw [if_neg (by decide +kernel), if_pos (by decide +kernel)]
theorem see_2 (l r h : Int32) : see (nI 2) l r h = (h &&& l) &&& (h &&& r) := by
  unfold see; rw [if_neg (by decide +kernel), if_neg (by decide +kernel), if_pos (by decide +kernel)]
theorem see_3 (l r h : Int32) : see (nI 3) l r h = if h &&& l = nI 0 then h &&& r else h &&& l := by
  unfold see; rw [if_neg (by decide +kernel), if_neg (by decide +kernel), if_neg (by decide +kernel), if_pos (by decide +kernel)]
theorem see_4 (l r h : Int32) : see (nI 4) l r h = h &&& r := by
  unfold see; rw [if_neg (by decide +kernel), if_neg (by decide +kernel), if_neg (by decide +kernel), if_neg (by decide +kernel)]
def xHa (x : Int32) (k : Nat) : Int32 := (x >>> ((nI (3 * k)) &&& 31)) &&& nI 7
def xWh (x : Int32) (k : Nat) (y : Int32) : Int32 := (x &&& ((nI 7 <<< (nI (3 * k) &&& 31)) ^^^ (-1))) ||| (y <<< (nI (3 * k) &&& 31))
