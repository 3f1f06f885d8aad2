/-! plain words and rows: updates, truth values as ints, tops renamed, array rows by Nat places -/
def su {α : Type} (f : Nat → α) (k : Nat) (v : α) : Nat → α := fun j => if j = k then v else f j
theorem su_s {α : Type} (f : Nat → α) (k : Nat) (v : α) : su f k v k = v := by simp [su]
theorem su_n {α : Type} (f : Nat → α) {k j : Nat} (v : α) (h : j ≠ k) : su f k v j = f j := by simp [su, h]
theorem su_upd (f : Nat → Int32) (k : Nat) (v : Int32) : upd f k v = su f k v := rfl
def b2i (P : Prop) [Decidable P] : Int32 := if P then 1 else 0
theorem b2i_0 {P : Prop} [Decidable P] (h : b2i P = 0) : ¬ P := by
  intro hp
  rw [b2i, if_pos hp] at h
  exact absurd h (by decide)
theorem b2i_1 {P : Prop} [Decidable P] (h : ¬ b2i P = 0) : P := by
  by_cases hp : P
  · exact hp
  · exact absurd (by rw [b2i, if_neg hp]) h
theorem b2i_t {P : Prop} [Decidable P] (h : P) : (1 : Int32) = b2i P := by rw [b2i, if_pos h]
theorem b2i_f {P : Prop} [Decidable P] (h : ¬ P) : (0 : Int32) = b2i P := by rw [b2i, if_neg h]
theorem b2i_c {P Q : Prop} [Decidable P] [Decidable Q] (h : P ↔ Q) : b2i P = b2i Q := by
  by_cases hp : P
  · rw [b2i, b2i, if_pos hp, if_pos (h.mp hp)]
  · rw [b2i, b2i, if_neg hp, if_neg (fun q => hp (h.mpr q))]
theorem ix_int {x : Int32} (h : 0 ≤ x.toInt) : x = nI x.toInt.toNat := by
  have h1 := Int32.toInt_lt x
  have h2 : x.toInt.toNat < 2 ^ 31 := by omega
  apply Int32.toInt_inj.mp
  rw [nI_toInt h2]
  omega
theorem lti (a b : Int32) : a < b ↔ a.toInt < b.toInt := Int32.lt_iff_toInt_lt
theorem lei (a b : Int32) : a ≤ b ↔ a.toInt ≤ b.toInt := Int32.le_iff_toInt_le
theorem eqi (a b : Int32) : a = b ↔ a.toInt = b.toInt := Int32.toInt_inj.symm
theorem tn {n : Nat} (h : n < 2 ^ 31) : (nI n).toInt = (n : Int) := nI_toInt h
theorem lg_lt0 (x y : Int64) : lg_cmp x y < 0 ↔ x.toInt < y.toInt := by
  unfold lg_cmp
  by_cases h1 : x > y
  · rw [if_pos h1]
    have h2 : y.toInt < x.toInt := Int64.lt_iff_toInt_lt.mp h1
    constructor
    · intro h; exact absurd h (by decide)
    · intro h; omega
  · rw [if_neg h1]
    by_cases h2 : x = y
    · rw [if_pos h2]
      subst h2
      constructor
      · intro h; exact absurd h (by decide)
      · intro h; omega
    · rw [if_neg h2]
      constructor
      · intro _
        have h3 : ¬ y.toInt < x.toInt := fun z => h1 (Int64.lt_iff_toInt_lt.mpr z)
        have h4 : ¬ x.toInt = y.toInt := fun z => h2 (Int64.toInt_inj.mp z)
        omega
      · intro _; decide
theorem lg_gt0 (x y : Int64) : 0 < lg_cmp x y ↔ y.toInt < x.toInt := by
  unfold lg_cmp
  by_cases h1 : x > y
  · rw [if_pos h1]
    have h2 : y.toInt < x.toInt := Int64.lt_iff_toInt_lt.mp h1
    constructor
    · intro _; exact h2
    · intro _; decide
  · rw [if_neg h1]
    have h3 : ¬ y.toInt < x.toInt := fun z => h1 (Int64.lt_iff_toInt_lt.mpr z)
    by_cases h2 : x = y
    · rw [if_pos h2]
      constructor
      · intro h; exact absurd h (by decide)
      · intro h; exact absurd h h3
    · rw [if_neg h2]
      constructor
      · intro h; exact absurd h (by decide)
      · intro h; exact absurd h h3
/-- sums, all-of and first-of over the first n places -/
def sm (h : Nat → Int32) : Nat → Int32
  | 0 => 0
  | n + 1 => sm h n + h n
def alB (p : Nat → Bool) : Nat → Bool
  | 0 => true
  | n + 1 => alB p n && p n
def fst1 (p : Nat → Bool) : Nat → Nat
  | 0 => 0
  | n + 1 => if fst1 p n < n then fst1 p n else if p n then n else n + 1
def fil {α : Type} (f g : Nat → α) (k : Nat) : Nat → α := fun j => if j < k then g j else f j
theorem fil_0 {α : Type} (f g : Nat → α) : fil f g 0 = f := by funext j; simp [fil]
theorem fil_s {α : Type} (f g : Nat → α) (k : Nat) : su (fil f g k) k (g k) = fil f g (k + 1) := by
  funext j
  unfold su fil
  by_cases h : j = k
  · subst h; simp
  · by_cases h2 : j < k
    · simp [h, h2, Nat.lt_succ_of_lt h2]
    · have h3 : ¬ j < k + 1 := by omega
      simp [h, h2, h3]
theorem sm_c {f g : Nat → Int32} : ∀ {n : Nat}, (∀ j, j < n → f j = g j) → sm f n = sm g n
  | 0, _ => rfl
  | n + 1, h => by rw [sm, sm, sm_c (fun j hj => h j (by omega)), h n (by omega)]
theorem alB_iff {p : Nat → Bool} : ∀ {n : Nat}, alB p n = true ↔ ∀ j, j < n → p j = true
  | 0 => by simp [alB]
  | n + 1 => by
    rw [alB, Bool.and_eq_true, alB_iff]
    constructor
    · intro h j hj
      by_cases hn : j = n
      · subst hn; exact h.2
      · exact h.1 j (by omega)
    · intro h
      exact ⟨fun j hj => h j (by omega), h n (by omega)⟩
theorem alB_c {p q : Nat → Bool} {n : Nat} (h : ∀ j, j < n → p j = q j) : alB p n = alB q n := by
  rw [Bool.eq_iff_iff, alB_iff, alB_iff]
  constructor
  · intro z j hj; rw [← h j hj]; exact z j hj
  · intro z j hj; rw [h j hj]; exact z j hj
theorem fst1_le (p : Nat → Bool) : ∀ n, fst1 p n ≤ n
  | 0 => Nat.le_refl 0
  | n + 1 => by
    have ih := fst1_le p n
    unfold fst1
    split
    · omega
    · split <;> omega
theorem fst1_at {p : Nat → Bool} : ∀ {n k : Nat}, k < n → (∀ j, j < k → p j = false) → p k = true → fst1 p n = k
  | 0, k, h, _, _ => by omega
  | n + 1, k, h, h1, h2 => by
    unfold fst1
    by_cases hk : k < n
    · rw [fst1_at hk h1 h2, if_pos hk]
    · have hkn : k = n := by omega
      subst hkn
      have h3 : ∀ m, m ≤ k → fst1 p m = m := by
        intro m
        induction m with
        | zero => intro _; rfl
        | succ m ih =>
          intro hm
          unfold fst1
          rw [ih (by omega), if_neg (by omega), h1 m (by omega)]
          simp
      rw [h3 k (Nat.le_refl k), if_neg (by omega), h2]
      simp
theorem fst1_no {p : Nat → Bool} : ∀ {n : Nat}, (∀ j, j < n → p j = false) → fst1 p n = n
  | 0, _ => rfl
  | n + 1, h => by
    unfold fst1
    rw [fst1_no (fun j hj => h j (by omega)), if_neg (by omega), h n (by omega)]
    simp
theorem fst1_c {p q : Nat → Bool} : ∀ {n : Nat}, (∀ j, j < n → p j = q j) → fst1 p n = fst1 q n
  | 0, _ => rfl
  | n + 1, h => by
    unfold fst1
    rw [fst1_c (fun j hj => h j (by omega)), h n (by omega)]
section BASE
variable {p : Program} {l : Launch} {e : Env} {R : Room} {s : State} {m : MethodId} {args : Array Value} {below : List Frame} {meth : Method} {c : Code} {H : Heap} {locs : List Loc} {cells slots : Nat} {Q : State → Prop}
variable {cc : ByteArray} {pc : Nat} {ls : Array Slot} {rest : List Value} {D : va_G} {cl : List vw_C} {A : Nat → Prop} {a : Nat} {tys : List (ClassId × FieldType)} {ws : va_W} {H0 : Heap}
theorem tv {x y : Int32} (h : x = y) (k : W p l e R s m args below meth c H locs cells slots Q (F0 m pc ls (.int y :: rest))) : W p l e R s m args below meth c H locs cells slots Q (F0 m pc ls (.int x :: rest)) := by
  subst h
  exact k
theorem tvl {x y : Int64} (h : x = y) (k : W p l e R s m args below meth c H locs cells slots Q (F0 m pc ls (.long y :: rest))) : W p l e R s m args below meth c H locs cells slots Q (F0 m pc ls (.long x :: rest)) := by
  subst h
  exact k
theorem ald (hexec : p.tables.exec = Jvm.exec) (hb : c.code = cc) (hK : va_K D cl tys s) (hP : va_P D cl ws H) (q0 t0 : Nat) {cA : ClassId} {n : Nat} {f : Nat → Int32} (ha : ws[q0]? = some (a, .inl (cA, n, .inl f))) (ht : tys[t0]? = some (cA, .int)) {i : Int32} {k : Nat} (hi : i = nI k) (hk : k < n) (hn : n < 2 ^ 31) (hdg : decode cc pc = .ok (.iaload, 1))
    (kk : W p l e R s m args below meth c H locs cells slots Q (F0 m (pc + 1) ls (.int (f k) :: rest))) : W p l e R s m args below meth c H locs cells slots Q (F0 m pc ls (.int i :: .ref a :: rest)) := by
  subst hi
  refine va_iald hexec hb hK hP q0 t0 ha ht (vp_in_nI hk hn) hdg ?_
  rw [nI_clamp (Nat.lt_trans hk hn)]
  exact kk
theorem ast (hexec : p.tables.exec = Jvm.exec) (hb : c.code = cc) (hK : va_K D cl tys s) (hP : va_P D cl ws H) (hD : va_D A ws) (hS : va_S A H0 H locs) (q0 t0 : Nat) {cA : ClassId} {n : Nat} {f : Nat → Int32} (ha : ws[q0]? = some (a, .inl (cA, n, .inl f))) (ht : tys[t0]? = some (cA, .int)) {i : Int32} {x : Int32} {k : Nat} (hi : i = nI k) (hk : k < n) (hn : n < 2 ^ 31) (hdg : decode cc pc = .ok (.iastore, 1))
    (kk : ∀ (H1 : Heap) (locs1 : List Loc), va_P D cl (ws.set q0 (a, .inl (cA, n, .inl (su f k x)))) H1 → va_D A (ws.set q0 (a, .inl (cA, n, .inl (su f k x)))) → va_S A H0 H1 locs1 → W p l e R s m args below meth c H1 locs1 cells slots Q (F0 m (pc + 1) ls rest)) : W p l e R s m args below meth c H locs cells slots Q (F0 m pc ls (.int x :: .int i :: .ref a :: rest)) := by
  subst hi
  refine va_iast hexec hb hK hP hD hS q0 t0 ha ht (vp_in_nI hk hn) hdg (fun H1 locs1 h1 h2 h3 => ?_)
  rw [nI_clamp (Nat.lt_trans hk hn)] at h1 h2
  exact kk H1 locs1 h1 h2 h3
/-- a loop that writes nothing: the locals by a closed form, a measure that falls -/
theorem lp_ro {ι : Type} (μ : ι → Nat) (I : ι → Prop) (L : ι → List (Nat × Value)) {nL : Nat} (i0 : ι) (h0 : I i0) (hl0 : lv_has ls nL (L i0)) (body : ∀ (i : ι), I i → (∀ (j : ι) (ls : Array Slot), μ j < μ i → I j → lv_has ls nL (L j) → W p l e R s m args below meth c H locs cells slots Q (F0 m pc ls rest)) → ∀ ls : Array Slot, lv_has ls nL (L i) → W p l e R s m args below meth c H locs cells slots Q (F0 m pc ls rest)) : W p l e R s m args below meth c H locs cells slots Q (F0 m pc ls rest) := by
  have key : ∀ (n : Nat) (i : ι) (ls : Array Slot), μ i < n → I i → lv_has ls nL (L i) → W p l e R s m args below meth c H locs cells slots Q (F0 m pc ls rest) := by
    intro n
    induction n with
    | zero => intro i ls h _ _; exact absurd h (Nat.not_lt_zero _)
    | succ n ih =>
      intro i ls hn hI hl
      exact body i hI (fun j ls' hj hIj hl' => ih j ls' (by omega) hIj hl') ls hl
  exact key (μ i0 + 1) i0 ls (Nat.lt_succ_self _) h0 hl0
/-- a loop that writes: its world by a closed form, too -/
theorem lp_rw {ι : Type} (μ : ι → Nat) (I : ι → Prop) (L : ι → List (Nat × Value)) (Wd : ι → va_W) {nL : Nat} (i0 : ι) (h0 : I i0) (hP : va_P D cl (Wd i0) H) (hD : va_D A (Wd i0)) (hS : va_S A H0 H locs) (hl0 : lv_has ls nL (L i0)) (body : ∀ (i : ι), I i → (∀ (j : ι) (H : Heap) (locs : List Loc) (ls : Array Slot), μ j < μ i → I j → va_P D cl (Wd j) H → va_D A (Wd j) → va_S A H0 H locs → lv_has ls nL (L j) → W p l e R s m args below meth c H locs cells slots Q (F0 m pc ls rest)) → ∀ (H : Heap) (locs : List Loc) (ls : Array Slot), va_P D cl (Wd i) H → va_D A (Wd i) → va_S A H0 H locs → lv_has ls nL (L i) → W p l e R s m args below meth c H locs cells slots Q (F0 m pc ls rest)) : W p l e R s m args below meth c H locs cells slots Q (F0 m pc ls rest) := by
  have key : ∀ (n : Nat) (i : ι) (H : Heap) (locs : List Loc) (ls : Array Slot), μ i < n → I i → va_P D cl (Wd i) H → va_D A (Wd i) → va_S A H0 H locs → lv_has ls nL (L i) → W p l e R s m args below meth c H locs cells slots Q (F0 m pc ls rest) := by
    intro n
    induction n with
    | zero => intro i H locs ls h _ _ _ _ _; exact absurd h (Nat.not_lt_zero _)
    | succ n ih =>
      intro i H locs ls hn hI h1 h2 h3 hl
      exact body i hI (fun j H' locs' ls' hj hIj g1 g2 g3 hl' => ih j H' locs' ls' (by omega) hIj g1 g2 g3 hl') H locs ls h1 h2 h3 hl
  exact key (μ i0 + 1) i0 H locs ls (Nat.lt_succ_self _) h0 hP hD hS hl0
end BASE
