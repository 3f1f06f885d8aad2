/-! the class's pure functions, first part; rows for references -/
def xKn (n : Nat) (pd : Nat → Nat) (x : Int32) : Option Nat := if 0 ≤ x.toInt ∧ x.toInt < (n : Int) then some (pd x.toInt.toNat) else none
theorem xKn_s {n : Nat} {pd : Nat → Nat} {x : Int32} (h : 0 ≤ x.toInt ∧ x.toInt < (n : Int)) : xKn n pd x = some (pd x.toInt.toNat) := by rw [xKn, if_pos h]
theorem xKn_n {n : Nat} {pd : Nat → Nat} {x : Int32} (h : ¬ (0 ≤ x.toInt ∧ x.toInt < (n : Int))) : xKn n pd x = none := by rw [xKn, if_neg h]
theorem xKn_k {n : Nat} {pd : Nat → Nat} {k : Nat} (h : k < n) (hn : n < 2 ^ 31) : xKn n pd (nI k) = some (pd k) := by
  have e : (nI k).toInt = (k : Int) := nI_toInt (Nat.lt_trans h hn)
  rw [xKn_s (by omega), e]
  rfl
def xdg (g : Nat → Nat → Int32) (j : Nat) : Bool := decide (0 ≤ (g 0 j - nI 48).toInt ∧ (g 0 j - nI 48).toInt ≤ 7)
def xfl (g : Nat → Nat → Int32) (n : Nat) : Nat := fst1 (fun j => !xdg g j) (min n 6)
def xTxt (g : Nat → Nat → Int32) : Nat → Int32
  | 0 => nI 0
  | j + 1 => xWh (xTxt g j) j (g 0 j - nI 48)
def xText (g : Nat → Nat → Int32) (n : Nat) : Int32 := if n = 6 then (if xfl g n = 6 then xTxt g 6 else (-1)) else (-1)
def xFitAt (g : Nat → Nat → Int32) (k : Nat) (l r : Int32) (j : Nat) : Bool := decide (see (nI k) l r (g 2 j) = g 3 j)
def xFit (g : Nat → Nat → Int32) (n k : Nat) (l r : Int32) : Bool := alB (xFitAt g k l r) n
section XQ
variable {p : Program} {l : Launch} {e : Env} {R : Room} {s : State} {m : MethodId} {args : Array Value} {below : List Frame} {meth : Method} {c : Code} {H : Heap} {locs : List Loc} {cells slots : Nat} {Q : State → Prop}
variable {cc : ByteArray} {pc : Nat} {ls : Array Slot} {rest : List Value} {D : va_G} {cl : List vw_C} {A : Nat → Prop} {a : Nat} {tys : List (ClassId × FieldType)} {ws : va_W} {H0 : Heap}
theorem rf_s {r : Option Nat} {y : Nat} (h : r = some y) (k : W p l e R s m args below meth c H locs cells slots Q (F0 m pc ls (.ref y :: rest))) : W p l e R s m args below meth c H locs cells slots Q (F0 m pc ls (va_rf r :: rest)) := by
  subst h
  exact k
theorem rf_n {r : Option Nat} (h : r = none) (k : W p l e R s m args below meth c H locs cells slots Q (F0 m pc ls (.null :: rest))) : W p l e R s m args below meth c H locs cells slots Q (F0 m pc ls (va_rf r :: rest)) := by
  subst h
  exact k
theorem aldq (hexec : p.tables.exec = Jvm.exec) (hb : c.code = cc) (hK : va_K D cl tys s) (hP : va_P D cl ws H) (q0 t0 : Nat) {cA : ClassId} {C : String} {n : Nat} {f : Nat → Option Nat} (ha : ws[q0]? = some (a, .inl (cA, n, .inr (.inr (.inr (.inr f)))))) (ht : tys[t0]? = some (cA, .object C)) {i : Int32} {k y : Nat} (hi : i = nI k) (hk : k < n) (hn : n < 2 ^ 31) (hf : f k = some y) (hdg : decode cc pc = .ok (.aaload, 1))
    (kk : W p l e R s m args below meth c H locs cells slots Q (F0 m (pc + 1) ls (.ref y :: rest))) : W p l e R s m args below meth c H locs cells slots Q (F0 m pc ls (.int i :: .ref a :: rest)) := by
  subst hi
  refine va_aldq hexec hb hK hP q0 t0 ha ht (vp_in_nI hk hn) hdg ?_
  rw [nI_clamp (Nat.lt_trans hk hn), hf]
  exact kk
end XQ
theorem cpy8 (f g : Nat → Int32) : va_cpy f g (nI 0).toNatClampNeg (nI 0).toNatClampNeg (nI 8).toNatClampNeg = fil g f 8 := by
  rw [show (nI 0).toNatClampNeg = 0 from nI_clamp (by decide), show (nI 8).toNatClampNeg = 8 from nI_clamp (by decide)]
  funext j
  unfold fil
  by_cases h : j < 8
  · rw [if_pos h, pk_cpy_in (Nat.zero_le _) (by omega)]
    simp
  · rw [if_neg h, pk_cpy_out (Or.inr (by omega))]
