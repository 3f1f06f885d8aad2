/-! behind a call that makes cells and touches none of ours; the people grow by one -/
theorem jn {A0 : Nat → Prop} {D : va_G} {cl : List vw_C} {ws w1 : va_W} {H H1 : Heap} (hP : va_P D cl ws H) (hD : va_D A0 ws) (hk : ∀ q : Nat, q < H.size → ¬ va_A ([] : va_W) H.size q → H1[q]? = H[q]?) (hF : ∀ q, va_A ([] : va_W) H.size q → A0 q) (hP1 : va_P D cl w1 H1) (hD1 : va_D (va_A ([] : va_W) H.size) w1) : va_P D cl (ws ++ w1) H1 ∧ va_D A0 (ws ++ w1) := by
  have no : ∀ q : Nat, q < H.size → ¬ va_A ([] : va_W) H.size q := fun q hq h => h.elim (fun ⟨k, e, hk⟩ => by cases hk) (fun h => by omega)
  refine ⟨va_P.app (fun k q hq => (hP k q hq).kept (hk q.1 (hP k q hq).lt (no _ (hP k q hq).lt))) hP1, va_D.app hD (hD1.weaken (fun k q _ h => hF q.1 h)) (fun i j x y hx hy hxy => ?_)⟩
  exact no _ (hP i x hx).lt (by rw [hxy]; exact hD1.2 j y hy)
theorem xw_add {cI cP : ClassId} {a : Nat} {o : Nat → Nat} {f : Nat → Int32} {g : Nat → Nat → Int32} {pa : Nat → Option Nat} {tv : Nat → Nat → Int32} {n : Nat} {pd pk : Nat → Nat} {pv : Nat → Nat → Int32} (q k : Nat) (v : Nat → Int32) : xW cI cP a o f g pa tv n pd pk pv ++ [(q, .inr (kc k, pF v))] = xW cI cP a o f g pa tv (n + 1) (su pd n q) (su pk n k) (su pv n v) := by
  unfold xW
  rw [List.append_assoc]
  congr 1
  unfold xPpl
  rw [List.range_succ, List.map_append]
  congr 1
  · apply List.map_congr_left
    intro i hi
    have hi : i ≠ n := Nat.ne_of_lt (List.mem_range.mp hi)
    rw [su_n _ _ hi, su_n _ _ hi, su_n _ _ hi]
  · simp [su]
theorem xw_at_n {cI cP : ClassId} {a : Nat} {o : Nat → Nat} {f : Nat → Int32} {g : Nat → Nat → Int32} {pa : Nat → Option Nat} {tv : Nat → Nat → Int32} {n : Nat} {pd pk : Nat → Nat} {pv : Nat → Nat → Int32} (q k : Nat) (v : Nat → Int32) : (xW cI cP a o f g pa tv (n + 1) (su pd n q) (su pk n k) (su pv n v))[17 + n]? = some (q, .inr (kc k, pF v)) := by
  rw [xw_p (Nat.lt_succ_self n), su_s, su_s, su_s]
