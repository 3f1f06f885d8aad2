set_option maxHeartbeats 4000000 in
set_option maxRecDepth 100000 in
theorem law_loop {p : Program} {l : Launch} {e : Env} {s : State} {m : MethodId} {below : List Frame} {meth : Method} {c : Code} {b L : Nat} {xs : Nat → Int32} (C0 : lwC p s m meth c b L xs) {dC : Nat → ClassId} {dI : Nat → Nat → Nat} {cI cP : ClassId} {a : Nat} {o : Nat → Nat} {a' : Nat} {o' : Nat → Nat} (hK : va_K (dC, dI) vwCl [(cI, .int), (cP, .object RX4)] s) (hN : xN s) (hr : meth.sig.returnType = ret) (hlocks : meth.locks = false) : ∀ (k N : Nat), N + k = 513 → ∀ (u : XSt) (v : MSt), RS N u v → 5 * N ≤ L → ∀ (H : Heap) (locs : List Loc) (ls : Array Slot), va_P (dC, dI) vwCl (mW cI a' o' v.1 v.2.1 v.2.2 ++ xWu cI cP a o u) H → va_D (fun q : Nat => s.heap.size ≤ q) (mW cI a' o' v.1 v.2.1 v.2.2 ++ xWu cI cP a o u) → va_S (fun q : Nat => s.heap.size ≤ q) s.heap H locs → lv_has ls 4 (lwL N b a a') → W p l e room_1 s m #[Value.ref b] below meth c H locs (28 + N) (351 + 6 * N) (lw_Z below #[Value.ref b] s) (F0 m 18 ls []) := by
  obtain ⟨hx, hb, hml, hown, htl, hX, hbl, hL⟩ := id C0
  have hA : ∀ q : Nat, s.heap.size ≤ q → (fun q : Nat => s.heap.size ≤ q) q := fun _ h => h
  have hbA : ¬ (fun q : Nat => s.heap.size ≤ q) b := Nat.not_le.mpr hbl
  intro k
  induction k with
  | zero => intro N hk u v hR hNL; exact absurd hNL (by omega)
  | succ k ih =>
    intro N hk u v hR hNL H locs ls hP hD hS hl
    obtain ⟨f, g, pa, t9, n, pd, pk, pv⟩ := u
    obtain ⟨f', g', h'⟩ := v
    obtain ⟨k1, k8, cn9, q, d, R⟩ := hR
    have hl : lv_has ls 4 [(3, .int (nI (5 * N))), (2, .ref a'), (1, .ref a), (0, .ref b)] := hl
    refine lv_iload_n hx hb dL_law_18 rfl (lv_at hl 0 rfl) ?_
    refine lv_aload_n hx hb dL_law_19 rfl (lv_at hl 3 rfl) ?_
    refine va_slen hx hb hX hbl hbA hS dL_law_20 ?_
    refine lv_iconst (v := nI (5)) hx hb dL_law_21 (by decide +kernel) ?_
    refine lv_isub hx hb dL_law_22 ?_
    have eL : (Int32.ofNat L - nI 5).toInt = (L : Int) - 5 := pk_sub_toInt (a := L) (b := 5) (by omega) (by omega)
    refine lv_icmp_gt (tgt := 844) hx hb dL_law_23 (by decide) (fun c_0 => ?_) (fun c_0 => ?_)
    · refine lv_iconst (v := 1) hx hb dL_law_844 (by decide +kernel) ?_
      refine va_forget hS.2.2 ?_
      refine W.widen (k := 600000) (n := 7302250) (by omega) (by omega) ?_
      exact lw_ret hx hb hr hlocks dL_law_845
    · rw [lti, eL, tn (n := 5 * N) (by omega)] at c_0
      have hN5 : 5 * N + 5 ≤ L := by omega
      have hN9 : 5 * (N + 1) ≤ L := by omega
      have K : lwK p l e s m b below meth c dC dI cI cP a o a' o' N := by
        intro u v H locs ls hR hP hD hS hl
        refine lv_iinc (v := nI (5 * (N + 1))) (lv' := lwL (N + 1) b a a') hx hb dL_law_838 hl (k := 0) rfl (nI_add (5 * N) 5) (by decide) rfl (fun ls hl => ?_)
        refine lv_goto (tgt := 18) hx hb dL_law_841 (by decide) ?_
        by_cases hNL2 : 5 * (N + 1) ≤ L
        · exact ih (N + 1) (by omega) u v hR hNL2 H locs ls hP hD hS hl
        · exact absurd hN9 hNL2
      refine lv_aload_n hx hb dL_law_26 rfl (lv_at hl 3 rfl) ?_
      refine lv_iload_n hx hb dL_law_27 rfl (lv_at hl 0 rfl) ?_
      refine va_sld hx hb hX hbl hbA hS (vp_in_nI (show 5 * N < L by omega) (by omega)) dL_law_28 ?_
      refine lv_bipush (v := nI (31)) hx hb dL_law_29 (by decide +kernel) ?_
      refine lv_iand hx hb dL_law_31 ?_
      generalize xs (nI (5 * N)).toNatClampNeg &&& nI 31 = sw
      by_cases c_1 : sw.toInt = 0
      · refine lv_tableIn (tgt := 156) hx hb dL_law_32 (by omega) (by omega) (by rw [c_1]; rfl) (by decide) ?_
        exact lc_letter C0 hK hN hN5 R hP hD hS hl K
      by_cases c_2 : sw.toInt = 1
      · refine lv_tableIn (tgt := 179) hx hb dL_law_32 (by omega) (by omega) (by rw [c_2]; rfl) (by decide) ?_
        exact lc_blank C0 hK hN hN5 R hP hD hS hl K
      by_cases c_3 : sw.toInt = 2
      · refine lv_tableIn (tgt := 192) hx hb dL_law_32 (by omega) (by omega) (by rw [c_3]; rfl) (by decide) ?_
        exact lc_fault C0 hK hN hN5 R hP hD hS hl K
      by_cases c_4 : sw.toInt = 3
      · refine lv_tableIn (tgt := 205) hx hb dL_law_32 (by omega) (by omega) (by rw [c_4]; rfl) (by decide) ?_
        exact lc_sign C0 hK hN hN5 R hP hD hS hl K
      by_cases c_5 : sw.toInt = 4
      · refine lv_tableIn (tgt := 218) hx hb dL_law_32 (by omega) (by omega) (by rw [c_5]; rfl) (by decide) ?_
        exact lc_hue C0 hK hN hN5 R hP hD hS hl K
      by_cases c_6 : sw.toInt = 5
      · refine lv_tableIn (tgt := 241) hx hb dL_law_32 (by omega) (by omega) (by rw [c_6]; rfl) (by decide) ?_
        exact lc_layer C0 hK hN hN5 R hP hD hS hl K
      by_cases c_7 : sw.toInt = 6
      · refine lv_tableIn (tgt := 274) hx hb dL_law_32 (by omega) (by omega) (by rw [c_7]; rfl) (by decide) ?_
        exact lc_person C0 hK hN hN5 R hP hD hS hl K
      by_cases c_8 : sw.toInt = 7
      · refine lv_tableIn (tgt := 317) hx hb dL_law_32 (by omega) (by omega) (by rw [c_8]; rfl) (by decide) ?_
        exact lc_about C0 hK hN hN5 R hP hD hS hl K
      by_cases c_9 : sw.toInt = 8
      · refine lv_tableIn (tgt := 350) hx hb dL_law_32 (by omega) (by omega) (by rw [c_9]; rfl) (by decide) ?_
        exact lc_as C0 hK hN hN5 R hP hD hS hl K
      by_cases c_10 : sw.toInt = 9
      · refine lv_tableIn (tgt := 383) hx hb dL_law_32 (by omega) (by omega) (by rw [c_10]; rfl) (by decide) ?_
        exact lc_sees C0 hK hN hN5 R hP hD hS hl K
      by_cases c_11 : sw.toInt = 10
      · refine lv_tableIn (tgt := 416) hx hb dL_law_32 (by omega) (by omega) (by rw [c_11]; rfl) (by decide) ?_
        exact lc_eye C0 hK hN hN5 R hP hD hS hl K
      by_cases c_12 : sw.toInt = 11
      · refine lv_tableIn (tgt := 459) hx hb dL_law_32 (by omega) (by omega) (by rw [c_12]; rfl) (by decide) ?_
        exact lc_ink C0 hK hN hN5 R hP hD hS hl K
      by_cases c_13 : sw.toInt = 12
      · refine lv_tableIn (tgt := 482) hx hb dL_law_32 (by omega) (by omega) (by rw [c_13]; rfl) (by decide) ?_
        exact lc_inkOf C0 hK hN hN5 R hP hD hS hl K
      by_cases c_14 : sw.toInt = 13
      · refine lv_tableIn (tgt := 505) hx hb dL_law_32 (by omega) (by omega) (by rw [c_14]; rfl) (by decide) ?_
        exact lc_word C0 hK hN hN5 R hP hD hS hl K
      by_cases c_15 : sw.toInt = 14
      · refine lv_tableIn (tgt := 528) hx hb dL_law_32 (by omega) (by omega) (by rw [c_15]; rfl) (by decide) ?_
        exact lc_unword C0 hK hN hN5 R hP hD hS hl K
      by_cases c_16 : sw.toInt = 15
      · refine lv_tableIn (tgt := 551) hx hb dL_law_32 (by omega) (by omega) (by rw [c_16]; rfl) (by decide) ?_
        exact lc_differ C0 hK hN hN5 R hP hD hS hl K
      by_cases c_17 : sw.toInt = 16
      · refine lv_tableIn (tgt := 584) hx hb dL_law_32 (by omega) (by omega) (by rw [c_17]; rfl) (by decide) ?_
        exact lc_alike C0 hK hN hN5 R hP hD hS hl K
      by_cases c_18 : sw.toInt = 17
      · refine lv_tableIn (tgt := 617) hx hb dL_law_32 (by omega) (by omega) (by rw [c_18]; rfl) (by decide) ?_
        exact lc_few C0 hK hN hN5 R hP hD hS hl K
      by_cases c_19 : sw.toInt = 18
      · refine lv_tableIn (tgt := 640) hx hb dL_law_32 (by omega) (by omega) (by rw [c_19]; rfl) (by decide) ?_
        exact lc_card C0 hK hN hN5 R hP hD hS hl K
      by_cases c_20 : sw.toInt = 19
      · refine lv_tableIn (tgt := 673) hx hb dL_law_32 (by omega) (by omega) (by rw [c_20]; rfl) (by decide) ?_
        exact lc_forget C0 hK hN hN5 R hP hD hS hl K
      by_cases c_21 : sw.toInt = 20
      · refine lv_tableIn (tgt := 686) hx hb dL_law_32 (by omega) (by omega) (by rw [c_21]; rfl) (by decide) ?_
        exact lc_who C0 hK hN hN5 R hP hD hS hl K
      by_cases c_22 : sw.toInt = 21
      · refine lv_tableIn (tgt := 709) hx hb dL_law_32 (by omega) (by omega) (by rw [c_22]; rfl) (by decide) ?_
        exact lc_next C0 hK hN hN5 R hP hD hS hl K
      by_cases c_23 : sw.toInt = 22
      · refine lv_tableIn (tgt := 722) hx hb dL_law_32 (by omega) (by omega) (by rw [c_23]; rfl) (by decide) ?_
        exact lc_ageing C0 hK hN hN5 R hP hD hS hl K
      by_cases c_24 : sw.toInt = 23
      · refine lv_tableIn (tgt := 775) hx hb dL_law_32 (by omega) (by omega) (by rw [c_24]; rfl) (by decide) ?_
        exact lc_image C0 hK hN hN5 R hP hD hS hl K
      by_cases c_25 : sw.toInt = 24
      · refine lv_tableIn (tgt := 788) hx hb dL_law_32 (by omega) (by omega) (by rw [c_25]; rfl) (by decide) ?_
        exact lc_restore C0 hK hN hN5 R hP hD hS hl K
      by_cases c_26 : sw.toInt = 25
      · refine lv_tableIn (tgt := 801) hx hb dL_law_32 (by omega) (by omega) (by rw [c_26]; rfl) (by decide) ?_
        exact lc_count C0 hK hN hN5 R hP hD hS hl K
      by_cases c_27 : sw.toInt = 26
      · refine lv_tableIn (tgt := 824) hx hb dL_law_32 (by omega) (by omega) (by rw [c_27]; rfl) (by decide) ?_
        exact lc_digest C0 hK hN hN5 R hP hD hS hl K
      refine lv_tableOut (tgt := 838) hx hb dL_law_32 (by omega) (by decide) ?_
      refine W.widen (k := 28 + (N + 1)) (n := 351 + 6 * (N + 1)) (by omega) (by omega) ?_
      exact K (f, g, pa, t9, n, pd, pk, pv) (f', g', h') H _ ls R.rs1 hP hD hS hl

set_option maxHeartbeats 4000000 in
set_option maxRecDepth 100000 in
theorem whole_start {p : Program} {e : Env} {s : State} {m : MethodId} {below : List Frame} {meth : Method} {c : Code} (l : Launch) (hflags : l.flags = flags0) {b L : Nat} {xs : Nat → Int32} (hL : L ≤ 2560) (C0 : lw_At p s m meth c b L xs) : W p l e room_1 s m #[Value.ref b] below meth c s.heap [] 0 0 (lw_Z below #[Value.ref b] s) (entryFrame m ([Value.ref b] : List Value).toArray 4) := by
  obtain ⟨hx, hb, hr, hml, hown, hts, hX, hbl, hlocks, hgv⟩ := id C0
  have hb : c.code = cL_law := hb
  have hown : s.vm.findClass RL = some m.cls := hown
  have htl : ∀ w ∈ wsL_law, w.before #[Value.ref b] s = true := fun w h => hts w (wsL_law_in w h)
  have C1 : lwC p s m meth c b L xs := ⟨hx, hb, hml, hown, htl, hX, hbl, hL⟩
  have hA : ∀ q : Nat, s.heap.size ≤ q → (fun q : Nat => s.heap.size ≤ q) q := fun _ h => h
  obtain ⟨c0, i0, hKn0⟩ := u_known (C := RX0) (T := TX0) (N := 6) (n := 6) htl inlX0 (hts (.instantiable RX0 6) (List.mem_of_getElem? (i := 104) (by decide +kernel)))
  obtain ⟨c1, i1, hKn1⟩ := u_known (C := RX1) (T := TX1) (N := 6) (n := 6) htl inlX1 (hts (.instantiable RX1 6) (List.mem_of_getElem? (i := 75) (by decide +kernel)))
  obtain ⟨c2, i2, hKn2⟩ := u_known (C := RX2) (T := TX2) (N := 6) (n := 6) htl inlX2 (hts (.instantiable RX2 6) (List.mem_of_getElem? (i := 149) (by decide +kernel)))
  obtain ⟨c3, i3, hKn3⟩ := u_known (C := RX3) (T := TX3) (N := 2) (n := 2) htl inlX3 (hts (.instantiable RX3 2) (List.mem_of_getElem? (i := 57) (by decide +kernel)))
  obtain ⟨c4, i4, hKn4⟩ := u_known (C := RX4) (T := TX4) (N := 6) (n := 6) htl inlX4 (hts (.instantiable RX4 6) (List.mem_of_getElem? (i := 187) (by decide +kernel)))
  obtain ⟨c5, i5, hKn5⟩ := u_known (C := RX5) (T := TX5) (N := 6) (n := 6) htl inlX5 (hts (.instantiable RX5 6) (List.mem_of_getElem? (i := 175) (by decide +kernel)))
  obtain ⟨c6, i6, hKn6⟩ := u_known (C := RX6) (T := TX6) (N := 6) (n := 6) htl inlX6 (hts (.instantiable RX6 6) (List.mem_of_getElem? (i := 162) (by decide +kernel)))
  obtain ⟨c7, i7, hKn7⟩ := u_known (C := RX7) (T := TX7) (N := 16) (n := 16) htl inlX7 (hts (.instantiable RX7 16) (List.mem_of_getElem? (i := 49) (by decide +kernel)))
  obtain ⟨c8, i8, hKn8⟩ := u_known (C := RX8) (T := TX8) (N := 25) (n := 25) htl inlX8 (hts (.instantiable RX8 25) (List.mem_of_getElem? (i := 578) (by decide +kernel)))
  obtain ⟨dC, dI, hKc⟩ : ∃ (dC : Nat → ClassId) (dI : Nat → Nat → Nat), ∀ (k : Nat) (q : vw_C), vwCl[k]? = some q → u_Kn s q.1 q.2.1 q.2.2 (dC k) (dI k) := by
    refine ⟨fun k => match k with | 0 => c0 | 1 => c1 | 2 => c2 | 3 => c3 | 4 => c4 | 5 => c5 | 6 => c6 | 7 => c7 | _ => c8, fun k => match k with | 0 => i0 | 1 => i1 | 2 => i2 | 3 => i3 | 4 => i4 | 5 => i5 | 6 => i6 | 7 => i7 | _ => i8, ?_⟩
    intro k q hq
    match k, hq with
    | 0, hq => cases hq; exact hKn0
    | 1, hq => cases hq; exact hKn1
    | 2, hq => cases hq; exact hKn2
    | 3, hq => cases hq; exact hKn3
    | 4, hq => cases hq; exact hKn4
    | 5, hq => cases hq; exact hKn5
    | 6, hq => cases hq; exact hKn6
    | 7, hq => cases hq; exact hKn7
    | 8, hq => cases hq; exact hKn8
    | k + 9, hq => simp [vwCl] at hq
  have hN : xN s := by
    refine ⟨?_, ?_, ?_⟩
    · exact (List.forall_mem_cons.mpr ⟨va_Nw.of rfl (hts (.methodLinkNest RX7 11 yX3_init RX7) (List.mem_of_getElem? (i := 58) (by decide +kernel))), (List.forall_mem_cons.mpr ⟨va_Nw.of rfl (hts (.fieldLinkNest RX7 208 RX3 "codes" "[I" RX7) (List.mem_of_getElem? (i := 63) (by decide +kernel))), (List.forall_mem_cons.mpr ⟨va_Nw.of rfl (hts (.fieldLinkNest RX7 50 RX3 "size" "I" RX7) (List.mem_of_getElem? (i := 65) (by decide +kernel))), (List.forall_mem_cons.mpr ⟨va_Nw.of rfl (hts (.methodLinkNest RX7 28 yX1_init RX7) (List.mem_of_getElem? (i := 76) (by decide +kernel))), (List.forall_mem_cons.mpr ⟨va_Nw.of rfl (hts (.fieldLinkNest RX7 144 RX1 "size" "I" RX7) (List.mem_of_getElem? (i := 85) (by decide +kernel))), (List.forall_mem_cons.mpr ⟨va_Nw.of rfl (hts (.methodLinkNest RX7 225 yX0_init RX7) (List.mem_of_getElem? (i := 105) (by decide +kernel))), (List.forall_mem_cons.mpr ⟨va_Nw.of rfl (hts (.methodLinkNest RX0 3 yX4_init RX7) (List.mem_of_getElem? (i := 108) (by decide +kernel))), (List.forall_mem_cons.mpr ⟨va_Nw.of rfl (hts (.methodLinkNest RX7 228 yX2_init RX7) (List.mem_of_getElem? (i := 150) (by decide +kernel))), (List.forall_mem_cons.mpr ⟨va_Nw.of rfl (hts (.methodLinkNest RX2 3 yX4_init RX7) (List.mem_of_getElem? (i := 153) (by decide +kernel))), (List.forall_mem_cons.mpr ⟨va_Nw.of rfl (hts (.methodLinkNest RX7 231 yX6_init RX7) (List.mem_of_getElem? (i := 163) (by decide +kernel))), (List.forall_mem_cons.mpr ⟨va_Nw.of rfl (hts (.methodLinkNest RX6 3 yX4_init RX7) (List.mem_of_getElem? (i := 166) (by decide +kernel))), (List.forall_mem_cons.mpr ⟨va_Nw.of rfl (hts (.methodLinkNest RX7 234 yX5_init RX7) (List.mem_of_getElem? (i := 176) (by decide +kernel))), (List.forall_mem_cons.mpr ⟨va_Nw.of rfl (hts (.methodLinkNest RX5 3 yX6_init RX7) (List.mem_of_getElem? (i := 179) (by decide +kernel))), (List.forall_mem_cons.mpr ⟨va_Nw.of rfl (hts (.methodLinkNest RX7 235 yX4_init RX7) (List.mem_of_getElem? (i := 188) (by decide +kernel))), (List.forall_mem_cons.mpr ⟨va_Nw.of rfl (hts (.methodLinkNest RX3 19 yX7_isHue RX7) (List.mem_of_getElem? (i := 269) (by decide +kernel))), (List.forall_mem_cons.mpr ⟨va_Nw.of rfl (hts (.methodLinkNest RX3 27 yX7_withHue RX7) (List.mem_of_getElem? (i := 281) (by decide +kernel))), (List.forall_mem_cons.mpr ⟨va_Nw.of rfl (hts (.methodLinkNest RX4 24 yX7_hueAt RX7) (List.mem_of_getElem? (i := 501) (by decide +kernel))), (List.forall_mem_cons.mpr ⟨va_Nw.of rfl (hts (.methodLinkNest RX4 32 yX7_withHue RX7) (List.mem_of_getElem? (i := 502) (by decide +kernel))), (fun _ h => absurd h List.not_mem_nil)⟩)⟩)⟩)⟩)⟩)⟩)⟩)⟩)⟩)⟩)⟩)⟩)⟩)⟩)⟩)⟩)⟩)⟩)
    · exact (List.forall_mem_cons.mpr ⟨va_Nw.of rfl (hts (.castable RX0 RX4) (List.mem_of_getElem? (i := 892) (by decide +kernel))), (List.forall_mem_cons.mpr ⟨va_Nw.of rfl (hts (.castable RX2 RX4) (List.mem_of_getElem? (i := 893) (by decide +kernel))), (List.forall_mem_cons.mpr ⟨va_Nw.of rfl (hts (.castable RX6 RX4) (List.mem_of_getElem? (i := 894) (by decide +kernel))), (List.forall_mem_cons.mpr ⟨va_Nw.of rfl (hts (.castable RX5 RX4) (List.mem_of_getElem? (i := 895) (by decide +kernel))), (List.forall_mem_cons.mpr ⟨va_Nw.of rfl (hts (.castable RX5 RX6) (List.mem_of_getElem? (i := 891) (by decide +kernel))), (fun _ h => absurd h List.not_mem_nil)⟩)⟩)⟩)⟩)⟩)
    · exact (List.forall_mem_cons.mpr ⟨va_Nc.of (flat_of_before _ hgv (.not (.castable RX4 RX0)) (by decide +kernel)), (List.forall_mem_cons.mpr ⟨va_Nc.of (flat_of_before _ hgv (.not (.castable RX4 RX2)) (by decide +kernel)), (List.forall_mem_cons.mpr ⟨va_Nc.of (flat_of_before _ hgv (.not (.castable RX4 RX6)) (by decide +kernel)), (List.forall_mem_cons.mpr ⟨va_Nc.of (flat_of_before _ hgv (.not (.castable RX4 RX5)) (by decide +kernel)), (List.forall_mem_cons.mpr ⟨va_Nc.of (flat_of_before _ hgv (.not (.castable RX0 RX2)) (by decide +kernel)), (List.forall_mem_cons.mpr ⟨va_Nc.of (flat_of_before _ hgv (.not (.castable RX0 RX6)) (by decide +kernel)), (List.forall_mem_cons.mpr ⟨va_Nc.of (flat_of_before _ hgv (.not (.castable RX0 RX5)) (by decide +kernel)), (List.forall_mem_cons.mpr ⟨va_Nc.of (flat_of_before _ hgv (.not (.castable RX2 RX0)) (by decide +kernel)), (List.forall_mem_cons.mpr ⟨va_Nc.of (flat_of_before _ hgv (.not (.castable RX2 RX6)) (by decide +kernel)), (List.forall_mem_cons.mpr ⟨va_Nc.of (flat_of_before _ hgv (.not (.castable RX2 RX5)) (by decide +kernel)), (List.forall_mem_cons.mpr ⟨va_Nc.of (flat_of_before _ hgv (.not (.castable RX6 RX0)) (by decide +kernel)), (List.forall_mem_cons.mpr ⟨va_Nc.of (flat_of_before _ hgv (.not (.castable RX6 RX2)) (by decide +kernel)), (List.forall_mem_cons.mpr ⟨va_Nc.of (flat_of_before _ hgv (.not (.castable RX6 RX5)) (by decide +kernel)), (List.forall_mem_cons.mpr ⟨va_Nc.of (flat_of_before _ hgv (.not (.castable RX5 RX0)) (by decide +kernel)), (List.forall_mem_cons.mpr ⟨va_Nc.of (flat_of_before _ hgv (.not (.castable RX5 RX2)) (by decide +kernel)), (fun _ h => absurd h List.not_mem_nil)⟩)⟩)⟩)⟩)⟩)⟩)⟩)⟩)⟩)⟩)⟩)⟩)⟩)⟩)⟩)
  have hO : va_AO RX4 s := va_AO.of (hts (.arrayOver (.object RX4)) (List.mem_of_getElem? (i := 73) (by decide +kernel)))
  have hS : va_S (fun q : Nat => s.heap.size ≤ q) s.heap s.heap [] := va_S.rf
  have hK : va_K (dC, dI) vwCl [] s := ⟨hKc, fun k q h => by simp at h⟩
  have hP : va_P (dC, dI) vwCl [] s.heap := fun k q h => by simp at h
  have hD : va_D (fun q : Nat => s.heap.size ≤ q) [] := ⟨fun i j p q h => by simp at h, fun k q h => by simp at h⟩
  have hl := lv_entry ([.ref b]) (n := 4) (Nat.le_of_ble_eq_true rfl)
  rw [lg_entry_eq]
  generalize (lg_sl ([.ref b]) ++ List.replicate (4 - (lg_sl ([.ref b])).length) Slot.unset).toArray = ls at hl ⊢
  have hl : lv_has ls 4 [(0, .ref b)] := hl
  refine va_new (ci := 7) (fs := [.null, .null, .null, .null, .null, .null, .int 0, .int 0, .int 0, .int 0, .int 0, .int 0, .int 0, .int 0, .int 0, .int 0]) (C := RX7) (T := TX7) (N := 16) hx hb htl inlX7 tyX7 tyX7_ok hown (hts (.classLink RL 7 RX7) (List.mem_of_getElem? (i := 48) (by decide +kernel))) (hts (.instantiable RX7 16) (List.mem_of_getElem? (i := 49) (by decide +kernel))) (hts (.initialized RX7) (List.mem_of_getElem? (i := 36) (by decide +kernel))) hK hP hD hS hA rfl (by decide +kernel) (Nat.le_of_ble_eq_true rfl) (Nat.le_of_ble_eq_true rfl) dL_law_0 (fun a H hP hD hS => ?_)
  have hP : va_P (dC, dI) vwCl [(a, .inr (7, [.null, .null, .null, .null, .null, .null, .int 0, .int 0, .int 0, .int 0, .int 0, .int 0, .int 0, .int 0, .int 0, .int 0]))] H := hP
  have hD : va_D (fun q : Nat => s.heap.size ≤ q) [(a, .inr (7, [.null, .null, .null, .null, .null, .null, .int 0, .int 0, .int 0, .int 0, .int 0, .int 0, .int 0, .int 0, .int 0, .int 0]))] := hD
  refine lv_dup hx hb dL_law_3 rfl ?_
  have hFc := va_Af hD hS hA
  refine va_callv (va_runI (As := []) (rest := [.ref a]) ⟨hx, hb, hml, hown, htl⟩ (c7_init l dC dI a H.size) (cwI 0 htl gL_law_X7_init rfl rfl rfl (hts (.initialized RX7) (List.mem_of_getElem? (i := 36) (by decide +kernel))) (hts (.methodLink RL 9 yX7_init) (List.mem_of_getElem? (i := 50) (by decide +kernel))) (hts (.instanceMethod yX7_init) (List.mem_of_getElem? (i := 51) (by decide +kernel))) rfl (by decide +kernel) ⟨Nat.le_of_ble_eq_true rfl, Nat.le_of_ble_eq_true rfl⟩) ⟨fun a U g mk q => by obtain ⟨q0, q1, qP, qK, qN, qO, qD⟩ := q; exact ⟨q0, q1, qP, va_K.moved (u := U) (U := U.calling g mk a) (Vm.Alike.refl U.vm) qK, xN.same (u := U) (U := U.calling g mk a) rfl qN, va_AO.moved (u := U) (U := U.calling g mk a) (Vm.Alike.refl U.vm) qO, qD⟩, fun U hU hW => ⟨rfl, by rw [hU], by rw [hU]; exact hP, va_K.moved hW.alike hK, xN.warm hW hN, va_AO.moved hW.alike hO, hD.weaken (fun _ _ _ _ => trivial)⟩⟩ rfl rfl hl.1 rfl (lv_room (Nat.le_of_ble_eq_true rfl)) dL_law_4 ⟨Nat.le_of_ble_eq_true rfl, Nat.le_of_ble_eq_true rfl⟩) hS (fun q _ h => hFc q h) hFc (fun u t H1 locs ht hvm hw hB hz1 hk1 hS => ?_)
  obtain ⟨cI, cP, o⟩ := u
  obtain ⟨hP1, hK1, hD1⟩ := hB
  rw [ht] at hP1
  have hK1 := va_K.moved hvm.symm hK1
  have hP2 : va_P (dC, dI) vwCl (xW cI cP a o xf0 xg0 (fun _ => none) xt0 0 (fun _ => 0) (fun _ => 0) (fun _ _ => 0)) H1 := hP1
  have hD2 : va_D (fun q : Nat => s.heap.size ≤ q) (xW cI cP a o xf0 xg0 (fun _ => none) xt0 0 (fun _ => 0) (fun _ => 0) (fun _ _ => 0)) := hD1.weaken (fun _ _ _ h => hFc _ h)
  have hK2 : va_K (dC, dI) vwCl [(cI, .int), (cP, .object RX4)] s := hK1
  clear hP hD hP1 hD1 hK1 hFc hk1 hz1
  generalize H1 = H at hP2 hS ⊢
  refine lv_astore_n (lv' := [(1, .ref a), (0, .ref b)]) hx hb dL_law_7 rfl hl (by decide) rfl (fun ls hl => ?_)
  refine va_new (ci := 8) (fs := [.null, .int 0, .int 0, .int 0, .int 0, .null, .int 0, .int 0, .null, .null, .int 0, .int 0, .null, .null, .int 0, .int 0, .int 0, .int 0, .int 0, .int 0, .null, .null, .null, .null, .long 0]) (C := RX8) (T := TX8) (N := 25) hx hb htl inlX8 tyX8 tyX8_ok hown (hts (.classLink RL 10 RX8) (List.mem_of_getElem? (i := 577) (by decide +kernel))) (hts (.instantiable RX8 25) (List.mem_of_getElem? (i := 578) (by decide +kernel))) (hts (.initialized RX8) (List.mem_of_getElem? (i := 44) (by decide +kernel))) hK2 hP2 hD2 hS hA rfl (by decide +kernel) (Nat.le_of_ble_eq_true rfl) (Nat.le_of_ble_eq_true rfl) dL_law_8 (fun a' H hP hD hS => ?_)
  refine lv_dup hx hb dL_law_11 rfl ?_
  have hPc := va_P_r hP
  have hDc := va_D_r hD
  have hFc := va_Af hDc hS hA
  refine va_callv (va_runI (As := []) (rest := [.ref a']) ⟨hx, hb, hml, hown, htl⟩ (c8_init l dC dI a' H.size) (cwI 0 htl gL_law_X8_init rfl rfl rfl (hts (.initialized RX8) (List.mem_of_getElem? (i := 44) (by decide +kernel))) (hts (.methodLink RL 12 yX8_init) (List.mem_of_getElem? (i := 579) (by decide +kernel))) (hts (.instanceMethod yX8_init) (List.mem_of_getElem? (i := 580) (by decide +kernel))) rfl (by decide +kernel) ⟨Nat.le_of_ble_eq_true rfl, Nat.le_of_ble_eq_true rfl⟩) ⟨fun a U g mk q => by obtain ⟨q0, q1, qP, qK, qD⟩ := q; exact ⟨q0, q1, qP, va_K.moved (u := U) (U := U.calling g mk a) (Vm.Alike.refl U.vm) qK, qD⟩, fun U hU hW => ⟨rfl, by rw [hU], by rw [hU]; exact hPc, va_K.moved hW.alike hK, hDc.weaken (fun _ _ _ _ => trivial)⟩⟩ rfl rfl hl.1 rfl (lv_room (Nat.le_of_ble_eq_true rfl)) dL_law_12 ⟨Nat.le_of_ble_eq_true rfl, Nat.le_of_ble_eq_true rfl⟩) hS (fun q _ h => hFc q h) hFc (fun u t H1 locs ht hvm hw hB hz1 hk1 hS => ?_)
  obtain ⟨cA, o'⟩ := u
  obtain ⟨hP1, hK1, hD1⟩ := hB
  rw [ht] at hP1
  have hK1 := va_K.moved hvm.symm hK1
  have ecA : cA = cI := cls_int hK1 hK2 0 0 rfl rfl
  subst ecA
  obtain ⟨hP, hD⟩ := jr hP hD hk1 hFc hP1 hD1
  generalize H1 = H at hP hS ⊢
  have hP3 := va_P.app (va_P_r hP) (va_P_l hP)
  have hD3 := va_D.app (va_D_r hD) (va_D_l hD) (fun i j x y hx hy e => va_D_x hD j i y x hy hx e.symm)
  refine lv_astore_n (lv' := [(2, .ref a'), (1, .ref a), (0, .ref b)]) hx hb dL_law_15 rfl hl (by decide) rfl (fun ls hl => ?_)
  refine lv_iconst (v := nI (0)) hx hb dL_law_16 (by decide +kernel) ?_
  refine lv_istore_n (lv' := lwL 0 b a a') hx hb dL_law_17 rfl hl (by decide) rfl (fun ls hl => ?_)
  have hR0 : RS 0 (xf0, xg0, (fun _ => none), xt0, 0, (fun _ => 0), (fun _ => 0), (fun _ _ => 0)) (mf0, (fun _ _ => 0), 0) := ⟨0, 0, 0, 0, 0, ⟨by omega, rfl, rfl, fun j hj => absurd hj (by omega)⟩, ⟨Or.inl ⟨rfl, rfl⟩, fun _ => ⟨rfl, rfl⟩⟩, ⟨by omega, rfl, rfl, fun j hj => absurd hj (by omega)⟩, ⟨rfl, rfl, rfl, by omega, by omega, rfl, rfl⟩, ⟨by show 0 ≤ 4; omega, rfl, rfl, fun i hi => absurd hi (by show ¬ i < 0; omega)⟩, ⟨by omega, rfl, rfl, fun j hj => absurd hj (by omega)⟩, ⟨Or.inl rfl, Or.inl ⟨rfl, by decide +kernel⟩⟩⟩
  exact law_loop C1 hK2 hN hr hlocks 513 0 rfl _ _ hR0 (Nat.zero_le _) H _ ls hP3 hD3 hS hl
