set_option maxHeartbeats 4000000 in
set_option maxRecDepth 100000 in
theorem law_loop {p : Program} {l : Launch} {e : Env} {s : State} {m : MethodId} {below : List Frame} {meth : Method} {c : Code} {D : va_G} {t : bx_T} {b L x y : Nat} {xs : Nat → Int32} {ax ay : Nat → Nat} (hL : L ≤ 2048) (hr : meth.sig.returnType = ret) (hlocks : meth.locks = false) (E : bx_E p m c code 4 s #[Value.ref b] wsL_law RL D t (fun q => s.heap.size ≤ q)) (hX : va_X b L xs s s.heap) (hbl : b < s.heap.size) : ∀ (n i : Nat), L + 1 ≤ i + n → i ≤ L → ∀ (B : bl_S) (S : md_S) (H : Heap) (locs : List Loc) (ls : Array Slot), Inv B S → bx_M D (fun q => s.heap.size ≤ q) s (bl_w t x ax B (md_w t.1 y ay S)) H locs → lv_has ls 4 [(3, .int (nI i)), (0, .ref b), (1, .ref x), (2, .ref y)] → W p l e room_1 s m #[Value.ref b] below meth c H locs (19 + i) (847 + 5 * i) (lw_Z below #[Value.ref b] s) (F0 m 18 ls []) := by
  have hx := E.1.1
  have hb := E.1.2.1
  have hbA : ¬ (fun q : Nat => s.heap.size ≤ q) b := Nat.not_le.mpr hbl
  intro n
  induction n with
  | zero => intro i h1 h2; exact absurd h1 (by omega)
  | succ n ih =>
    intro i hin hiL B S H locs ls HI hM hl
    refine lv_iload_n hx hb dL_law_18 rfl (lv_at hl 0 rfl) ?_
    refine lv_aload_n hx hb dL_law_19 rfl (lv_at hl 1 rfl) ?_
    refine va_slen hx hb hX hbl hbA hM.2.2 dL_law_20 ?_
    refine lv_iconst (v := 4) hx hb dL_law_21 (by decide) ?_
    refine lv_isub hx hb dL_law_22 ?_
    refine lv_icmp_gt (tgt := 801) hx hb dL_law_23 (by decide) (fun _ => ?_) (fun c_23 => ?_)
    · refine lv_iconst (v := 1) hx hb dL_law_801 (by decide) ?_
      refine va_forget (fun q hq => hM.2.2.2.2 q hq) ?_
      refine W.widen (k := 715299) (n := 6956352) (by omega) (by omega) ?_
      exact lw_ret hx hb hr hlocks dL_law_802
    · have hi4 : i + 4 ≤ L := by
        have e1 := pk_sub_toInt (a := L) (b := 4) (by omega) (by decide)
        have e2 : (nI i).toInt ≤ (nI L - nI 4).toInt := Int32.le_iff_toInt_le.mp (Int32.not_lt.mp c_23)
        rw [e1, nI_toInt (by omega)] at e2
        omega
      have kk : ∀ (B : bl_S) (S : md_S) (H : Heap) (locs : List Loc) (ls : Array Slot), Inv B S → bx_M D (fun q => s.heap.size ≤ q) s (bl_w t x ax B (md_w t.1 y ay S)) H locs → lv_has ls 4 [(3, .int (nI i)), (0, .ref b), (1, .ref x), (2, .ref y)] → W p l e room_1 s m #[Value.ref b] below meth c H locs (19 + i + 1) (847 + 5 * i + 5) (lw_Z below #[Value.ref b] s) (F0 m 795 ls []) := by
        intro B S H locs ls HI hM hl
        refine lv_iinc (v := nI (i + 4)) (lv' := [(3, .int (nI (i + 4))), (0, .ref b), (1, .ref x), (2, .ref y)]) hx hb dL_law_795 hl (k := 0) rfl (nI_add i 4) (by decide) rfl (fun ls hl => ?_)
        refine lv_goto (tgt := 18) hx hb dL_law_798 (by decide) ?_
        refine W.widen (k := 19 + (i + 4)) (n := 847 + 5 * (i + 4)) (by omega) (by omega) ?_
        exact ih (i + 4) (by omega) (by omega) B S H locs ls HI hM hl
      refine lv_aload_n hx hb dL_law_26 rfl (lv_at hl 1 rfl) ?_
      refine lv_iload_n hx hb dL_law_27 rfl (lv_at hl 0 rfl) ?_
      refine va_sld hx hb hX hbl hbA hM.2.2 (vp_in_nI (show i < L by omega) (by omega)) dL_law_28 ?_
      refine lv_bipush (v := 31) hx hb dL_law_29 (by decide) ?_
      refine lv_iand hx hb dL_law_31 ?_
      refine lv_topi (fun z ez => ?_)
      by_cases z0 : z = 0
      · refine lv_tableIn (tgt := 140) hx hb dL_law_32 (by rw [z0]; decide) (by rw [z0]; decide) (by rw [z0]; rfl) (by decide) ?_
        exact law_hang E hX hbl hbA hi4 hL HI hM hl kk
      by_cases z1 : z = 1
      · refine lv_tableIn (tgt := 183) hx hb dL_law_32 (by rw [z1]; decide) (by rw [z1]; decide) (by rw [z1]; rfl) (by decide) ?_
        exact law_weigh E hX hbl hbA hi4 hL HI hM hl kk
      by_cases z2 : z = 2
      · refine lv_tableIn (tgt := 206) hx hb dL_law_32 (by rw [z2]; decide) (by rw [z2]; decide) (by rw [z2]; rfl) (by decide) ?_
        exact law_ring E hX hbl hbA hi4 hL HI hM hl kk
      by_cases z3 : z = 3
      · refine lv_tableIn (tgt := 229) hx hb dL_law_32 (by rw [z3]; decide) (by rw [z3]; decide) (by rw [z3]; rfl) (by decide) ?_
        exact law_hum E hX hbl hbA hi4 hL HI hM hl kk
      by_cases z4 : z = 4
      · refine lv_tableIn (tgt := 252) hx hb dL_law_32 (by rw [z4]; decide) (by rw [z4]; decide) (by rw [z4]; rfl) (by decide) ?_
        exact law_tune E hX hbl hbA hi4 hL HI hM hl kk
      by_cases z5 : z = 5
      · refine lv_tableIn (tgt := 285) hx hb dL_law_32 (by rw [z5]; decide) (by rw [z5]; decide) (by rw [z5]; rfl) (by decide) ?_
        exact law_fit E hX hbl hbA hi4 hL HI hM hl kk
      by_cases z6 : z = 6
      · refine lv_tableIn (tgt := 318) hx hb dL_law_32 (by rw [z6]; decide) (by rw [z6]; decide) (by rw [z6]; rfl) (by decide) ?_
        exact law_alarm E hX hbl hbA hi4 hL HI hM hl kk
      by_cases z7 : z = 7
      · refine lv_tableIn (tgt := 351) hx hb dL_law_32 (by rw [z7]; decide) (by rw [z7]; decide) (by rw [z7]; rfl) (by decide) ?_
        exact law_raise E hX hbl hbA hi4 hL HI hM hl kk
      by_cases z8 : z = 8
      · refine lv_tableIn (tgt := 374) hx hb dL_law_32 (by rw [z8]; decide) (by rw [z8]; decide) (by rw [z8]; rfl) (by decide) ?_
        exact law_level E hX hbl hbA hi4 hL HI hM hl kk
      by_cases z9 : z = 9
      · refine lv_tableIn (tgt := 387) hx hb dL_law_32 (by rw [z9]; decide) (by rw [z9]; decide) (by rw [z9]; rfl) (by decide) ?_
        exact law_frame E hX hbl hbA hi4 hL HI hM hl kk
      by_cases z10 : z = 10
      · refine lv_tableIn (tgt := 436) hx hb dL_law_32 (by rw [z10]; decide) (by rw [z10]; decide) (by rw [z10]; rfl) (by decide) ?_
        exact law_size E hX hbl hbA hi4 hL HI hM hl kk
      by_cases z11 : z = 11
      · refine lv_tableIn (tgt := 449) hx hb dL_law_32 (by rw [z11]; decide) (by rw [z11]; decide) (by rw [z11]; rfl) (by decide) ?_
        exact law_lay E hX hbl hbA hi4 hL HI hM hl kk
      by_cases z12 : z = 12
      · refine lv_tableIn (tgt := 482) hx hb dL_law_32 (by rw [z12]; decide) (by rw [z12]; decide) (by rw [z12]; rfl) (by decide) ?_
        exact law_see E hX hbl hbA hi4 hL HI hM hl kk
      by_cases z13 : z = 13
      · refine lv_tableIn (tgt := 505) hx hb dL_law_32 (by rw [z13]; decide) (by rw [z13]; decide) (by rw [z13]; rfl) (by decide) ?_
        exact law_change E hX hbl hbA hi4 hL HI hM hl kk
      by_cases z14 : z = 14
      · refine lv_tableIn (tgt := 528) hx hb dL_law_32 (by rw [z14]; decide) (by rw [z14]; decide) (by rw [z14]; rfl) (by decide) ?_
        exact law_call E hX hbl hbA hi4 hL HI hM hl kk
      by_cases z15 : z = 15
      · refine lv_tableIn (tgt := 561) hx hb dL_law_32 (by rw [z15]; decide) (by rw [z15]; decide) (by rw [z15]; rfl) (by decide) ?_
        exact law_strike E hX hbl hbA hi4 hL HI hM hl kk
      by_cases z16 : z = 16
      · refine lv_tableIn (tgt := 584) hx hb dL_law_32 (by rw [z16]; decide) (by rw [z16]; decide) (by rw [z16]; rfl) (by decide) ?_
        exact law_chime E hX hbl hbA hi4 hL HI hM hl kk
      by_cases z17 : z = 17
      · refine lv_tableIn (tgt := 607) hx hb dL_law_32 (by rw [z17]; decide) (by rw [z17]; decide) (by rw [z17]; rfl) (by decide) ?_
        exact law_peal E hX hbl hbA hi4 hL HI hM hl kk
      by_cases z18 : z = 18
      · refine lv_tableIn (tgt := 640) hx hb dL_law_32 (by rw [z18]; decide) (by rw [z18]; decide) (by rw [z18]; rfl) (by decide) ?_
        exact law_mark E hX hbl hbA hi4 hL HI hM hl kk
      by_cases z19 : z = 19
      · refine lv_tableIn (tgt := 683) hx hb dL_law_32 (by rw [z19]; decide) (by rw [z19]; decide) (by rw [z19]; rfl) (by decide) ?_
        exact law_marked E hX hbl hbA hi4 hL HI hM hl kk
      by_cases z20 : z = 20
      · refine lv_tableIn (tgt := 716) hx hb dL_law_32 (by rw [z20]; decide) (by rw [z20]; decide) (by rw [z20]; rfl) (by decide) ?_
        exact law_away E hX hbl hbA hi4 hL HI hM hl kk
      by_cases z21 : z = 21
      · refine lv_tableIn (tgt := 739) hx hb dL_law_32 (by rw [z21]; decide) (by rw [z21]; decide) (by rw [z21]; rfl) (by decide) ?_
        exact law_about E hX hbl hbA hi4 hL HI hM hl kk
      by_cases z22 : z = 22
      · refine lv_tableIn (tgt := 772) hx hb dL_law_32 (by rw [z22]; decide) (by rw [z22]; decide) (by rw [z22]; rfl) (by decide) ?_
        exact law_reasons E hX hbl hbA hi4 hL HI hM hl kk
      refine lv_tableOut (tgt := 795) hx hb dL_law_32 (by have q0 := lv_neT z0 (a := 0) (by decide); have q1 := lv_neT z1 (a := 1) (by decide); have q2 := lv_neT z2 (a := 2) (by decide); have q3 := lv_neT z3 (a := 3) (by decide); have q4 := lv_neT z4 (a := 4) (by decide); have q5 := lv_neT z5 (a := 5) (by decide); have q6 := lv_neT z6 (a := 6) (by decide); have q7 := lv_neT z7 (a := 7) (by decide); have q8 := lv_neT z8 (a := 8) (by decide); have q9 := lv_neT z9 (a := 9) (by decide); have q10 := lv_neT z10 (a := 10) (by decide); have q11 := lv_neT z11 (a := 11) (by decide); have q12 := lv_neT z12 (a := 12) (by decide); have q13 := lv_neT z13 (a := 13) (by decide); have q14 := lv_neT z14 (a := 14) (by decide); have q15 := lv_neT z15 (a := 15) (by decide); have q16 := lv_neT z16 (a := 16) (by decide); have q17 := lv_neT z17 (a := 17) (by decide); have q18 := lv_neT z18 (a := 18) (by decide); have q19 := lv_neT z19 (a := 19) (by decide); have q20 := lv_neT z20 (a := 20) (by decide); have q21 := lv_neT z21 (a := 21) (by decide); have q22 := lv_neT z22 (a := 22) (by decide); omega) (by decide) ?_
      refine W.widen (k := 19 + i + 1) (n := 847 + 5 * i + 5) (by omega) (by omega) ?_
      exact kk B S H locs ls HI hM hl
theorem arr_int {args : Array Value} {s : State} (h : (Cond.arrayClass .int).before args s = true) : ∃ cA : ClassId, ArrOfT s cA .int ∧ va_RA s cA .int := by
  obtain ⟨cA, kA, comp, h1, h2, h3⟩ := Cond.arrayClass_spec h
  exact ⟨cA, fun n z => ⟨fun k h => (by cases h), kA, h2, comp, h3⟩, h1⟩
theorem arr_obj {args : Array Value} {s : State} {C : String} (h : (Cond.arrayOver (.object C)).before args s = true) : ∃ cA : ClassId, ArrOfT s cA (.object C) ∧ va_RA s cA (.object C) := by
  obtain ⟨comp, cA, kA, f1, f0, f2, f3, f4⟩ := Cond.arrayOver_spec h
  exact ⟨cA, fun n z => ⟨fun k h => (by cases h), kA, f2, comp, f3⟩, kA, comp, f2, f3, f1, f4⟩
set_option maxHeartbeats 4000000 in
set_option maxRecDepth 100000 in
theorem whole_start {p : Program} {e : Env} {s : State} {m : MethodId} {below : List Frame} {meth : Method} {c : Code} (l : Launch) {b L : Nat} {xs : Nat → Int32} (hL : L ≤ 2048) (C0 : lw_At p s m meth c b L xs) : W p l e room_1 s m #[Value.ref b] below meth c s.heap [] 0 0 (lw_Z below #[Value.ref b] s) (entryFrame m ([Value.ref b] : List Value).toArray 4) := by
  obtain ⟨hx, hb, hr, hml, hown, hts0, hX, hbl, hlocks, hgv⟩ := id C0
  have hts : ∀ w ∈ wsL_law, w.before #[Value.ref b] s = true := fun w h => hts0 w (wsL_law_in w h)
  have hfl := flat_of_before _ hgv
  obtain ⟨c0, iS0, hKn0⟩ := u_known (C := RX0) (T := TX0) (N := 4) (n := 4) hts0 inX0 (hts (.instantiable RX0 4) (by decide +kernel))
  obtain ⟨c1, iS1, hKn1⟩ := u_known (C := RX1) (T := TX1) (N := 2) (n := 2) hts0 inX1 (hts (.instantiable RX1 2) (by decide +kernel))
  obtain ⟨c2, iS2, hKn2⟩ := u_known (C := RX2) (T := TX2) (N := 5) (n := 5) hts0 inX2 (hts (.instantiable RX2 5) (by decide +kernel))
  obtain ⟨c3, iS3, hKn3⟩ := u_known (C := RX4) (T := TX4) (N := 11) (n := 11) hts0 inX4 (hts (.instantiable RX4 11) (by decide +kernel))
  obtain ⟨c4, iS4, hKn4⟩ := u_known (C := RX5) (T := TX5) (N := 18) (n := 18) hts0 inX5 (hts (.instantiable RX5 18) (by decide +kernel))
  obtain ⟨D, hKc⟩ : ∃ (D : va_G), ∀ (k : Nat) (q : vw_C), vwCl[k]? = some q → u_Kn s q.1 q.2.1 q.2.2 (D.1 k) (D.2 k) := by
    refine ⟨(fun k => match k with | 0 => c0 | 1 => c1 | 2 => c2 | 3 => c3 | _ => c4, fun k => match k with | 0 => iS0 | 1 => iS1 | 2 => iS2 | 3 => iS3 | _ => iS4), ?_⟩
    intro k q hq
    match k, hq with
    | 0, hq => cases hq; exact hKn0
    | 1, hq => cases hq; exact hKn1
    | 2, hq => cases hq; exact hKn2
    | 3, hq => cases hq; exact hKn3
    | 4, hq => cases hq; exact hKn4
    | k + 5, hq => simp [vwCl] at hq
  obtain ⟨cI, hI1, hI2⟩ := arr_int (hts0 (.arrayClass .int) (by decide +kernel))
  have hao3 := hts0 (.arrayOver (.object RX3)) (by decide +kernel)
  have hao0 := hts0 (.arrayOver (.object RX0)) (by decide +kernel)
  obtain ⟨cT, hT1, hT2⟩ := arr_obj hao3
  obtain ⟨cB, hB1, hB2⟩ := arr_obj hao0
  have hAO : va_AO RX3 s ∧ va_AO RX0 s := ⟨va_AO.of hao3, va_AO.of hao0⟩
  have hK : bx_K D (cI, cT, cB) s := by
    refine ⟨⟨hKc, fun k q h => ?_⟩, va_Nw.of rfl (hts0 (.castable RX0 RX0) (by decide +kernel)), va_Nw.of rfl (hts0 (.castable RX0 RX3) (by decide +kernel)), va_Nw.of rfl (hts0 (.castable RX1 RX1) (by decide +kernel)), va_Nw.of rfl (hts0 (.castable RX1 RX3) (by decide +kernel)), va_Nw.of rfl (hts0 (.castable RX2 RX0) (by decide +kernel)), va_Nw.of rfl (hts0 (.castable RX2 RX2) (by decide +kernel)), va_Nw.of rfl (hts0 (.castable RX2 RX3) (by decide +kernel)), va_Nc.of (hfl (.not (.castable RX1 RX0)) (by decide +kernel)), va_Nc.of (hfl (.not (.castable RX0 RX2)) (by decide +kernel)), va_Nc.of (hfl (.not (.castable RX1 RX2)) (by decide +kernel)), va_Nc.of (hfl (.not (.castable RX0 RX1)) (by decide +kernel)), va_Nc.of (hfl (.not (.castable RX2 RX1)) (by decide +kernel)), va_Nw.of rfl (hts0 (.declares ⟨RX3, "sortNumber", "()I"⟩) (by decide +kernel)), va_Nw.of rfl (hts0 (.declares ⟨RX3, "wearSoFar", "()I"⟩) (by decide +kernel))⟩
    match k, h with
    | 0, h => cases h; exact ⟨hI1, hI2⟩
    | 1, h => cases h; exact ⟨hT1, hT2⟩
    | 2, h => cases h; exact ⟨hB1, hB2⟩
    | k + 3, h => simp [bx_tys] at h
  generalize htt : (cI, cT, cB) = t at hK
  have hA : ∀ q : Nat, s.heap.size ≤ q → (fun q : Nat => s.heap.size ≤ q) q := fun _ h => h
  have E : bx_E p m c code 4 s #[Value.ref b] wsL_law RL D t (fun q => s.heap.size ≤ q) := ⟨⟨hx, hb, hml, hown, hts⟩, hK, hA⟩
  have hS : va_S (fun q : Nat => s.heap.size ≤ q) s.heap s.heap [] := va_S.rf
  have hP : va_P D vwCl [] s.heap := fun k q h => by simp at h
  have hD : va_D (fun q : Nat => s.heap.size ≤ q) [] := ⟨fun i j p q h => by simp at h, fun k q h => by simp at h⟩
  have hl := lv_entry ([.ref b]) (n := 4) (Nat.le_of_ble_eq_true rfl)
  rw [lg_entry_eq]
  generalize (lg_sl ([.ref b]) ++ List.replicate (4 - (lg_sl ([.ref b])).length) Slot.unset).toArray = ls at hl ⊢
  have hl : lv_has ls 4 [(0, .ref b)] := hl
  refine va_new (ci := 3) (fs := [.null, .null, .int 0, .int 0, .null, .int 0, .null, .int 0, .int 0, .null, .int 0]) (C := RX4) (T := TX4) (N := 11) hx hb hts inlX4 tyX4 tyX4_ok hown (hts (.classLink RL 7 RX4) (by decide +kernel)) (hts (.instantiable RX4 11) (by decide +kernel)) (hts (.initialized RX4) (by decide +kernel)) hK.1 hP hD hS hA rfl (fun j hj => by rcases (show j = 0 ∨ j = 1 ∨ j = 2 ∨ j = 3 ∨ j = 4 ∨ j = 5 ∨ j = 6 ∨ j = 7 ∨ j = 8 ∨ j = 9 ∨ j = 10 by omega) with rfl | rfl | rfl | rfl | rfl | rfl | rfl | rfl | rfl | rfl | rfl <;> rfl) (Nat.le_of_ble_eq_true rfl) (Nat.le_of_ble_eq_true rfl) dL_law_0 (fun x H hP hD hS => ?_)
  have hM : bx_M D (fun q => s.heap.size ≤ q) s [(x, .inr (3, [.null, .null, .int 0, .int 0, .null, .int 0, .null, .int 0, .int 0, .null, .int 0]))] H [] := ⟨hP, hD, hS⟩
  refine lv_dup hx hb dL_law_3 rfl ?_
  refine bx_gov hM (va_runI (As := []) (rest := [.ref x]) E.1 (bX4_init l D t (fun q => s.heap.size ≤ q) x) (cwI 0 hts gL_law_X4_init rfl rfl rfl (hts (.initialized RX4) (by decide +kernel)) (hts (.methodLink RL 9 yX4_init) (by decide +kernel)) (hts (.instanceMethod yX4_init) (by decide +kernel)) rfl (by decide +kernel) ⟨Nat.le_of_ble_eq_true rfl, Nat.le_of_ble_eq_true rfl⟩) ⟨fun a U g mk q => by obtain ⟨q0, ⟨qP, qD, qK, qA⟩, q1, q2⟩ := q; exact ⟨q0, ⟨qP, qD, qK.same (U := U.calling g mk a) rfl, qA⟩, q1.moved (U := U.calling g mk a) (Vm.Alike.refl U.vm), q2.moved (U := U.calling g mk a) (Vm.Alike.refl U.vm)⟩, fun U hU hW => ⟨rfl, ((bx_pre (av := [.ref x]) E hM).2 U hU hW).2, hAO.1.moved hW.alike, hAO.2.moved hW.alike⟩⟩ rfl rfl hl.1 rfl (lv_room (Nat.le_of_ble_eq_true rfl)) dL_law_4 ⟨Nat.le_of_ble_eq_true rfl, Nat.le_of_ble_eq_true rfl⟩) (fun ax H locs _ hM => ?_)
  have hM : bx_M D (fun q => s.heap.size ≤ q) s (bl_w t x ax bl_0 []) H locs := hM
  refine lv_astore_n (lv' := [(1, .ref x), (0, .ref b)]) hx hb dL_law_7 rfl hl (by decide) rfl (fun ls hl => ?_)
  refine va_new (ci := 4) (fs := [.null, .null, .null, .null, .null, .null, .null, .null, .int 0, .int 0, .null, .int 0, .null, .int 0, .int 0, .null, .int 0, .null]) (C := RX5) (T := TX5) (N := 18) hx hb hts inlX5 tyX5 tyX5_ok hown (hts (.classLink RL 10 RX5) (by decide +kernel)) (hts (.instantiable RX5 18) (by decide +kernel)) (hts (.initialized RX5) (by decide +kernel)) hK.1 hM.1 hM.2.1 hM.2.2 hA rfl (fun j hj => by rcases (show j = 0 ∨ j = 1 ∨ j = 2 ∨ j = 3 ∨ j = 4 ∨ j = 5 ∨ j = 6 ∨ j = 7 ∨ j = 8 ∨ j = 9 ∨ j = 10 ∨ j = 11 ∨ j = 12 ∨ j = 13 ∨ j = 14 ∨ j = 15 ∨ j = 16 ∨ j = 17 by omega) with rfl | rfl | rfl | rfl | rfl | rfl | rfl | rfl | rfl | rfl | rfl | rfl | rfl | rfl | rfl | rfl | rfl | rfl <;> rfl) (Nat.le_of_ble_eq_true rfl) (Nat.le_of_ble_eq_true rfl) dL_law_8 (fun y H hP hD hS => ?_)
  refine lv_dup hx hb dL_law_11 rfl ?_
  have hPc := hP.sub (ws' := [(y, .inr (4, [.null, .null, .null, .null, .null, .null, .null, .null, .int 0, .int 0, .null, .int 0, .null, .int 0, .int 0, .null, .int 0, .null]))]) [6] rfl
  have hDc := hD.sub (ws' := [(y, .inr (4, [.null, .null, .null, .null, .null, .null, .null, .null, .int 0, .int 0, .null, .int 0, .null, .int 0, .int 0, .null, .int 0, .null]))]) [6] (by decide) rfl
  have hFc := va_free (wc := [(y, .inr (4, [.null, .null, .null, .null, .null, .null, .null, .null, .int 0, .int 0, .null, .int 0, .null, .int 0, .int 0, .null, .int 0, .null]))]) hD hS hA [6] rfl
  refine va_callv (va_runI (As := []) (rest := [.ref y]) E.1 (cX5c_init l D t (va_A [(y, .inr (4, [.null, .null, .null, .null, .null, .null, .null, .null, .int 0, .int 0, .null, .int 0, .null, .int 0, .int 0, .null, .int 0, .null]))] H.size) y) (cwI 0 hts gL_law_X5_init rfl rfl rfl (hts (.initialized RX5) (by decide +kernel)) (hts (.methodLink RL 12 yX5_init) (by decide +kernel)) (hts (.instanceMethod yX5_init) (by decide +kernel)) rfl (by decide +kernel) ⟨Nat.le_of_ble_eq_true rfl, Nat.le_of_ble_eq_true rfl⟩) ⟨bx_blind, fun U hU hW => ⟨rfl, by rw [hU]; exact hPc, hDc.self, hK.warm hW, fun q h => Or.inr (by rw [hU] at h; exact h)⟩⟩ rfl rfl hl.1 rfl (lv_room (Nat.le_of_ble_eq_true rfl)) dL_law_12 ⟨Nat.le_of_ble_eq_true rfl, Nat.le_of_ble_eq_true rfl⟩) hS (fun q _ h => hFc q h) hFc (fun ay t1 H1 locs1 ht hvm hw hB hz1 hk1 hS => ?_)
  obtain ⟨hP1, hD1⟩ := hB
  rw [ht] at hP1
  obtain ⟨hP, hD⟩ := va_join (wr := bl_x t x ax bl_0 []) (w1 := md_w t.1 y ay md_0 ++ []) hP hD [6] [0, 1, 2, 3, 4, 5] rfl rfl (by decide) (by decide) hk1 hFc hP1 hD1
  have hM : bx_M D (fun q => s.heap.size ≤ q) s (bl_w t x ax bl_0 (md_w t.1 y ay md_0)) H1 locs1 := ⟨hP, hD, hS⟩
  refine lv_astore_n (lv' := [(2, .ref y), (1, .ref x), (0, .ref b)]) hx hb dL_law_15 rfl hl (by decide) rfl (fun ls hl => ?_)
  refine lv_iconst (v := nI 0) hx hb dL_law_16 (by decide) ?_
  refine lv_istore_n (lv' := [(3, .int (nI 0)), (2, .ref y), (1, .ref x), (0, .ref b)]) hx hb dL_law_17 rfl hl (by decide) rfl (fun ls hl => ?_)
  refine W.widen (k := 19 + 0) (n := 847 + 5 * 0) (Nat.le_of_ble_eq_true rfl) (Nat.le_of_ble_eq_true rfl) ?_
  exact law_loop hL hr hlocks E hX hbl (L + 1) 0 (by omega) (Nat.zero_le L) bl_0 md_0 H1 locs1 ls Inv0 hM (lv_sub hl [0, 3, 2, 1] rfl)
