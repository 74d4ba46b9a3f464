theorem md_fl0 (S : md_S) (k : Nat) (x : Int32) : md_a S k (fl (S.1 k) 0 x) = S := by
  refine Prod.ext (funext fun j => ?_) rfl
  show va_up S.1 k (fl (S.1 k) 0 x) j = S.1 j
  by_cases hj : j = k
  · subst hj; rw [va_up_self]; funext q; simp [fl]
  · rw [va_up_ne _ _ hj]
theorem md_flS (S : md_S) (k i : Nat) (x : Int32) (f : Nat → Int32) : md_ai (md_a S k (fl f i x)) k i x = md_a S k (fl f (i + 1) x) := by
  refine Prod.ext (funext fun j => ?_) rfl
  show va_up (va_up S.1 k (fl f i x)) k (upd (va_up S.1 k (fl f i x) k) i x) j = va_up S.1 k (fl f (i + 1) x) j
  by_cases hj : j = k
  · subst hj; rw [va_up_self, va_up_self, va_up_self]; funext q
    by_cases hq : q = i
    · subst hq; simp [upd, fl]
    · have : (q < i + 1) ↔ (q < i) := by omega
      simp [upd, fl, hq, this]
  · rw [va_up_ne _ _ hj, va_up_ne _ _ hj, va_up_ne _ _ hj]
theorem nI_ltl {i n : Nat} {N : Int32} (hN : N = nI n) (h : i < n) (hn : n < 2 ^ 31) : nI i < N := by rw [hN]; exact nI_lt h hn
theorem nI_nltl {i n : Nat} {N : Int32} (hN : N = nI n) (h : n ≤ i) (hn : i < 2 ^ 31) : ¬ nI i < N := by rw [hN]; exact nI_nlt h hn
theorem md_fr {f : Int32} (h : md_ln f) : (∀ i, i < f.toNatClampNeg → nI i < f) ∧ ¬ nI f.toNatClampNeg < f ∧ f.toNatClampNeg ≤ 12 := by
  rcases h with rfl | ⟨n, hn, rfl⟩
  · have e : (-1 : Int32).toNatClampNeg = 0 := by decide
    rw [e]
    exact ⟨fun i hi => absurd hi (Nat.not_lt_zero i), by decide, by decide⟩
  · rw [nI_clamp (by omega)]
    exact ⟨fun i hi => nI_lt hi (by omega), nI_nlt (Nat.le_refl _) (by omega), hn⟩

set_option maxHeartbeats 4000000 in
set_option maxRecDepth 100000 in
theorem lpX5_frame {p : Program} {l : Launch} {e : Env} {R : Room} {s : State} {m : MethodId} {args : Array Value} {below : List Frame} {meth : Method} {c : Code} {cells slots : Nat} {Q : State → Prop} {D : va_G} {t : bx_T} {A : Nat → Prop} {h : Nat} {a : Nat → Nat} {Z : va_W} (E : bx_E p m c cX5_frame 4 s args wsX5_frame RX5 D t A) (hin : ∀ w ∈ wsX50, w ∈ wsX5_frame) (S : md_S) (p0 p1 : Int32) (kk : ∀ (H : Heap) (locs : List Loc) (ls : Array Slot), bx_M D A s (md_w t.1 h a (md_a S 8 (fl (S.1 8) 12 (-1))) ++ Z) H locs → lv_has ls 4 [(3, .int (nI 12)), (0, .ref h), (1, .int p0), (2, .int p1)] → W p l e R s m args below meth c H locs cells slots Q (F0 m 49 ls [])) : ∀ (k i : Nat) (H : Heap) (locs : List Loc) (ls : Array Slot), i + k = 12 → bx_M D A s (md_w t.1 h a (md_a S 8 (fl (S.1 8) i (-1))) ++ Z) H locs → lv_has ls 4 [(3, .int (nI i)), (0, .ref h), (1, .int p0), (2, .int p1)] → W p l e R s m args below meth c H locs cells slots Q (F0 m 30 ls []) := by
  have hx := E.1.1
  have hb := E.1.2.1
  intro k
  induction k with
  | zero =>
    intro i H locs ls hi hM hl
    have hi : i = 12 := by omega
    subst hi
    have hlt : ¬ nI 12 < 12 := nI_nltl (n := 12) rfl (Nat.le_refl _) (by decide)
    refine lv_iload_n hx hb dX5_frame_30 rfl (lv_at hl 0 rfl) ?_
    refine lv_bipush (v := 12) hx hb dX5_frame_31 (by decide) ?_
    refine lv_icmp_ge (tgt := 49) hx hb dX5_frame_33 (by decide) (fun _ => ?_) (fun c => absurd (Int32.not_le.mp c) hlt)
    exact kk H locs ls hM hl
  | succ k ih =>
    intro i H locs ls hi hM hl
    have hlt : nI i < 12 := nI_ltl (n := 12) rfl (by omega) (by decide)
    refine lv_iload_n hx hb dX5_frame_30 rfl (lv_at hl 0 rfl) ?_
    refine lv_bipush (v := 12) hx hb dX5_frame_31 (by decide) ?_
    refine lv_icmp_ge (tgt := 49) hx hb dX5_frame_33 (by decide) (fun c => absurd hlt (Int32.not_lt.mpr c)) (fun _ => ?_)
    refine lv_aload_n hx hb dX5_frame_36 rfl (lv_at hl 1 rfl) ?_
    refine md_get E hin hM 10 (by decide) (by decide +kernel) rfl dX5_frame_37 ?_
    refine lv_iload_n hx hb dX5_frame_40 rfl (lv_at hl 0 rfl) ?_
    refine lv_iconst (v := (-1)) hx hb dX5_frame_41 (by decide) ?_
    refine md_ast E hM 8 (by decide) (vp_in_nI (show i < 12 by omega) (by decide)) dX5_frame_42 (fun H locs hM => ?_)
    have hM : bx_M D A s (md_w t.1 h a (md_ai (md_a S 8 (fl (S.1 8) i (-1))) 8 (nI i).toNatClampNeg (-1)) ++ Z) H locs := hM
    refine lv_iinc (v := nI i + 1) (lv' := [(3, .int (nI i + 1)), (0, .ref h), (1, .int p0), (2, .int p1)]) hx hb dX5_frame_43 hl (k := 0) rfl rfl (by decide) rfl (fun ls hl => ?_)
    refine lv_goto (tgt := 30) hx hb dX5_frame_46 (by decide) ?_
    rw [nI_clamp (by omega), md_flS] at hM
    rw [nI_1] at hl
    exact ih (i + 1) H locs ls (by omega) hM hl

set_option maxHeartbeats 4000000 in
set_option maxRecDepth 100000 in
theorem cX5c_frame (l : Launch) (D : va_G) (t : bx_T) (A : Nat → Prop) (h : Nat) (a : Nat → Nat) (S : md_S) (Z : va_W) (p0 p1 : Int32) (hz : p1 = 1 ∨ p1 = 0) : bx_Ci l yX5_frame wsX5_frame ({ frames := 1, cells := 0, slots := 0, locals := 21 }) D t A [.ref h, .int p0, .int p1] (md_w t.1 h a S ++ Z) (fun (r : Int32) (u : md_S) => r = (mf_frame S p0 p1).1 ∧ u = (mf_frame S p0 p1).2) (fun u => md_w t.1 h a u ++ Z) 0 0 := by
  refine bx_enter (cc := cX5_frame) (maxL := 4) (ret := some .int) (by decide) rfl (Nat.le_of_ble_eq_true rfl) ?_
  intro p e s m below meth c ls E hr hlk hnm hM hl
  have hl : lv_has ls 4 [(0, .ref h), (1, .int p0), (2, .int p1)] := hl
  have hx := E.1.1
  have hb := E.1.2.1
  have hin : ∀ w ∈ wsX50, w ∈ wsX5_frame := by decide +kernel
  refine lv_iload_n hx hb dX5_frame_0 rfl (lv_at hl 1 rfl) ?_
  refine lv_bipush (v := 12) hx hb dX5_frame_1 (by decide) ?_
  refine lv_icmp_le (tgt := 8) hx hb dX5_frame_3 (by decide) (fun c_3 => ?_) (fun c_3 => ?_)
  · have c_3 := Int32.not_lt.mpr c_3
    refine lv_iload_n hx hb dX5_frame_8 rfl (lv_at hl 1 rfl) ?_
    refine lv_if_ge (tgt := 18) hx hb dX5_frame_9 (by decide) (fun c_9 => ?_) (fun c_9 => ?_)
    · have c_9 := Int32.not_lt.mpr c_9
      refine lv_aload_n hx hb dX5_frame_18 rfl (lv_at hl 0 rfl) ?_
      refine lv_iload_n hx hb dX5_frame_19 rfl (lv_at hl 1 rfl) ?_
      refine md_put (S' := md_s S 0 p0) E hin hM 8 (by decide) (by decide +kernel) rfl rfl rfl rfl dX5_frame_20 (fun H locs hM => ?_)
      have hM : bx_M D A s (md_w t.1 h a (md_s S 0 p0) ++ Z) H locs := hM
      refine lv_aload_n hx hb dX5_frame_23 rfl (lv_at hl 0 rfl) ?_
      refine lv_iload_n hx hb dX5_frame_24 rfl (lv_at hl 2 rfl) ?_
      refine md_put (S' := md_s (md_s S 0 p0) 1 p1) E hin hM 9 (by decide) (by decide +kernel) rfl (by rcases hz with rfl | rfl <;> rfl) (by rcases hz with rfl | rfl <;> rfl) rfl dX5_frame_25 (fun H locs hM => ?_)
      have hM : bx_M D A s (md_w t.1 h a (md_s (md_s S 0 p0) 1 p1) ++ Z) H locs := hM
      refine lv_iconst (v := 0) hx hb dX5_frame_28 (by decide) ?_
      refine lv_istore_n (lv' := [(3, .int 0), (0, .ref h), (1, .int p0), (2, .int p1)]) hx hb dX5_frame_29 rfl hl (by decide) rfl (fun ls hl => ?_)
      have hM : bx_M D A s (md_w t.1 h a (md_a (md_s (md_s S 0 p0) 1 p1) 8 (fl ((md_s (md_s S 0 p0) 1 p1).1 8) 0 (-1))) ++ Z) H locs := by rw [md_fl0]; exact hM
      refine lpX5_frame E hin (md_s (md_s S 0 p0) 1 p1) p0 p1 (fun H locs ls hM hl => ?_) 12 0 _ _ ls rfl hM (lv_sub hl [0, 1, 2, 3] rfl)
      have hM : bx_M D A s (md_w t.1 h a (md_a (md_s (md_s S 0 p0) 1 p1) 8 (fl ((md_s (md_s S 0 p0) 1 p1).1 8) 12 (-1))) ++ Z) H locs := hM
      refine lv_iload_n hx hb dX5_frame_49 rfl (lv_at hl 2 rfl) ?_
      exact bx_reti E hr hlk hM (md_a (md_s (md_s S 0 p0) 1 p1) 8 (fl ((md_s (md_s S 0 p0) 1 p1).1 8) 12 (-1))) rfl (by first | (simp [mf_frame, c_3, c_9]; done) | (simp [mf_frame, c_3, c_9]; rfl) | (simp [mf_frame, md_s, va_up, c_3, c_9]; done)) dX5_frame_50
    · have c_9 := Int32.not_le.mp c_9
      refine lv_aload_n hx hb dX5_frame_12 rfl (lv_at hl 0 rfl) ?_
      refine lv_iconst (v := 4) hx hb dX5_frame_13 (by decide) ?_
      refine bx_goi hM (bx_runV (As := [.int 4]) (rest := []) E hM (cX5c_no l D t A h a S Z 4 (vp_in_iff.mpr (by decide))) (md_recv E hM) 1 gX5_frame_X5_no rfl rfl rfl (by decide +kernel) ⟨Nat.le_of_ble_eq_true rfl, Nat.le_of_ble_eq_true rfl⟩ rfl hl.1 rfl (Nat.le_of_ble_eq_true rfl) dX5_frame_14 ⟨Nat.le_of_ble_eq_true rfl, Nat.le_of_ble_eq_true rfl⟩) (fun r u H locs hp hM => ?_)
      obtain ⟨rfl, rfl⟩ := hp
      have hM : bx_M D A s (md_w t.1 h a (mf_no S 4) ++ Z) H locs := hM
      exact bx_reti E hr hlk hM (mf_no S 4) rfl (by first | (simp [mf_frame, c_3, c_9]; done) | (simp [mf_frame, c_3, c_9]; rfl) | (simp [mf_frame, md_s, va_up, c_3, c_9]; done)) dX5_frame_17
  · have c_3 := Int32.not_le.mp c_3
    refine lv_iconst (v := (-1)) hx hb dX5_frame_6 (by decide) ?_
    exact bx_reti E hr hlk hM S rfl (by first | (simp [mf_frame, c_3]; done) | (simp [mf_frame, c_3]; rfl) | (simp [mf_frame, md_s, va_up, c_3]; done)) dX5_frame_7

set_option maxHeartbeats 4000000 in
set_option maxRecDepth 100000 in
theorem lpX5_change {p : Program} {l : Launch} {e : Env} {R : Room} {s : State} {m : MethodId} {args : Array Value} {below : List Frame} {meth : Method} {c : Code} {cells slots : Nat} {Q : State → Prop} {D : va_G} {t : bx_T} {A : Nat → Prop} {h : Nat} {a : Nat → Nat} {Z : va_W} (E : bx_E p m c cX5_change 3 s args wsX5_change RX5 D t A) (hin : ∀ w ∈ wsX50, w ∈ wsX5_change) (S : md_S) (p0 : Int32) (kk : ∀ (H : Heap) (locs : List Loc) (ls : Array Slot), bx_M D A s (md_w t.1 h a (md_a S 9 (fl (S.1 9) 12 0)) ++ Z) H locs → lv_has ls 3 [(2, .int (nI 12)), (0, .ref h), (1, .int p0)] → W p l e R s m args below meth c H locs cells slots Q (F0 m 44 ls [])) : ∀ (k i : Nat) (H : Heap) (locs : List Loc) (ls : Array Slot), i + k = 12 → bx_M D A s (md_w t.1 h a (md_a S 9 (fl (S.1 9) i 0)) ++ Z) H locs → lv_has ls 3 [(2, .int (nI i)), (0, .ref h), (1, .int p0)] → W p l e R s m args below meth c H locs cells slots Q (F0 m 25 ls []) := by
  have hx := E.1.1
  have hb := E.1.2.1
  intro k
  induction k with
  | zero =>
    intro i H locs ls hi hM hl
    have hi : i = 12 := by omega
    subst hi
    have hlt : ¬ nI 12 < 12 := nI_nltl (n := 12) rfl (Nat.le_refl _) (by decide)
    refine lv_iload_n hx hb dX5_change_25 rfl (lv_at hl 0 rfl) ?_
    refine lv_bipush (v := 12) hx hb dX5_change_26 (by decide) ?_
    refine lv_icmp_ge (tgt := 44) hx hb dX5_change_28 (by decide) (fun _ => ?_) (fun c => absurd (Int32.not_le.mp c) hlt)
    exact kk H locs ls hM hl
  | succ k ih =>
    intro i H locs ls hi hM hl
    have hlt : nI i < 12 := nI_ltl (n := 12) rfl (by omega) (by decide)
    refine lv_iload_n hx hb dX5_change_25 rfl (lv_at hl 0 rfl) ?_
    refine lv_bipush (v := 12) hx hb dX5_change_26 (by decide) ?_
    refine lv_icmp_ge (tgt := 44) hx hb dX5_change_28 (by decide) (fun c => absurd hlt (Int32.not_lt.mpr c)) (fun _ => ?_)
    refine lv_aload_n hx hb dX5_change_31 rfl (lv_at hl 1 rfl) ?_
    refine md_get E hin hM 12 (by decide) (by decide +kernel) rfl dX5_change_32 ?_
    refine lv_iload_n hx hb dX5_change_35 rfl (lv_at hl 0 rfl) ?_
    refine lv_iconst (v := 0) hx hb dX5_change_36 (by decide) ?_
    refine md_ast E hM 9 (by decide) (vp_in_nI (show i < 12 by omega) (by decide)) dX5_change_37 (fun H locs hM => ?_)
    have hM : bx_M D A s (md_w t.1 h a (md_ai (md_a S 9 (fl (S.1 9) i 0)) 9 (nI i).toNatClampNeg 0) ++ Z) H locs := hM
    refine lv_iinc (v := nI i + 1) (lv' := [(2, .int (nI i + 1)), (0, .ref h), (1, .int p0)]) hx hb dX5_change_38 hl (k := 0) rfl rfl (by decide) rfl (fun ls hl => ?_)
    refine lv_goto (tgt := 25) hx hb dX5_change_41 (by decide) ?_
    rw [nI_clamp (by omega), md_flS] at hM
    rw [nI_1] at hl
    exact ih (i + 1) H locs ls (by omega) hM hl

set_option maxHeartbeats 4000000 in
set_option maxRecDepth 100000 in
theorem cX5c_change (l : Launch) (D : va_G) (t : bx_T) (A : Nat → Prop) (h : Nat) (a : Nat → Nat) (S : md_S) (Z : va_W) (p0 : Int32) : bx_Ci l yX5_change wsX5_change ({ frames := 1, cells := 0, slots := 0, locals := 21 }) D t A [.ref h, .int p0] (md_w t.1 h a S ++ Z) (fun (r : Int32) (u : md_S) => r = (mf_change S p0).1 ∧ u = (mf_change S p0).2) (fun u => md_w t.1 h a u ++ Z) 0 0 := by
  refine bx_enter (cc := cX5_change) (maxL := 3) (ret := some .int) (by decide) rfl (Nat.le_of_ble_eq_true rfl) ?_
  intro p e s m below meth c ls E hr hlk hnm hM hl
  have hl : lv_has ls 3 [(0, .ref h), (1, .int p0)] := hl
  have hx := E.1.1
  have hb := E.1.2.1
  have hin : ∀ w ∈ wsX50, w ∈ wsX5_change := by decide +kernel
  refine lv_iload_n hx hb dX5_change_0 rfl (lv_at hl 1 rfl) ?_
  refine lv_bipush (v := 12) hx hb dX5_change_1 (by decide) ?_
  refine lv_icmp_le (tgt := 8) hx hb dX5_change_3 (by decide) (fun c_3 => ?_) (fun c_3 => ?_)
  · have c_3 := Int32.not_lt.mpr c_3
    refine lv_iload_n hx hb dX5_change_8 rfl (lv_at hl 1 rfl) ?_
    refine lv_if_ge (tgt := 18) hx hb dX5_change_9 (by decide) (fun c_9 => ?_) (fun c_9 => ?_)
    · have c_9 := Int32.not_lt.mpr c_9
      refine lv_aload_n hx hb dX5_change_18 rfl (lv_at hl 0 rfl) ?_
      refine lv_iload_n hx hb dX5_change_19 rfl (lv_at hl 1 rfl) ?_
      refine md_put (S' := md_s S 2 p0) E hin hM 11 (by decide) (by decide +kernel) rfl rfl rfl rfl dX5_change_20 (fun H locs hM => ?_)
      have hM : bx_M D A s (md_w t.1 h a (md_s S 2 p0) ++ Z) H locs := hM
      refine lv_iconst (v := 0) hx hb dX5_change_23 (by decide) ?_
      refine lv_istore_n (lv' := [(2, .int 0), (0, .ref h), (1, .int p0)]) hx hb dX5_change_24 rfl hl (by decide) rfl (fun ls hl => ?_)
      have hM : bx_M D A s (md_w t.1 h a (md_a (md_s S 2 p0) 9 (fl ((md_s S 2 p0).1 9) 0 0)) ++ Z) H locs := by rw [md_fl0]; exact hM
      refine lpX5_change E hin (md_s S 2 p0) p0 (fun H locs ls hM hl => ?_) 12 0 _ _ ls rfl hM (lv_sub hl [0, 1, 2] rfl)
      have hM : bx_M D A s (md_w t.1 h a (md_a (md_s S 2 p0) 9 (fl ((md_s S 2 p0).1 9) 12 0)) ++ Z) H locs := hM
      refine lv_iload_n hx hb dX5_change_44 rfl (lv_at hl 2 rfl) ?_
      exact bx_reti E hr hlk hM (md_a (md_s S 2 p0) 9 (fl ((md_s S 2 p0).1 9) 12 0)) rfl (by first | (simp [mf_change, c_3, c_9]; done) | (simp [mf_change, c_3, c_9]; rfl) | (simp [mf_change, md_s, va_up, c_3, c_9]; done)) dX5_change_45
    · have c_9 := Int32.not_le.mp c_9
      refine lv_aload_n hx hb dX5_change_12 rfl (lv_at hl 0 rfl) ?_
      refine lv_iconst (v := 4) hx hb dX5_change_13 (by decide) ?_
      refine bx_goi hM (bx_runV (As := [.int 4]) (rest := []) E hM (cX5c_no l D t A h a S Z 4 (vp_in_iff.mpr (by decide))) (md_recv E hM) 1 gX5_change_X5_no rfl rfl rfl (by decide +kernel) ⟨Nat.le_of_ble_eq_true rfl, Nat.le_of_ble_eq_true rfl⟩ rfl hl.1 rfl (Nat.le_of_ble_eq_true rfl) dX5_change_14 ⟨Nat.le_of_ble_eq_true rfl, Nat.le_of_ble_eq_true rfl⟩) (fun r u H locs hp hM => ?_)
      obtain ⟨rfl, rfl⟩ := hp
      have hM : bx_M D A s (md_w t.1 h a (mf_no S 4) ++ Z) H locs := hM
      exact bx_reti E hr hlk hM (mf_no S 4) rfl (by first | (simp [mf_change, c_3, c_9]; done) | (simp [mf_change, c_3, c_9]; rfl) | (simp [mf_change, md_s, va_up, c_3, c_9]; done)) dX5_change_17
  · have c_3 := Int32.not_le.mp c_3
    refine lv_iconst (v := (-1)) hx hb dX5_change_6 (by decide) ?_
    exact bx_reti E hr hlk hM S rfl (by first | (simp [mf_change, c_3]; done) | (simp [mf_change, c_3]; rfl) | (simp [mf_change, md_s, va_up, c_3]; done)) dX5_change_7

set_option maxHeartbeats 4000000 in
set_option maxRecDepth 100000 in
theorem lpX5_peal {p : Program} {l : Launch} {e : Env} {R : Room} {s : State} {m : MethodId} {args : Array Value} {below : List Frame} {meth : Method} {c : Code} {cells slots : Nat} {Q : State → Prop} {D : va_G} {t : bx_T} {A : Nat → Prop} {h : Nat} {a : Nat → Nat} {Z : va_W} (E : bx_E p m c cX5_peal 4 s args wsX5_peal RX5 D t A) (hin : ∀ w ∈ wsX50, w ∈ wsX5_peal) (S : md_S) (p0 p1 : Int32) (kk : ∀ (H : Heap) (locs : List Loc) (ls : Array Slot), bx_M D A s (md_w t.1 h a (md_a S 10 (fl (S.1 10) 144 0)) ++ Z) H locs → lv_has ls 4 [(3, .int (nI 144)), (0, .ref h), (1, .int p0), (2, .int p1)] → W p l e R s m args below meth c H locs cells slots Q (F0 m 60 ls [])) : ∀ (k i : Nat) (H : Heap) (locs : List Loc) (ls : Array Slot), i + k = 144 → bx_M D A s (md_w t.1 h a (md_a S 10 (fl (S.1 10) i 0)) ++ Z) H locs → lv_has ls 4 [(3, .int (nI i)), (0, .ref h), (1, .int p0), (2, .int p1)] → W p l e R s m args below meth c H locs cells slots Q (F0 m 40 ls []) := by
  have hx := E.1.1
  have hb := E.1.2.1
  intro k
  induction k with
  | zero =>
    intro i H locs ls hi hM hl
    have hi : i = 144 := by omega
    subst hi
    have hlt : ¬ nI 144 < 144 := nI_nltl (n := 144) rfl (Nat.le_refl _) (by decide)
    refine lv_iload_n hx hb dX5_peal_40 rfl (lv_at hl 0 rfl) ?_
    refine lv_sipush (v := 144) hx hb dX5_peal_41 (by decide) ?_
    refine lv_icmp_ge (tgt := 60) hx hb dX5_peal_44 (by decide) (fun _ => ?_) (fun c => absurd (Int32.not_le.mp c) hlt)
    exact kk H locs ls hM hl
  | succ k ih =>
    intro i H locs ls hi hM hl
    have hlt : nI i < 144 := nI_ltl (n := 144) rfl (by omega) (by decide)
    refine lv_iload_n hx hb dX5_peal_40 rfl (lv_at hl 0 rfl) ?_
    refine lv_sipush (v := 144) hx hb dX5_peal_41 (by decide) ?_
    refine lv_icmp_ge (tgt := 60) hx hb dX5_peal_44 (by decide) (fun c => absurd hlt (Int32.not_lt.mpr c)) (fun _ => ?_)
    refine lv_aload_n hx hb dX5_peal_47 rfl (lv_at hl 1 rfl) ?_
    refine md_get E hin hM 15 (by decide) (by decide +kernel) rfl dX5_peal_48 ?_
    refine lv_iload_n hx hb dX5_peal_51 rfl (lv_at hl 0 rfl) ?_
    refine lv_iconst (v := 0) hx hb dX5_peal_52 (by decide) ?_
    refine md_ast E hM 10 (by decide) (vp_in_nI (show i < 144 by omega) (by decide)) dX5_peal_53 (fun H locs hM => ?_)
    have hM : bx_M D A s (md_w t.1 h a (md_ai (md_a S 10 (fl (S.1 10) i 0)) 10 (nI i).toNatClampNeg 0) ++ Z) H locs := hM
    refine lv_iinc (v := nI i + 1) (lv' := [(3, .int (nI i + 1)), (0, .ref h), (1, .int p0), (2, .int p1)]) hx hb dX5_peal_54 hl (k := 0) rfl rfl (by decide) rfl (fun ls hl => ?_)
    refine lv_goto (tgt := 40) hx hb dX5_peal_57 (by decide) ?_
    rw [nI_clamp (by omega), md_flS] at hM
    rw [nI_1] at hl
    exact ih (i + 1) H locs ls (by omega) hM hl

set_option maxHeartbeats 4000000 in
set_option maxRecDepth 100000 in
theorem cX5c_peal (l : Launch) (D : va_G) (t : bx_T) (A : Nat → Prop) (h : Nat) (a : Nat → Nat) (S : md_S) (Z : va_W) (p0 p1 : Int32) : bx_Ci l yX5_peal wsX5_peal ({ frames := 1, cells := 0, slots := 0, locals := 21 }) D t A [.ref h, .int p0, .int p1] (md_w t.1 h a S ++ Z) (fun (r : Int32) (u : md_S) => r = (mf_peal S p0 p1).1 ∧ u = (mf_peal S p0 p1).2) (fun u => md_w t.1 h a u ++ Z) 0 0 := by
  refine bx_enter (cc := cX5_peal) (maxL := 4) (ret := some .int) (by decide) rfl (Nat.le_of_ble_eq_true rfl) ?_
  intro p e s m below meth c ls E hr hlk hnm hM hl
  have hl : lv_has ls 4 [(0, .ref h), (1, .int p0), (2, .int p1)] := hl
  have hx := E.1.1
  have hb := E.1.2.1
  have hin : ∀ w ∈ wsX50, w ∈ wsX5_peal := by decide +kernel
  refine lv_iload_n hx hb dX5_peal_0 rfl (lv_at hl 1 rfl) ?_
  refine lv_bipush (v := 12) hx hb dX5_peal_1 (by decide) ?_
  refine lv_icmp_gt (tgt := 12) hx hb dX5_peal_3 (by decide) (fun c_3 => ?_) (fun c_3 => ?_)
  · refine lv_iconst (v := (-1)) hx hb dX5_peal_12 (by decide) ?_
    exact bx_reti E hr hlk hM S rfl (by first | (simp [mf_peal, c_3]; done) | (simp [mf_peal, c_3]; rfl) | (simp [mf_peal, md_s, va_up, c_3]; done)) dX5_peal_13
  · refine lv_iload_n hx hb dX5_peal_6 rfl (lv_at hl 2 rfl) ?_
    refine lv_bipush (v := 12) hx hb dX5_peal_7 (by decide) ?_
    refine lv_icmp_le (tgt := 14) hx hb dX5_peal_9 (by decide) (fun c_9 => ?_) (fun c_9 => ?_)
    · have c_9 := Int32.not_lt.mpr c_9
      refine lv_iload_n hx hb dX5_peal_14 rfl (lv_at hl 1 rfl) ?_
      refine lv_if_lt (tgt := 22) hx hb dX5_peal_15 (by decide) (fun c_15 => ?_) (fun c_15 => ?_)
      · refine lv_aload_n hx hb dX5_peal_22 rfl (lv_at hl 0 rfl) ?_
        refine lv_iconst (v := 4) hx hb dX5_peal_23 (by decide) ?_
        refine bx_goi hM (bx_runV (As := [.int 4]) (rest := []) E hM (cX5c_no l D t A h a S Z 4 (vp_in_iff.mpr (by decide))) (md_recv E hM) 1 gX5_peal_X5_no rfl rfl rfl (by decide +kernel) ⟨Nat.le_of_ble_eq_true rfl, Nat.le_of_ble_eq_true rfl⟩ rfl hl.1 rfl (Nat.le_of_ble_eq_true rfl) dX5_peal_24 ⟨Nat.le_of_ble_eq_true rfl, Nat.le_of_ble_eq_true rfl⟩) (fun r u H locs hp hM => ?_)
        obtain ⟨rfl, rfl⟩ := hp
        have hM : bx_M D A s (md_w t.1 h a (mf_no S 4) ++ Z) H locs := hM
        exact bx_reti E hr hlk hM (mf_no S 4) rfl (by first | (simp [mf_peal, c_3, c_9, c_15]; done) | (simp [mf_peal, c_3, c_9, c_15]; rfl) | (simp [mf_peal, md_s, va_up, c_3, c_9, c_15]; done)) dX5_peal_27
      · refine lv_iload_n hx hb dX5_peal_18 rfl (lv_at hl 2 rfl) ?_
        refine lv_if_ge (tgt := 28) hx hb dX5_peal_19 (by decide) (fun c_19 => ?_) (fun c_19 => ?_)
        · have c_19 := Int32.not_lt.mpr c_19
          refine lv_aload_n hx hb dX5_peal_28 rfl (lv_at hl 0 rfl) ?_
          refine lv_iload_n hx hb dX5_peal_29 rfl (lv_at hl 1 rfl) ?_
          refine md_put (S' := md_s S 3 p0) E hin hM 13 (by decide) (by decide +kernel) rfl rfl rfl rfl dX5_peal_30 (fun H locs hM => ?_)
          have hM : bx_M D A s (md_w t.1 h a (md_s S 3 p0) ++ Z) H locs := hM
          refine lv_aload_n hx hb dX5_peal_33 rfl (lv_at hl 0 rfl) ?_
          refine lv_iload_n hx hb dX5_peal_34 rfl (lv_at hl 2 rfl) ?_
          refine md_put (S' := md_s (md_s S 3 p0) 4 p1) E hin hM 14 (by decide) (by decide +kernel) rfl rfl rfl rfl dX5_peal_35 (fun H locs hM => ?_)
          have hM : bx_M D A s (md_w t.1 h a (md_s (md_s S 3 p0) 4 p1) ++ Z) H locs := hM
          refine lv_iconst (v := 0) hx hb dX5_peal_38 (by decide) ?_
          refine lv_istore_n (lv' := [(3, .int 0), (0, .ref h), (1, .int p0), (2, .int p1)]) hx hb dX5_peal_39 rfl hl (by decide) rfl (fun ls hl => ?_)
          have hM : bx_M D A s (md_w t.1 h a (md_a (md_s (md_s S 3 p0) 4 p1) 10 (fl ((md_s (md_s S 3 p0) 4 p1).1 10) 0 0)) ++ Z) H locs := by rw [md_fl0]; exact hM
          refine lpX5_peal E hin (md_s (md_s S 3 p0) 4 p1) p0 p1 (fun H locs ls hM hl => ?_) 144 0 _ _ ls rfl hM (lv_sub hl [0, 1, 2, 3] rfl)
          have hM : bx_M D A s (md_w t.1 h a (md_a (md_s (md_s S 3 p0) 4 p1) 10 (fl ((md_s (md_s S 3 p0) 4 p1).1 10) 144 0)) ++ Z) H locs := hM
          refine lv_iload_n hx hb dX5_peal_60 rfl (lv_at hl 2 rfl) ?_
          refine lv_iload_n hx hb dX5_peal_61 rfl (lv_at hl 3 rfl) ?_
          refine lv_imul hx hb dX5_peal_62 ?_
          exact bx_reti E hr hlk hM (md_a (md_s (md_s S 3 p0) 4 p1) 10 (fl ((md_s (md_s S 3 p0) 4 p1).1 10) 144 0)) rfl (by first | (simp [mf_peal, c_3, c_9, c_15, c_19]; done) | (simp [mf_peal, c_3, c_9, c_15, c_19]; rfl) | (simp [mf_peal, md_s, va_up, c_3, c_9, c_15, c_19]; done)) dX5_peal_63
        · have c_19 := Int32.not_le.mp c_19
          refine lv_aload_n hx hb dX5_peal_22 rfl (lv_at hl 0 rfl) ?_
          refine lv_iconst (v := 4) hx hb dX5_peal_23 (by decide) ?_
          refine bx_goi hM (bx_runV (As := [.int 4]) (rest := []) E hM (cX5c_no l D t A h a S Z 4 (vp_in_iff.mpr (by decide))) (md_recv E hM) 1 gX5_peal_X5_no rfl rfl rfl (by decide +kernel) ⟨Nat.le_of_ble_eq_true rfl, Nat.le_of_ble_eq_true rfl⟩ rfl hl.1 rfl (Nat.le_of_ble_eq_true rfl) dX5_peal_24 ⟨Nat.le_of_ble_eq_true rfl, Nat.le_of_ble_eq_true rfl⟩) (fun r u H locs hp hM => ?_)
          obtain ⟨rfl, rfl⟩ := hp
          have hM : bx_M D A s (md_w t.1 h a (mf_no S 4) ++ Z) H locs := hM
          exact bx_reti E hr hlk hM (mf_no S 4) rfl (by first | (simp [mf_peal, c_3, c_9, c_15, c_19]; done) | (simp [mf_peal, c_3, c_9, c_15, c_19]; rfl) | (simp [mf_peal, md_s, va_up, c_3, c_9, c_15, c_19]; done)) dX5_peal_27
    · have c_9 := Int32.not_le.mp c_9
      refine lv_iconst (v := (-1)) hx hb dX5_peal_12 (by decide) ?_
      exact bx_reti E hr hlk hM S rfl (by first | (simp [mf_peal, c_3, c_9]; done) | (simp [mf_peal, c_3, c_9]; rfl) | (simp [mf_peal, md_s, va_up, c_3, c_9]; done)) dX5_peal_13

theorem held_up {f : Nat → Int32} {i : Nat} {x : Int32} (h : ∃ j : Nat, j < i ∧ f j = x) : ∃ j : Nat, j < i + 1 ∧ f j = x := by
  obtain ⟨j, h1, h2⟩ := h
  exact ⟨j, by omega, h2⟩
theorem nheld_up {f : Nat → Int32} {i : Nat} {x : Int32} (h : ∀ j : Nat, j < i → ¬ f j = x) (hi : ¬ f i = x) : ∀ j : Nat, j < i + 1 → ¬ f j = x := by
  intro j hj
  rcases Nat.lt_or_ge j i with q | q
  · exact h j q
  · rw [show j = i by omega]; exact hi

set_option maxHeartbeats 4000000 in
set_option maxRecDepth 100000 in
theorem lpX5_isHeld1 {p : Program} {l : Launch} {e : Env} {R : Room} {s : State} {m : MethodId} {args : Array Value} {below : List Frame} {meth : Method} {c : Code} {cells slots : Nat} {Q : State → Prop} {D : va_G} {t : bx_T} {A : Nat → Prop} {h : Nat} {a : Nat → Nat} {Z : va_W} (E : bx_E p m c cX5_isHeld 4 s args wsX5_isHeld RX5 D t A) (hin : ∀ w ∈ wsX50, w ∈ wsX5_isHeld) (S : md_S) (x : Int32) (kk : ∀ (z : Int32) (H : Heap) (locs : List Loc) (ls : Array Slot), ((z = 1 ∧ ∃ j : Nat, j < 10 ∧ S.1 7 j = x) ∨ (z = 0 ∧ ∀ j : Nat, j < 10 → ¬ S.1 7 j = x)) → bx_M D A s (md_w t.1 h a S ++ Z) H locs → lv_has ls 4 [(3, .int (nI 10)), (2, .int z), (0, .ref h), (1, .int x)] → W p l e R s m args below meth c H locs cells slots Q (F0 m 36 ls [])) : ∀ (k i : Nat) (z : Int32) (H : Heap) (locs : List Loc) (ls : Array Slot), i + k = 10 → ((z = 1 ∧ ∃ j : Nat, j < i ∧ S.1 7 j = x) ∨ (z = 0 ∧ ∀ j : Nat, j < i → ¬ S.1 7 j = x)) → bx_M D A s (md_w t.1 h a S ++ Z) H locs → lv_has ls 4 [(3, .int (nI i)), (2, .int z), (0, .ref h), (1, .int x)] → W p l e R s m args below meth c H locs cells slots Q (F0 m 4 ls []) := by
  have hx := E.1.1
  have hb := E.1.2.1
  intro k
  induction k with
  | zero =>
    intro i z H locs ls hi hz hM hl
    have hi : i = 10 := by omega
    subst hi
    have hlt : ¬ nI 10 < 10 := nI_nltl (n := 10) rfl (Nat.le_refl _) (by decide)
    refine lv_iload_n hx hb dX5_isHeld_4 rfl (lv_at hl 0 rfl) ?_
    refine lv_bipush (v := 10) hx hb dX5_isHeld_5 (by decide) ?_
    refine lv_icmp_ge (tgt := 36) hx hb dX5_isHeld_7 (by decide) (fun _ => ?_) (fun c => absurd (Int32.not_le.mp c) hlt)
    exact kk z H locs ls hz hM hl
  | succ k ih =>
    intro i z H locs ls hi hz hM hl
    have hlt : nI i < 10 := nI_ltl (n := 10) rfl (by omega) (by decide)
    rcases hz with ⟨rfl, hz⟩ | ⟨rfl, hz⟩
    · have hlt := hlt
      refine lv_iload_n hx hb dX5_isHeld_4 rfl (lv_at hl 0 rfl) ?_
      refine lv_bipush (v := 10) hx hb dX5_isHeld_5 (by decide) ?_
      refine lv_icmp_ge (tgt := 36) hx hb dX5_isHeld_7 (by decide) (fun c => absurd hlt (Int32.not_lt.mpr c)) (fun _ => ?_)
      refine lv_iload_n hx hb dX5_isHeld_10 rfl (lv_at hl 1 rfl) ?_
      refine lv_if_ne (tgt := 24) hx hb dX5_isHeld_11 (by decide) (fun _ => ?_) (fun c => absurd c (by decide))
      refine lv_iconst (v := 1) hx hb dX5_isHeld_24 (by decide) ?_
      refine lv_goto (tgt := 29) hx hb dX5_isHeld_25 (by decide) ?_
      refine lv_istore_n (lv' := [(2, .int 1), (3, .int (nI i)), (0, .ref h), (1, .int x)]) hx hb dX5_isHeld_29 rfl hl (by decide) rfl (fun ls hl => ?_)
      refine lv_iinc (v := nI i + 1) (lv' := [(3, .int (nI i + 1)), (2, .int 1), (0, .ref h), (1, .int x)]) hx hb dX5_isHeld_30 hl (k := 1) rfl rfl (by decide) rfl (fun ls hl => ?_)
      refine lv_goto (tgt := 4) hx hb dX5_isHeld_33 (by decide) ?_
      rw [nI_1] at hl
      exact ih (i + 1) 1 H locs ls (by omega) (Or.inl ⟨rfl, held_up hz⟩) hM (lv_sub hl [0, 1, 2, 3] rfl)
    · have hlt := hlt
      refine lv_iload_n hx hb dX5_isHeld_4 rfl (lv_at hl 0 rfl) ?_
      refine lv_bipush (v := 10) hx hb dX5_isHeld_5 (by decide) ?_
      refine lv_icmp_ge (tgt := 36) hx hb dX5_isHeld_7 (by decide) (fun c => absurd hlt (Int32.not_lt.mpr c)) (fun _ => ?_)
      refine lv_iload_n hx hb dX5_isHeld_10 rfl (lv_at hl 1 rfl) ?_
      refine lv_if_ne (tgt := 24) hx hb dX5_isHeld_11 (by decide) (fun c => absurd c (by decide)) (fun _ => ?_)
      refine lv_aload_n hx hb dX5_isHeld_14 rfl (lv_at hl 2 rfl) ?_
      refine md_get E hin hM 7 (by decide) (by decide +kernel) rfl dX5_isHeld_15 ?_
      refine lv_iload_n hx hb dX5_isHeld_18 rfl (lv_at hl 0 rfl) ?_
      refine md_ald E hM 7 (by decide) (vp_in_nI (show i < 10 by omega) (by decide)) dX5_isHeld_19 ?_
      refine lv_iload_n hx hb dX5_isHeld_20 rfl (lv_at hl 3 rfl) ?_
      refine lv_icmp_ne (tgt := 28) hx hb dX5_isHeld_21 (by decide) (fun c_21 => ?_) (fun c_21 => ?_)
      · refine lv_iconst (v := 0) hx hb dX5_isHeld_28 (by decide) ?_
        refine lv_istore_n (lv' := [(2, .int 0), (3, .int (nI i)), (0, .ref h), (1, .int x)]) hx hb dX5_isHeld_29 rfl hl (by decide) rfl (fun ls hl => ?_)
        refine lv_iinc (v := nI i + 1) (lv' := [(3, .int (nI i + 1)), (2, .int 0), (0, .ref h), (1, .int x)]) hx hb dX5_isHeld_30 hl (k := 1) rfl rfl (by decide) rfl (fun ls hl => ?_)
        refine lv_goto (tgt := 4) hx hb dX5_isHeld_33 (by decide) ?_
        rw [nI_1] at hl
        rw [nI_clamp (by omega)] at c_21
        exact ih (i + 1) 0 H locs ls (by omega) (Or.inr ⟨rfl, nheld_up hz c_21⟩) hM (lv_sub hl [0, 1, 2, 3] rfl)
      · refine lv_iconst (v := 1) hx hb dX5_isHeld_24 (by decide) ?_
        refine lv_goto (tgt := 29) hx hb dX5_isHeld_25 (by decide) ?_
        refine lv_istore_n (lv' := [(2, .int 1), (3, .int (nI i)), (0, .ref h), (1, .int x)]) hx hb dX5_isHeld_29 rfl hl (by decide) rfl (fun ls hl => ?_)
        refine lv_iinc (v := nI i + 1) (lv' := [(3, .int (nI i + 1)), (2, .int 1), (0, .ref h), (1, .int x)]) hx hb dX5_isHeld_30 hl (k := 1) rfl rfl (by decide) rfl (fun ls hl => ?_)
        refine lv_goto (tgt := 4) hx hb dX5_isHeld_33 (by decide) ?_
        rw [nI_1] at hl
        rw [nI_clamp (by omega)] at c_21
        exact ih (i + 1) 1 H locs ls (by omega) (Or.inl ⟨rfl, i, by omega, c_21⟩) hM (lv_sub hl [0, 1, 2, 3] rfl)

set_option maxHeartbeats 4000000 in
set_option maxRecDepth 100000 in
theorem lpX5_isHeld2 {p : Program} {l : Launch} {e : Env} {R : Room} {s : State} {m : MethodId} {args : Array Value} {below : List Frame} {meth : Method} {c : Code} {cells slots : Nat} {Q : State → Prop} {D : va_G} {t : bx_T} {A : Nat → Prop} {h : Nat} {a : Nat → Nat} {Z : va_W} (E : bx_E p m c cX5_isHeld 4 s args wsX5_isHeld RX5 D t A) (hin : ∀ w ∈ wsX50, w ∈ wsX5_isHeld) (S : md_S) (hf : md_ln (S.2 0)) (x : Int32) (Pq : Prop) (kk : ∀ (z : Int32) (H : Heap) (locs : List Loc) (ls : Array Slot), ((z = 1 ∧ (Pq ∨ ∃ j : Nat, j < (S.2 0).toNatClampNeg ∧ S.1 8 j = x)) ∨ (z = 0 ∧ ¬ Pq ∧ ∀ j : Nat, j < (S.2 0).toNatClampNeg → ¬ S.1 8 j = x)) → bx_M D A s (md_w t.1 h a S ++ Z) H locs → lv_has ls 4 [(3, .int (nI (S.2 0).toNatClampNeg)), (2, .int z), (0, .ref h), (1, .int x)] → W p l e R s m args below meth c H locs cells slots Q (F0 m 72 ls [])) : ∀ (k i : Nat) (z : Int32) (H : Heap) (locs : List Loc) (ls : Array Slot), i + k = (S.2 0).toNatClampNeg → ((z = 1 ∧ (Pq ∨ ∃ j : Nat, j < i ∧ S.1 8 j = x)) ∨ (z = 0 ∧ ¬ Pq ∧ ∀ j : Nat, j < i → ¬ S.1 8 j = x)) → bx_M D A s (md_w t.1 h a S ++ Z) H locs → lv_has ls 4 [(3, .int (nI i)), (2, .int z), (0, .ref h), (1, .int x)] → W p l e R s m args below meth c H locs cells slots Q (F0 m 38 ls []) := by
  have hx := E.1.1
  have hb := E.1.2.1
  obtain ⟨hf1, hf2, hf3⟩ := md_fr hf
  intro k
  induction k with
  | zero =>
    intro i z H locs ls hi hz hM hl
    have hi : i = (S.2 0).toNatClampNeg := by omega
    subst hi
    refine lv_iload_n hx hb dX5_isHeld_38 rfl (lv_at hl 0 rfl) ?_
    refine lv_aload_n hx hb dX5_isHeld_39 rfl (lv_at hl 2 rfl) ?_
    refine md_get E hin hM 8 (by decide) (by decide +kernel) rfl dX5_isHeld_40 ?_
    refine lv_icmp_ge (tgt := 72) hx hb dX5_isHeld_43 (by decide) (fun _ => ?_) (fun c => absurd (Int32.not_le.mp c) hf2)
    exact kk z H locs ls hz hM hl
  | succ k ih =>
    intro i z H locs ls hi hz hM hl
    have hlt : nI i < S.2 0 := hf1 i (by omega)
    rcases hz with ⟨rfl, hz⟩ | ⟨rfl, hz⟩
    · have hlt := hlt
      refine lv_iload_n hx hb dX5_isHeld_38 rfl (lv_at hl 0 rfl) ?_
      refine lv_aload_n hx hb dX5_isHeld_39 rfl (lv_at hl 2 rfl) ?_
      refine md_get E hin hM 8 (by decide) (by decide +kernel) rfl dX5_isHeld_40 ?_
      refine lv_icmp_ge (tgt := 72) hx hb dX5_isHeld_43 (by decide) (fun c => absurd hlt (Int32.not_lt.mpr c)) (fun _ => ?_)
      refine lv_iload_n hx hb dX5_isHeld_46 rfl (lv_at hl 1 rfl) ?_
      refine lv_if_ne (tgt := 60) hx hb dX5_isHeld_47 (by decide) (fun _ => ?_) (fun c => absurd c (by decide))
      refine lv_iconst (v := 1) hx hb dX5_isHeld_60 (by decide) ?_
      refine lv_goto (tgt := 65) hx hb dX5_isHeld_61 (by decide) ?_
      refine lv_istore_n (lv' := [(2, .int 1), (3, .int (nI i)), (0, .ref h), (1, .int x)]) hx hb dX5_isHeld_65 rfl hl (by decide) rfl (fun ls hl => ?_)
      refine lv_iinc (v := nI i + 1) (lv' := [(3, .int (nI i + 1)), (2, .int 1), (0, .ref h), (1, .int x)]) hx hb dX5_isHeld_66 hl (k := 1) rfl rfl (by decide) rfl (fun ls hl => ?_)
      refine lv_goto (tgt := 38) hx hb dX5_isHeld_69 (by decide) ?_
      rw [nI_1] at hl
      exact ih (i + 1) 1 H locs ls (by omega) (Or.inl ⟨rfl, hz.imp id held_up⟩) hM (lv_sub hl [0, 1, 2, 3] rfl)
    · have hlt := hlt
      refine lv_iload_n hx hb dX5_isHeld_38 rfl (lv_at hl 0 rfl) ?_
      refine lv_aload_n hx hb dX5_isHeld_39 rfl (lv_at hl 2 rfl) ?_
      refine md_get E hin hM 8 (by decide) (by decide +kernel) rfl dX5_isHeld_40 ?_
      refine lv_icmp_ge (tgt := 72) hx hb dX5_isHeld_43 (by decide) (fun c => absurd hlt (Int32.not_lt.mpr c)) (fun _ => ?_)
      refine lv_iload_n hx hb dX5_isHeld_46 rfl (lv_at hl 1 rfl) ?_
      refine lv_if_ne (tgt := 60) hx hb dX5_isHeld_47 (by decide) (fun c => absurd c (by decide)) (fun _ => ?_)
      refine lv_aload_n hx hb dX5_isHeld_50 rfl (lv_at hl 2 rfl) ?_
      refine md_get E hin hM 10 (by decide) (by decide +kernel) rfl dX5_isHeld_51 ?_
      refine lv_iload_n hx hb dX5_isHeld_54 rfl (lv_at hl 0 rfl) ?_
      refine md_ald E hM 8 (by decide) (vp_in_nI (show i < 12 by omega) (by decide)) dX5_isHeld_55 ?_
      refine lv_iload_n hx hb dX5_isHeld_56 rfl (lv_at hl 3 rfl) ?_
      refine lv_icmp_ne (tgt := 64) hx hb dX5_isHeld_57 (by decide) (fun c_57 => ?_) (fun c_57 => ?_)
      · refine lv_iconst (v := 0) hx hb dX5_isHeld_64 (by decide) ?_
        refine lv_istore_n (lv' := [(2, .int 0), (3, .int (nI i)), (0, .ref h), (1, .int x)]) hx hb dX5_isHeld_65 rfl hl (by decide) rfl (fun ls hl => ?_)
        refine lv_iinc (v := nI i + 1) (lv' := [(3, .int (nI i + 1)), (2, .int 0), (0, .ref h), (1, .int x)]) hx hb dX5_isHeld_66 hl (k := 1) rfl rfl (by decide) rfl (fun ls hl => ?_)
        refine lv_goto (tgt := 38) hx hb dX5_isHeld_69 (by decide) ?_
        rw [nI_1] at hl
        rw [nI_clamp (by omega)] at c_57
        exact ih (i + 1) 0 H locs ls (by omega) (Or.inr ⟨rfl, hz.1, nheld_up hz.2 c_57⟩) hM (lv_sub hl [0, 1, 2, 3] rfl)
      · refine lv_iconst (v := 1) hx hb dX5_isHeld_60 (by decide) ?_
        refine lv_goto (tgt := 65) hx hb dX5_isHeld_61 (by decide) ?_
        refine lv_istore_n (lv' := [(2, .int 1), (3, .int (nI i)), (0, .ref h), (1, .int x)]) hx hb dX5_isHeld_65 rfl hl (by decide) rfl (fun ls hl => ?_)
        refine lv_iinc (v := nI i + 1) (lv' := [(3, .int (nI i + 1)), (2, .int 1), (0, .ref h), (1, .int x)]) hx hb dX5_isHeld_66 hl (k := 1) rfl rfl (by decide) rfl (fun ls hl => ?_)
        refine lv_goto (tgt := 38) hx hb dX5_isHeld_69 (by decide) ?_
        rw [nI_1] at hl
        rw [nI_clamp (by omega)] at c_57
        exact ih (i + 1) 1 H locs ls (by omega) (Or.inl ⟨rfl, Or.inr ⟨i, by omega, c_57⟩⟩) hM (lv_sub hl [0, 1, 2, 3] rfl)

set_option maxHeartbeats 4000000 in
set_option maxRecDepth 100000 in
theorem cX5c_isHeld (l : Launch) (D : va_G) (t : bx_T) (A : Nat → Prop) (h : Nat) (a : Nat → Nat) (S : md_S) (Z : va_W) (p0 : Int32) (hf : md_ln (S.2 0)) : bx_Ci l yX5_isHeld wsX5_isHeld ({ frames := 0, cells := 0, slots := 0, locals := 0 }) D t A [.ref h, .int p0] (md_w t.1 h a S ++ Z) (fun (r : Int32) (_ : Unit) => (r = 1 ∧ md_held S p0) ∨ (r = 0 ∧ ¬ md_held S p0)) (fun _ => md_w t.1 h a S ++ Z) 0 0 := by
  refine bx_enter (cc := cX5_isHeld) (maxL := 4) (ret := some .boolean) (by decide) rfl (Nat.le_of_ble_eq_true rfl) ?_
  intro p e s m below meth c ls E hr hlk hnm hM hl
  have hl : lv_has ls 4 [(0, .ref h), (1, .int p0)] := hl
  have hx := E.1.1
  have hb := E.1.2.1
  have hin : ∀ w ∈ wsX50, w ∈ wsX5_isHeld := by decide +kernel
  refine lv_iconst (v := 0) hx hb dX5_isHeld_0 (by decide) ?_
  refine lv_istore_n (lv' := [(2, .int 0), (0, .ref h), (1, .int p0)]) hx hb dX5_isHeld_1 rfl hl (by decide) rfl (fun ls hl => ?_)
  refine lv_iconst (v := 0) hx hb dX5_isHeld_2 (by decide) ?_
  refine lv_istore_n (lv' := [(3, .int 0), (2, .int 0), (0, .ref h), (1, .int p0)]) hx hb dX5_isHeld_3 rfl hl (by decide) rfl (fun ls hl => ?_)
  refine lpX5_isHeld1 E hin S p0 (fun z H locs ls hz hM hl => ?_) 10 0 0 _ _ ls rfl (Or.inr ⟨rfl, fun j hj => absurd hj (Nat.not_lt_zero j)⟩) hM (lv_sub hl [0, 1, 2, 3] rfl)
  refine lv_iconst (v := 0) hx hb dX5_isHeld_36 (by decide) ?_
  refine lv_istore_n (lv' := [(3, .int 0), (2, .int z), (0, .ref h), (1, .int p0)]) hx hb dX5_isHeld_37 rfl hl (by decide) rfl (fun ls hl => ?_)
  refine lpX5_isHeld2 E hin S hf p0 (∃ j : Nat, j < 10 ∧ S.1 7 j = p0) (fun z H locs ls hz hM hl => ?_) (S.2 0).toNatClampNeg 0 z _ _ ls (Nat.zero_add _) (hz.imp (fun q => ⟨q.1, Or.inl q.2⟩) (fun q => ⟨q.1, fun g => g.elim fun j hj => q.2 j hj.1 hj.2, fun j hj => absurd hj (Nat.not_lt_zero j)⟩)) hM (lv_sub hl [0, 1, 2, 3] rfl)
  have hz1 : z = 1 ∨ z = 0 := hz.imp (fun q => q.1) (fun q => q.1)
  refine lv_iload_n hx hb dX5_isHeld_72 rfl (lv_at hl 1 rfl) ?_
  exact bx_retz E hr hlk hM () rfl (hz.imp (fun q => ⟨q.1, q.2⟩) (fun q => ⟨q.1, fun g => g.elim q.2.1 (fun g => g.elim fun j hj => q.2.2 j hj.1 hj.2)⟩)) (by first | exact Or.inl rfl | exact Or.inr rfl | assumption | (split <;> simp)) dX5_isHeld_73
