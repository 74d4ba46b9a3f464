theorem bl_q0 (B : bl_S) : bl_r B 1 (flq (bR B 1) 0) = B := by
  refine Prod.ext rfl (Prod.ext rfl (Prod.ext (funext fun j => ?_) rfl))
  show va_up (bR B) 1 (flq (bR B 1) 0) j = bR B j
  by_cases hj : j = 1
  · subst hj; rw [va_up_self]; funext q; simp [flq]
  · rw [va_up_ne _ _ hj]
theorem bl_qS (B : bl_S) (i : Nat) (f : Nat → Option Nat) : bl_ri (bl_r B 1 (flq f i)) 1 i none = bl_r B 1 (flq f (i + 1)) := by
  refine Prod.ext rfl (Prod.ext rfl (Prod.ext (funext fun j => ?_) rfl))
  show va_up (va_up (bR B) 1 (flq f i)) 1 (va_up (va_up (bR B) 1 (flq f i) 1) i none) j = va_up (bR B) 1 (flq f (i + 1)) j
  by_cases hj : j = 1
  · subst hj; rw [va_up_self, va_up_self, va_up_self]; funext q
    by_cases hq : q = i
    · subst hq; simp [va_up, flq]
    · have : (q < i + 1) ↔ (q < i) := by omega
      simp [va_up, flq, hq, this]
  · rw [va_up_ne _ _ hj, va_up_ne _ _ hj, va_up_ne _ _ hj]
theorem bl_l0 (B : bl_S) (k : Nat) (x : Int32) : bl_a B k (fl (B.1 k) 0 x) = B := by
  refine Prod.ext (funext fun j => ?_) rfl
  show va_up B.1 k (fl (B.1 k) 0 x) j = B.1 j
  by_cases hj : j = k
  · subst hj; rw [va_up_self]; funext q; simp [fl]
  · rw [va_up_ne _ _ hj]
theorem bl_lS (B : bl_S) (k i : Nat) (x : Int32) (f : Nat → Int32) : bl_ai (bl_a B k (fl f i x)) k i x = bl_a B k (fl f (i + 1) x) := by
  refine Prod.ext (funext fun j => ?_) rfl
  show va_up (va_up B.1 k (fl f i x)) k (upd (va_up B.1 k (fl f i x) k) i x) j = va_up B.1 k (fl f (i + 1) x) j
  by_cases hj : j = k
  · subst hj; rw [va_up_self, va_up_self, va_up_self]; funext q
    by_cases hq : q = i
    · subst hq; simp [upd, fl]
    · have : (q < i + 1) ↔ (q < i) := by omega
      simp [upd, fl, hq, this]
  · rw [va_up_ne _ _ hj, va_up_ne _ _ hj, va_up_ne _ _ hj]
theorem bl_lenN (k : Nat) : bl_len k ≤ 144 := by
  unfold bl_len
  split <;> decide

set_option maxHeartbeats 4000000 in
set_option maxRecDepth 100000 in
theorem lbX4_clearPlaces {p : Program} {l : Launch} {e : Env} {R : Room} {s : State} {m : MethodId} {args : Array Value} {below : List Frame} {meth : Method} {c : Code} {cells slots : Nat} {Q : State → Prop} {D : va_G} {t : bx_T} {A : Nat → Prop} {h : Nat} {a : Nat → Nat} {Z : va_W} (E : bx_E p m c cX4_clearPlaces 2 s args wsX4_clearPlaces RX4 D t A) (hin : ∀ w ∈ wsX40, w ∈ wsX4_clearPlaces) (B : bl_S) (kk : ∀ (H : Heap) (locs : List Loc) (ls : Array Slot), bx_M D A s (bl_w t h a (bl_r B 1 (flq (bR B 1) 12)) Z) H locs → lv_has ls 2 [(1, .int (nI 12)), (0, .ref h)] → W p l e R s m args below meth c H locs cells slots Q (F0 m 24 ls [])) : ∀ (k i : Nat) (H : Heap) (locs : List Loc) (ls : Array Slot), i + k = 12 → bx_M D A s (bl_w t h a (bl_r B 1 (flq (bR B 1) i)) Z) H locs → lv_has ls 2 [(1, .int (nI i)), (0, .ref h)] → W p l e R s m args below meth c H locs cells slots Q (F0 m 2 ls []) := by
  have hx := E.1.1
  have hb := E.1.2.1
  intro k
  induction k with
  | zero =>
    intro i H locs ls hi hM hl
    have hi : i = 12 := by omega
    subst hi
    have hlt : ¬ nI 12 < 12 := nI_nltl (n := 12) rfl (Nat.le_refl _) (by decide)
    refine lv_iload_n hx hb dX4_clearPlaces_2 rfl (lv_at hl 0 rfl) ?_
    refine lv_aload_n hx hb dX4_clearPlaces_3 rfl (lv_at hl 1 rfl) ?_
    refine bl_get E hin hM 1 (by decide) (by decide +kernel) rfl dX4_clearPlaces_4 ?_
    refine bl_len1 E hM dX4_clearPlaces_7 ?_
    refine lv_icmp_ge (tgt := 24) hx hb dX4_clearPlaces_8 (by decide) (fun _ => ?_) (fun c => absurd (Int32.not_le.mp c) hlt)
    exact kk H locs ls hM hl
  | succ k ih =>
    intro i H locs ls hi hM hl
    have hlt : nI i < 12 := nI_ltl (n := 12) rfl (by omega) (by decide)
    refine lv_iload_n hx hb dX4_clearPlaces_2 rfl (lv_at hl 0 rfl) ?_
    refine lv_aload_n hx hb dX4_clearPlaces_3 rfl (lv_at hl 1 rfl) ?_
    refine bl_get E hin hM 1 (by decide) (by decide +kernel) rfl dX4_clearPlaces_4 ?_
    refine bl_len1 E hM dX4_clearPlaces_7 ?_
    refine lv_icmp_ge (tgt := 24) hx hb dX4_clearPlaces_8 (by decide) (fun c => absurd hlt (Int32.not_lt.mpr c)) (fun _ => ?_)
    refine lv_aload_n hx hb dX4_clearPlaces_11 rfl (lv_at hl 1 rfl) ?_
    refine bl_get E hin hM 1 (by decide) (by decide +kernel) rfl dX4_clearPlaces_12 ?_
    refine lv_iload_n hx hb dX4_clearPlaces_15 rfl (lv_at hl 0 rfl) ?_
    refine lv_null hx hb dX4_clearPlaces_16 ?_
    refine bl_plN E hM (vp_in_nI (show i < 12 by omega) (by decide)) dX4_clearPlaces_17 (fun H locs hM => ?_)
    have hM : bx_M D A s (bl_w t h a (bl_ri (bl_r B 1 (flq (bR B 1) i)) 1 (nI i).toNatClampNeg none) Z) H locs := hM
    refine lv_iinc (v := nI i + 1) (lv' := [(1, .int (nI i + 1)), (0, .ref h)]) hx hb dX4_clearPlaces_18 hl (k := 0) rfl rfl (by decide) rfl (fun ls hl => ?_)
    refine lv_goto (tgt := 2) hx hb dX4_clearPlaces_21 (by decide) ?_
    rw [nI_clamp (by omega), bl_qS] at hM
    rw [nI_1] at hl
    exact ih (i + 1) H locs ls (by omega) hM hl

set_option maxHeartbeats 4000000 in
set_option maxRecDepth 100000 in
theorem bX4_clearPlaces (l : Launch) (D : va_G) (t : bx_T) (A : Nat → Prop) (h : Nat) (a : Nat → Nat) (B : bl_S) (Z : va_W) : bx_Cv l yX4_clearPlaces wsX4_clearPlaces ({ frames := 0, cells := 0, slots := 0, locals := 0 }) D t A [.ref h] (bl_w t h a B Z) (fun (u : bl_S) => u = bl_r B 1 (flq (bR B 1) 12)) (fun u => bl_w t h a u Z) 0 0 := by
  refine bx_enter (cc := cX4_clearPlaces) (maxL := 2) (ret := none) (by decide) rfl (Nat.le_of_ble_eq_true rfl) ?_
  intro p e s m below meth c ls E hr hlk hnm hM hl
  have hl : lv_has ls 2 [(0, .ref h)] := hl
  have hx := E.1.1
  have hb := E.1.2.1
  have hin : ∀ w ∈ wsX40, w ∈ wsX4_clearPlaces := by decide +kernel
  refine lv_iconst (v := 0) hx hb dX4_clearPlaces_0 (by decide) ?_
  refine lv_istore_n (lv' := [(1, .int 0), (0, .ref h)]) hx hb dX4_clearPlaces_1 rfl hl (by decide) rfl (fun ls hl => ?_)
  refine lbX4_clearPlaces E hin B (fun H locs ls hM hl => ?_) 12 0 _ _ ls rfl (by rw [bl_q0]; exact hM) (lv_sub hl [0, 1] rfl)
  have hM : bx_M D A s (bl_w t h a (bl_r B 1 (flq (bR B 1) 12)) Z) H locs := hM
  exact bx_retv E hr hlk hM (bl_r B 1 (flq (bR B 1) 12)) rfl (rfl) dX4_clearPlaces_24

set_option maxHeartbeats 4000000 in
set_option maxRecDepth 100000 in
theorem lbX4_clearNumbers {p : Program} {l : Launch} {e : Env} {R : Room} {s : State} {m : MethodId} {args : Array Value} {below : List Frame} {meth : Method} {c : Code} {cells slots : Nat} {Q : State → Prop} {D : va_G} {t : bx_T} {A : Nat → Prop} {h : Nat} {a : Nat → Nat} {Z : va_W} (E : bx_E p m c cX4_clearNumbers 2 s args wsX4_clearNumbers RX4 D t A) (B : bl_S) (q : Nat) (hk3 : q < 3) (N : Int32) (hN : Int32.ofNat (bl_len q) = N) (kk : ∀ (H : Heap) (locs : List Loc) (ls : Array Slot), bx_M D A s (bl_w t h a (bl_a B q (fl (B.1 q) (bl_len q) 0)) Z) H locs → lv_has ls 2 [(1, .int (nI (bl_len q))), (0, .ref (a (q + 2)))] → W p l e R s m args below meth c H locs cells slots Q (F0 m 18 ls [])) : ∀ (k i : Nat) (H : Heap) (locs : List Loc) (ls : Array Slot), i + k = bl_len q → bx_M D A s (bl_w t h a (bl_a B q (fl (B.1 q) i 0)) Z) H locs → lv_has ls 2 [(1, .int (nI i)), (0, .ref (a (q + 2)))] → W p l e R s m args below meth c H locs cells slots Q (F0 m 2 ls []) := by
  have hx := E.1.1
  have hb := E.1.2.1
  have hle := bl_lenN q
  intro k
  induction k with
  | zero =>
    intro i H locs ls hi hM hl
    have hi : i = bl_len q := by omega
    subst hi
    have hlt : ¬ nI (bl_len q) < N := nI_nltl (n := bl_len q) hN.symm (Nat.le_refl _) (by omega)
    refine lv_iload_n hx hb dX4_clearNumbers_2 rfl (lv_at hl 0 rfl) ?_
    refine lv_aload_n hx hb dX4_clearNumbers_3 rfl (lv_at hl 1 rfl) ?_
    refine bl_len0 E hM q hk3 (v := N) hN dX4_clearNumbers_4 ?_
    refine lv_icmp_ge (tgt := 18) hx hb dX4_clearNumbers_5 (by decide) (fun _ => ?_) (fun c => absurd (Int32.not_le.mp c) hlt)
    exact kk H locs ls hM hl
  | succ k ih =>
    intro i H locs ls hi hM hl
    have hlt : nI i < N := nI_ltl (n := bl_len q) hN.symm (by omega) (by omega)
    refine lv_iload_n hx hb dX4_clearNumbers_2 rfl (lv_at hl 0 rfl) ?_
    refine lv_aload_n hx hb dX4_clearNumbers_3 rfl (lv_at hl 1 rfl) ?_
    refine bl_len0 E hM q hk3 (v := N) hN dX4_clearNumbers_4 ?_
    refine lv_icmp_ge (tgt := 18) hx hb dX4_clearNumbers_5 (by decide) (fun c => absurd hlt (Int32.not_lt.mpr c)) (fun _ => ?_)
    refine lv_aload_n hx hb dX4_clearNumbers_8 rfl (lv_at hl 1 rfl) ?_
    refine lv_iload_n hx hb dX4_clearNumbers_9 rfl (lv_at hl 0 rfl) ?_
    refine lv_iconst (v := 0) hx hb dX4_clearNumbers_10 (by decide) ?_
    refine bl_ast E hM q (hk3) (vp_in_nI (show i < bl_len q by omega) (by omega)) dX4_clearNumbers_11 (fun H locs hM => ?_)
    have hM : bx_M D A s (bl_w t h a (bl_ai (bl_a B q (fl (B.1 q) i 0)) q (nI i).toNatClampNeg 0) Z) H locs := hM
    refine lv_iinc (v := nI i + 1) (lv' := [(1, .int (nI i + 1)), (0, .ref (a (q + 2)))]) hx hb dX4_clearNumbers_12 hl (k := 0) rfl rfl (by decide) rfl (fun ls hl => ?_)
    refine lv_goto (tgt := 2) hx hb dX4_clearNumbers_15 (by decide) ?_
    rw [nI_clamp (by omega), bl_lS] at hM
    rw [nI_1] at hl
    exact ih (i + 1) H locs ls (by omega) hM hl

set_option maxHeartbeats 4000000 in
set_option maxRecDepth 100000 in
theorem bX4_clearNumbers (l : Launch) (D : va_G) (t : bx_T) (A : Nat → Prop) (h : Nat) (a : Nat → Nat) (B : bl_S) (Z : va_W) (q : Nat) (hk3 : q < 3) : bx_Cv l yX4_clearNumbers wsX4_clearNumbers ({ frames := 0, cells := 0, slots := 0, locals := 0 }) D t A [.ref (a (q + 2))] (bl_w t h a B Z) (fun (u : bl_S) => u = bl_a B q (fl (B.1 q) (bl_len q) 0)) (fun u => bl_w t h a u Z) 0 0 := by
  refine bx_enter (cc := cX4_clearNumbers) (maxL := 2) (ret := none) (by decide) rfl (Nat.le_of_ble_eq_true rfl) ?_
  intro p e s m below meth c ls E hr hlk hnm hM hl
  have hl : lv_has ls 2 [(0, .ref (a (q + 2)))] := hl
  have hx := E.1.1
  have hb := E.1.2.1
  refine lv_iconst (v := 0) hx hb dX4_clearNumbers_0 (by decide) ?_
  refine lv_istore_n (lv' := [(1, .int 0), (0, .ref (a (q + 2)))]) hx hb dX4_clearNumbers_1 rfl hl (by decide) rfl (fun ls hl => ?_)
  refine lbX4_clearNumbers E B q hk3 _ rfl (fun H locs ls hM hl => ?_) (bl_len q) 0 _ _ ls (Nat.zero_add _) (by rw [bl_l0]; exact hM) (lv_sub hl [0, 1] rfl)
  have hM : bx_M D A s (bl_w t h a (bl_a B q (fl (B.1 q) (bl_len q) 0)) Z) H locs := hM
  exact bx_retv E hr hlk hM (bl_a B q (fl (B.1 q) (bl_len q) 0)) rfl (rfl) dX4_clearNumbers_18

set_option maxHeartbeats 4000000 in
set_option maxRecDepth 100000 in
theorem bX4_frame (l : Launch) (D : va_G) (t : bx_T) (A : Nat → Prop) (h : Nat) (a : Nat → Nat) (B : bl_S) (Z : va_W) (p0 : Int32) (p1 : Int32) (hz : p1 = 1 ∨ p1 = 0) : bx_Ci l yX4_frame wsX4_frame ({ frames := 2, cells := 0, slots := 0, locals := 43 }) D t A [.ref h, .int p0, .int p1] (bl_w t h a B Z) (fun (r : Int32) (u : bl_S) => r = (bf_frame B p0 p1).1 ∧ u = (bf_frame B p0 p1).2) (fun u => bl_w t h a u Z) 0 0 := by
  refine bx_enter (cc := cX4_frame) (maxL := 3) (ret := some .int) (by decide) rfl (Nat.le_of_ble_eq_true rfl) ?_
  intro p e s m below meth c ls E hr hlk hnm hM hl
  have hl : lv_has ls 3 [(0, .ref h), (1, .int p0), (2, .int p1)] := hl
  have hx := E.1.1
  have hb := E.1.2.1
  have hin : ∀ w ∈ wsX40, w ∈ wsX4_frame := by decide +kernel
  refine lv_iload_n hx hb dX4_frame_0 rfl (lv_at hl 1 rfl) ?_
  refine lv_bipush (v := 12) hx hb dX4_frame_1 (by decide) ?_
  refine lv_icmp_le (tgt := 8) hx hb dX4_frame_3 (by decide) (fun c_3 => ?_) (fun c_3 => ?_)
  · have c_3 := Int32.not_lt.mpr c_3
    refine lv_iload_n hx hb dX4_frame_8 rfl (lv_at hl 1 rfl) ?_
    refine lv_if_ge (tgt := 18) hx hb dX4_frame_9 (by decide) (fun c_9 => ?_) (fun c_9 => ?_)
    · have c_9 := Int32.not_lt.mpr c_9
      refine lv_aload_n hx hb dX4_frame_18 rfl (lv_at hl 0 rfl) ?_
      refine bx_gov hM (bx_runV (As := []) (rest := []) E hM (bX4_clearPlaces l D t A h a B Z) (bl_recv E hM) 0 gX4_frame_X4_clearPlaces rfl rfl rfl (by decide +kernel) ⟨Nat.le_of_ble_eq_true rfl, Nat.le_of_ble_eq_true rfl⟩ rfl hl.1 rfl (Nat.le_of_ble_eq_true rfl) dX4_frame_19 ⟨Nat.le_of_ble_eq_true rfl, Nat.le_of_ble_eq_true rfl⟩) (fun u H locs hp hM => ?_)
      subst hp
      have hM : bx_M D A s (bl_w t h a (bl_r B 1 (flq (bR B 1) 12)) Z) H locs := hM
      refine lv_aload_n hx hb dX4_frame_22 rfl (lv_at hl 0 rfl) ?_
      refine lv_iload_n hx hb dX4_frame_23 rfl (lv_at hl 1 rfl) ?_
      refine bl_put (B' := bl_s (bl_r B 1 (flq (bR B 1) 12)) 0 p0) E hin hM 2 (by decide) (by decide +kernel) rfl rfl rfl rfl dX4_frame_24 (fun H locs hM => ?_)
      have hM : bx_M D A s (bl_w t h a (bl_s (bl_r B 1 (flq (bR B 1) 12)) 0 p0) Z) H locs := hM
      refine lv_aload_n hx hb dX4_frame_27 rfl (lv_at hl 0 rfl) ?_
      refine lv_iload_n hx hb dX4_frame_28 rfl (lv_at hl 2 rfl) ?_
      refine bl_put (B' := bl_s (bl_s (bl_r B 1 (flq (bR B 1) 12)) 0 p0) 1 p1) E hin hM 3 (by decide) (by decide +kernel) rfl (by rcases hz with rfl | rfl <;> rfl) (by rcases hz with rfl | rfl <;> rfl) rfl dX4_frame_29 (fun H locs hM => ?_)
      have hM : bx_M D A s (bl_w t h a (bl_s (bl_s (bl_r B 1 (flq (bR B 1) 12)) 0 p0) 1 p1) Z) H locs := hM
      refine lv_iload_n hx hb dX4_frame_32 rfl (lv_at hl 1 rfl) ?_
      exact bx_reti E hr hlk hM (bl_s (bl_s (bl_r B 1 (flq (bR B 1) 12)) 0 p0) 1 p1) rfl (by first | (simp [bf_frame, c_3, c_9]; done) | (simp [bf_frame, c_3, c_9]; rfl)) dX4_frame_33
    · have c_9 := Int32.not_le.mp c_9
      refine lv_aload_n hx hb dX4_frame_12 rfl (lv_at hl 0 rfl) ?_
      refine lv_iconst (v := 4) hx hb dX4_frame_13 (by decide) ?_
      refine bx_goi hM (bx_runV (As := [.int 4]) (rest := []) E hM (bX4_tell l D t A h a B Z 4) (bl_recv E hM) 1 gX4_frame_X4_tell rfl rfl rfl (by decide +kernel) ⟨Nat.le_of_ble_eq_true rfl, Nat.le_of_ble_eq_true rfl⟩ rfl hl.1 rfl (Nat.le_of_ble_eq_true rfl) dX4_frame_14 ⟨Nat.le_of_ble_eq_true rfl, Nat.le_of_ble_eq_true rfl⟩) (fun r u H locs hp hM => ?_)
      obtain ⟨rfl, rfl⟩ := hp
      have hM : bx_M D A s (bl_w t h a (bf_tell B 4) Z) H locs := hM
      exact bx_reti E hr hlk hM (bf_tell B 4) rfl (by first | (simp [bf_frame, c_3, c_9]; done) | (simp [bf_frame, c_3, c_9]; rfl)) dX4_frame_17
  · have c_3 := Int32.not_le.mp c_3
    refine lv_iconst (v := (-1)) hx hb dX4_frame_6 (by decide) ?_
    exact bx_reti E hr hlk hM B rfl (by first | (simp [bf_frame, c_3]; done) | (simp [bf_frame, c_3]; rfl)) dX4_frame_7

set_option maxHeartbeats 4000000 in
set_option maxRecDepth 100000 in
theorem bX4_change (l : Launch) (D : va_G) (t : bx_T) (A : Nat → Prop) (h : Nat) (a : Nat → Nat) (B : bl_S) (Z : va_W) (p0 : Int32) : bx_Ci l yX4_change wsX4_change ({ frames := 2, cells := 0, slots := 0, locals := 43 }) D t A [.ref h, .int p0] (bl_w t h a B Z) (fun (r : Int32) (u : bl_S) => r = (bf_change B p0).1 ∧ u = (bf_change B p0).2) (fun u => bl_w t h a u Z) 0 0 := by
  refine bx_enter (cc := cX4_change) (maxL := 2) (ret := some .int) (by decide) rfl (Nat.le_of_ble_eq_true rfl) ?_
  intro p e s m below meth c ls E hr hlk hnm hM hl
  have hl : lv_has ls 2 [(0, .ref h), (1, .int p0)] := hl
  have hx := E.1.1
  have hb := E.1.2.1
  have hin : ∀ w ∈ wsX40, w ∈ wsX4_change := by decide +kernel
  refine lv_iload_n hx hb dX4_change_0 rfl (lv_at hl 1 rfl) ?_
  refine lv_bipush (v := 12) hx hb dX4_change_1 (by decide) ?_
  refine lv_icmp_le (tgt := 8) hx hb dX4_change_3 (by decide) (fun c_3 => ?_) (fun c_3 => ?_)
  · have c_3 := Int32.not_lt.mpr c_3
    refine lv_iload_n hx hb dX4_change_8 rfl (lv_at hl 1 rfl) ?_
    refine lv_if_ge (tgt := 18) hx hb dX4_change_9 (by decide) (fun c_9 => ?_) (fun c_9 => ?_)
    · have c_9 := Int32.not_lt.mpr c_9
      refine lv_aload_n hx hb dX4_change_18 rfl (lv_at hl 0 rfl) ?_
      refine bl_get E hin hM 4 (by decide) (by decide +kernel) rfl dX4_change_19 ?_
      refine bx_gov hM (bx_runS (As := [.ref (a 2)]) (rest := []) E hM (bX4_clearNumbers l D t A h a B Z 0 (by decide)) 1 gX4_change_X4_clearNumbers rfl rfl rfl (by decide +kernel) ⟨Nat.le_of_ble_eq_true rfl, Nat.le_of_ble_eq_true rfl⟩ rfl hl.1 rfl (Nat.le_of_ble_eq_true rfl) dX4_change_22 ⟨Nat.le_of_ble_eq_true rfl, Nat.le_of_ble_eq_true rfl⟩) (fun u H locs hp hM => ?_)
      subst hp
      have hM : bx_M D A s (bl_w t h a (bl_a B 0 (fl (B.1 0) 12 0)) Z) H locs := hM
      refine lv_aload_n hx hb dX4_change_25 rfl (lv_at hl 0 rfl) ?_
      refine lv_iload_n hx hb dX4_change_26 rfl (lv_at hl 1 rfl) ?_
      refine bl_put (B' := bl_s (bl_a B 0 (fl (B.1 0) 12 0)) 2 p0) E hin hM 5 (by decide) (by decide +kernel) rfl rfl rfl rfl dX4_change_27 (fun H locs hM => ?_)
      have hM : bx_M D A s (bl_w t h a (bl_s (bl_a B 0 (fl (B.1 0) 12 0)) 2 p0) Z) H locs := hM
      refine lv_iload_n hx hb dX4_change_30 rfl (lv_at hl 1 rfl) ?_
      exact bx_reti E hr hlk hM (bl_s (bl_a B 0 (fl (B.1 0) 12 0)) 2 p0) rfl (by first | (simp [bf_change, c_3, c_9]; done) | (simp [bf_change, c_3, c_9]; rfl)) dX4_change_31
    · have c_9 := Int32.not_le.mp c_9
      refine lv_aload_n hx hb dX4_change_12 rfl (lv_at hl 0 rfl) ?_
      refine lv_iconst (v := 4) hx hb dX4_change_13 (by decide) ?_
      refine bx_goi hM (bx_runV (As := [.int 4]) (rest := []) E hM (bX4_tell l D t A h a B Z 4) (bl_recv E hM) 1 gX4_change_X4_tell rfl rfl rfl (by decide +kernel) ⟨Nat.le_of_ble_eq_true rfl, Nat.le_of_ble_eq_true rfl⟩ rfl hl.1 rfl (Nat.le_of_ble_eq_true rfl) dX4_change_14 ⟨Nat.le_of_ble_eq_true rfl, Nat.le_of_ble_eq_true rfl⟩) (fun r u H locs hp hM => ?_)
      obtain ⟨rfl, rfl⟩ := hp
      have hM : bx_M D A s (bl_w t h a (bf_tell B 4) Z) H locs := hM
      exact bx_reti E hr hlk hM (bf_tell B 4) rfl (by first | (simp [bf_change, c_3, c_9]; done) | (simp [bf_change, c_3, c_9]; rfl)) dX4_change_17
  · have c_3 := Int32.not_le.mp c_3
    refine lv_iconst (v := (-1)) hx hb dX4_change_6 (by decide) ?_
    exact bx_reti E hr hlk hM B rfl (by first | (simp [bf_change, c_3]; done) | (simp [bf_change, c_3]; rfl)) dX4_change_7

set_option maxHeartbeats 4000000 in
set_option maxRecDepth 100000 in
theorem bX4_peal (l : Launch) (D : va_G) (t : bx_T) (A : Nat → Prop) (h : Nat) (a : Nat → Nat) (B : bl_S) (Z : va_W) (p0 : Int32) (p1 : Int32) : bx_Ci l yX4_peal wsX4_peal ({ frames := 2, cells := 0, slots := 0, locals := 43 }) D t A [.ref h, .int p0, .int p1] (bl_w t h a B Z) (fun (r : Int32) (u : bl_S) => r = (bf_peal B p0 p1).1 ∧ u = (bf_peal B p0 p1).2) (fun u => bl_w t h a u Z) 0 0 := by
  refine bx_enter (cc := cX4_peal) (maxL := 3) (ret := some .int) (by decide) rfl (Nat.le_of_ble_eq_true rfl) ?_
  intro p e s m below meth c ls E hr hlk hnm hM hl
  have hl : lv_has ls 3 [(0, .ref h), (1, .int p0), (2, .int p1)] := hl
  have hx := E.1.1
  have hb := E.1.2.1
  have hin : ∀ w ∈ wsX40, w ∈ wsX4_peal := by decide +kernel
  refine lv_iload_n hx hb dX4_peal_0 rfl (lv_at hl 1 rfl) ?_
  refine lv_bipush (v := 12) hx hb dX4_peal_1 (by decide) ?_
  refine lv_icmp_gt (tgt := 12) hx hb dX4_peal_3 (by decide) (fun c_3 => ?_) (fun c_3 => ?_)
  · refine lv_iconst (v := (-1)) hx hb dX4_peal_12 (by decide) ?_
    exact bx_reti E hr hlk hM B rfl (by first | (simp [bf_peal, c_3]; done) | (simp [bf_peal, c_3]; rfl)) dX4_peal_13
  · refine lv_iload_n hx hb dX4_peal_6 rfl (lv_at hl 2 rfl) ?_
    refine lv_bipush (v := 12) hx hb dX4_peal_7 (by decide) ?_
    refine lv_icmp_le (tgt := 14) hx hb dX4_peal_9 (by decide) (fun c_9 => ?_) (fun c_9 => ?_)
    · have c_9 := Int32.not_lt.mpr c_9
      refine lv_iload_n hx hb dX4_peal_14 rfl (lv_at hl 1 rfl) ?_
      refine lv_if_lt (tgt := 22) hx hb dX4_peal_15 (by decide) (fun c_15 => ?_) (fun c_15 => ?_)
      · refine lv_aload_n hx hb dX4_peal_22 rfl (lv_at hl 0 rfl) ?_
        refine lv_iconst (v := 4) hx hb dX4_peal_23 (by decide) ?_
        refine bx_goi hM (bx_runV (As := [.int 4]) (rest := []) E hM (bX4_tell l D t A h a B Z 4) (bl_recv E hM) 1 gX4_peal_X4_tell rfl rfl rfl (by decide +kernel) ⟨Nat.le_of_ble_eq_true rfl, Nat.le_of_ble_eq_true rfl⟩ rfl hl.1 rfl (Nat.le_of_ble_eq_true rfl) dX4_peal_24 ⟨Nat.le_of_ble_eq_true rfl, Nat.le_of_ble_eq_true rfl⟩) (fun r u H locs hp hM => ?_)
        obtain ⟨rfl, rfl⟩ := hp
        have hM : bx_M D A s (bl_w t h a (bf_tell B 4) Z) H locs := hM
        exact bx_reti E hr hlk hM (bf_tell B 4) rfl (by first | (simp [bf_peal, c_3, c_9, c_15]; done) | (simp [bf_peal, c_3, c_9, c_15]; rfl)) dX4_peal_27
      · refine lv_iload_n hx hb dX4_peal_18 rfl (lv_at hl 2 rfl) ?_
        refine lv_if_ge (tgt := 28) hx hb dX4_peal_19 (by decide) (fun c_19 => ?_) (fun c_19 => ?_)
        · have c_19 := Int32.not_lt.mpr c_19
          refine lv_aload_n hx hb dX4_peal_28 rfl (lv_at hl 0 rfl) ?_
          refine bl_get E hin hM 6 (by decide) (by decide +kernel) rfl dX4_peal_29 ?_
          refine bx_gov hM (bx_runS (As := [.ref (a 3)]) (rest := []) E hM (bX4_clearNumbers l D t A h a B Z 1 (by decide)) 1 gX4_peal_X4_clearNumbers rfl rfl rfl (by decide +kernel) ⟨Nat.le_of_ble_eq_true rfl, Nat.le_of_ble_eq_true rfl⟩ rfl hl.1 rfl (Nat.le_of_ble_eq_true rfl) dX4_peal_32 ⟨Nat.le_of_ble_eq_true rfl, Nat.le_of_ble_eq_true rfl⟩) (fun u H locs hp hM => ?_)
          subst hp
          have hM : bx_M D A s (bl_w t h a (bl_a B 1 (fl (B.1 1) 144 0)) Z) H locs := hM
          refine lv_aload_n hx hb dX4_peal_35 rfl (lv_at hl 0 rfl) ?_
          refine lv_iload_n hx hb dX4_peal_36 rfl (lv_at hl 1 rfl) ?_
          refine bl_put (B' := bl_s (bl_a B 1 (fl (B.1 1) 144 0)) 3 p0) E hin hM 7 (by decide) (by decide +kernel) rfl rfl rfl rfl dX4_peal_37 (fun H locs hM => ?_)
          have hM : bx_M D A s (bl_w t h a (bl_s (bl_a B 1 (fl (B.1 1) 144 0)) 3 p0) Z) H locs := hM
          refine lv_aload_n hx hb dX4_peal_40 rfl (lv_at hl 0 rfl) ?_
          refine lv_iload_n hx hb dX4_peal_41 rfl (lv_at hl 2 rfl) ?_
          refine bl_put (B' := bl_s (bl_s (bl_a B 1 (fl (B.1 1) 144 0)) 3 p0) 4 p1) E hin hM 8 (by decide) (by decide +kernel) rfl rfl rfl rfl dX4_peal_42 (fun H locs hM => ?_)
          have hM : bx_M D A s (bl_w t h a (bl_s (bl_s (bl_a B 1 (fl (B.1 1) 144 0)) 3 p0) 4 p1) Z) H locs := hM
          refine lv_iload_n hx hb dX4_peal_45 rfl (lv_at hl 1 rfl) ?_
          refine lv_iload_n hx hb dX4_peal_46 rfl (lv_at hl 2 rfl) ?_
          refine lv_imul hx hb dX4_peal_47 ?_
          exact bx_reti E hr hlk hM (bl_s (bl_s (bl_a B 1 (fl (B.1 1) 144 0)) 3 p0) 4 p1) rfl (by first | (simp [bf_peal, c_3, c_9, c_15, c_19]; done) | (simp [bf_peal, c_3, c_9, c_15, c_19]; rfl)) dX4_peal_48
        · have c_19 := Int32.not_le.mp c_19
          refine lv_aload_n hx hb dX4_peal_22 rfl (lv_at hl 0 rfl) ?_
          refine lv_iconst (v := 4) hx hb dX4_peal_23 (by decide) ?_
          refine bx_goi hM (bx_runV (As := [.int 4]) (rest := []) E hM (bX4_tell l D t A h a B Z 4) (bl_recv E hM) 1 gX4_peal_X4_tell rfl rfl rfl (by decide +kernel) ⟨Nat.le_of_ble_eq_true rfl, Nat.le_of_ble_eq_true rfl⟩ rfl hl.1 rfl (Nat.le_of_ble_eq_true rfl) dX4_peal_24 ⟨Nat.le_of_ble_eq_true rfl, Nat.le_of_ble_eq_true rfl⟩) (fun r u H locs hp hM => ?_)
          obtain ⟨rfl, rfl⟩ := hp
          have hM : bx_M D A s (bl_w t h a (bf_tell B 4) Z) H locs := hM
          exact bx_reti E hr hlk hM (bf_tell B 4) rfl (by first | (simp [bf_peal, c_3, c_9, c_15, c_19]; done) | (simp [bf_peal, c_3, c_9, c_15, c_19]; rfl)) dX4_peal_27
    · have c_9 := Int32.not_le.mp c_9
      refine lv_iconst (v := (-1)) hx hb dX4_peal_12 (by decide) ?_
      exact bx_reti E hr hlk hM B rfl (by first | (simp [bf_peal, c_3, c_9]; done) | (simp [bf_peal, c_3, c_9]; rfl)) dX4_peal_13
