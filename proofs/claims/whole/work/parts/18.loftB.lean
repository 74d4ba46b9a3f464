set_option maxHeartbeats 4000000 in
set_option maxRecDepth 100000 in
theorem bX4_bellOfN (l : Launch) (D : va_G) (t : bx_T) (A : Nat → Prop) (h : Nat) (a : Nat → Nat) (B : bl_S) (Z : va_W) : bx_Cq l yX4_bellOf wsX4_bellOf ({ frames := 0, cells := 0, slots := 0, locals := 0 }) D t A [.null] (bl_w t h a B Z) (fun (r : Option Nat) (_ : Unit) => r = none) (fun _ => bl_w t h a B Z) 0 0 := by
  refine bx_enter (cc := cX4_bellOf) (maxL := 1) (ret := some (.object "BellLoft$Bell")) (by decide) rfl (Nat.le_of_ble_eq_true rfl) ?_
  intro p e s m below meth c ls E hr hlk hnm hM hl
  have hl : lv_has ls 1 [(0, .null)] := hl
  have hx := E.1.1
  have hb := E.1.2.1
  refine lv_aload_nN hx hb dX4_bellOf_0 rfl (lv_at hl 0 rfl) ?_
  refine lv_instN hx hb dX4_bellOf_1 ?_
  refine lv_if_eq (tgt := 14) hx hb dX4_bellOf_4 (by decide) (fun _ => ?_) (fun c => absurd c (by decide))
  refine lv_null hx hb dX4_bellOf_14 ?_
  exact bx_retq (r := none) E hr hlk hM () rfl (rfl) dX4_bellOf_15

set_option maxHeartbeats 4000000 in
set_option maxRecDepth 100000 in
theorem bX4_bellOfS (l : Launch) (D : va_G) (t : bx_T) (A : Nat → Prop) (h : Nat) (a : Nat → Nat) (B : bl_S) (Z : va_W) (y : Nat) (hy : y ∈ bL B) : bx_Cq l yX4_bellOf wsX4_bellOf ({ frames := 0, cells := 0, slots := 0, locals := 0 }) D t A [.ref y] (bl_w t h a B Z) (fun (r : Option Nat) (_ : Unit) => (r = some y ∧ ¬ bK B y = 3) ∨ (r = none ∧ bK B y = 3)) (fun _ => bl_w t h a B Z) 0 0 := by
  refine bx_enter (cc := cX4_bellOf) (maxL := 1) (ret := some (.object "BellLoft$Bell")) (by decide) rfl (Nat.le_of_ble_eq_true rfl) ?_
  intro p e s m below meth c ls E hr hlk hnm hM hl
  have hl : lv_has ls 1 [(0, .ref y)] := hl
  have hx := E.1.1
  have hb := E.1.2.1
  refine lv_aload_n hx hb dX4_bellOf_0 rfl (lv_at hl 0 rfl) ?_
  refine bl_inB E hM hy (by decide +kernel) dX4_bellOf_1 (fun hk_1 => ?_) (fun hk_1 => ?_)
  · have hk_1 := hk_1
    refine lv_if_eq (tgt := 14) hx hb dX4_bellOf_4 (by decide) (fun c => absurd c (by decide)) (fun _ => ?_)
    refine lv_aload_n hx hb dX4_bellOf_7 rfl (lv_at hl 0 rfl) ?_
    refine bl_csB E hM hy hk_1 (by decide +kernel) dX4_bellOf_8 ?_
    refine lv_goto (tgt := 15) hx hb dX4_bellOf_11 (by decide) ?_
    exact bx_retq (r := (some y)) E hr hlk hM () rfl (by first | exact Or.inl ⟨rfl, hk_1⟩ | exact Or.inr ⟨rfl, hk_1⟩) dX4_bellOf_15
  · have hk_1 := hk_1
    refine lv_if_eq (tgt := 14) hx hb dX4_bellOf_4 (by decide) (fun _ => ?_) (fun c => absurd c (by decide))
    refine lv_null hx hb dX4_bellOf_14 ?_
    exact bx_retq (r := none) E hr hlk hM () rfl (by first | exact Or.inl ⟨rfl, hk_1⟩ | exact Or.inr ⟨rfl, hk_1⟩) dX4_bellOf_15

set_option maxHeartbeats 4000000 in
set_option maxRecDepth 100000 in
theorem bX4_greatBellOfN (l : Launch) (D : va_G) (t : bx_T) (A : Nat → Prop) (h : Nat) (a : Nat → Nat) (B : bl_S) (Z : va_W) : bx_Cq l yX4_greatBellOf wsX4_greatBellOf ({ frames := 0, cells := 0, slots := 0, locals := 0 }) D t A [.null] (bl_w t h a B Z) (fun (r : Option Nat) (_ : Unit) => r = none) (fun _ => bl_w t h a B Z) 0 0 := by
  refine bx_enter (cc := cX4_greatBellOf) (maxL := 1) (ret := some (.object "BellLoft$GreatBell")) (by decide) rfl (Nat.le_of_ble_eq_true rfl) ?_
  intro p e s m below meth c ls E hr hlk hnm hM hl
  have hl : lv_has ls 1 [(0, .null)] := hl
  have hx := E.1.1
  have hb := E.1.2.1
  refine lv_aload_nN hx hb dX4_greatBellOf_0 rfl (lv_at hl 0 rfl) ?_
  refine lv_instN hx hb dX4_greatBellOf_1 ?_
  refine lv_if_eq (tgt := 14) hx hb dX4_greatBellOf_4 (by decide) (fun _ => ?_) (fun c => absurd c (by decide))
  refine lv_null hx hb dX4_greatBellOf_14 ?_
  exact bx_retq (r := none) E hr hlk hM () rfl (rfl) dX4_greatBellOf_15

set_option maxHeartbeats 4000000 in
set_option maxRecDepth 100000 in
theorem bX4_greatBellOfS (l : Launch) (D : va_G) (t : bx_T) (A : Nat → Prop) (h : Nat) (a : Nat → Nat) (B : bl_S) (Z : va_W) (y : Nat) (hy : y ∈ bL B) : bx_Cq l yX4_greatBellOf wsX4_greatBellOf ({ frames := 0, cells := 0, slots := 0, locals := 0 }) D t A [.ref y] (bl_w t h a B Z) (fun (r : Option Nat) (_ : Unit) => (r = some y ∧ bK B y = 2) ∨ (r = none ∧ ¬ bK B y = 2)) (fun _ => bl_w t h a B Z) 0 0 := by
  refine bx_enter (cc := cX4_greatBellOf) (maxL := 1) (ret := some (.object "BellLoft$GreatBell")) (by decide) rfl (Nat.le_of_ble_eq_true rfl) ?_
  intro p e s m below meth c ls E hr hlk hnm hM hl
  have hl : lv_has ls 1 [(0, .ref y)] := hl
  have hx := E.1.1
  have hb := E.1.2.1
  refine lv_aload_n hx hb dX4_greatBellOf_0 rfl (lv_at hl 0 rfl) ?_
  refine bl_inG E hM hy (by decide +kernel) dX4_greatBellOf_1 (fun hk_1 => ?_) (fun hk_1 => ?_)
  · have hk_1 := hk_1
    refine lv_if_eq (tgt := 14) hx hb dX4_greatBellOf_4 (by decide) (fun c => absurd c (by decide)) (fun _ => ?_)
    refine lv_aload_n hx hb dX4_greatBellOf_7 rfl (lv_at hl 0 rfl) ?_
    refine bl_csG E hM hy hk_1 (by decide +kernel) dX4_greatBellOf_8 ?_
    refine lv_goto (tgt := 15) hx hb dX4_greatBellOf_11 (by decide) ?_
    exact bx_retq (r := (some y)) E hr hlk hM () rfl (by first | exact Or.inl ⟨rfl, hk_1⟩ | exact Or.inr ⟨rfl, hk_1⟩) dX4_greatBellOf_15
  · have hk_1 := hk_1
    refine lv_if_eq (tgt := 14) hx hb dX4_greatBellOf_4 (by decide) (fun _ => ?_) (fun c => absurd c (by decide))
    refine lv_null hx hb dX4_greatBellOf_14 ?_
    exact bx_retq (r := none) E hr hlk hM () rfl (by first | exact Or.inl ⟨rfl, hk_1⟩ | exact Or.inr ⟨rfl, hk_1⟩) dX4_greatBellOf_15

set_option maxHeartbeats 4000000 in
set_option maxRecDepth 100000 in
theorem bX4_clapperOfN (l : Launch) (D : va_G) (t : bx_T) (A : Nat → Prop) (h : Nat) (a : Nat → Nat) (B : bl_S) (Z : va_W) : bx_Cq l yX4_clapperOf wsX4_clapperOf ({ frames := 0, cells := 0, slots := 0, locals := 0 }) D t A [.null] (bl_w t h a B Z) (fun (r : Option Nat) (_ : Unit) => r = none) (fun _ => bl_w t h a B Z) 0 0 := by
  refine bx_enter (cc := cX4_clapperOf) (maxL := 1) (ret := some (.object "BellLoft$Clapper")) (by decide) rfl (Nat.le_of_ble_eq_true rfl) ?_
  intro p e s m below meth c ls E hr hlk hnm hM hl
  have hl : lv_has ls 1 [(0, .null)] := hl
  have hx := E.1.1
  have hb := E.1.2.1
  refine lv_aload_nN hx hb dX4_clapperOf_0 rfl (lv_at hl 0 rfl) ?_
  refine lv_instN hx hb dX4_clapperOf_1 ?_
  refine lv_if_eq (tgt := 14) hx hb dX4_clapperOf_4 (by decide) (fun _ => ?_) (fun c => absurd c (by decide))
  refine lv_null hx hb dX4_clapperOf_14 ?_
  exact bx_retq (r := none) E hr hlk hM () rfl (rfl) dX4_clapperOf_15

set_option maxHeartbeats 4000000 in
set_option maxRecDepth 100000 in
theorem bX4_clapperOfS (l : Launch) (D : va_G) (t : bx_T) (A : Nat → Prop) (h : Nat) (a : Nat → Nat) (B : bl_S) (Z : va_W) (y : Nat) (hy : y ∈ bL B) : bx_Cq l yX4_clapperOf wsX4_clapperOf ({ frames := 0, cells := 0, slots := 0, locals := 0 }) D t A [.ref y] (bl_w t h a B Z) (fun (r : Option Nat) (_ : Unit) => (r = some y ∧ bK B y = 3) ∨ (r = none ∧ ¬ bK B y = 3)) (fun _ => bl_w t h a B Z) 0 0 := by
  refine bx_enter (cc := cX4_clapperOf) (maxL := 1) (ret := some (.object "BellLoft$Clapper")) (by decide) rfl (Nat.le_of_ble_eq_true rfl) ?_
  intro p e s m below meth c ls E hr hlk hnm hM hl
  have hl : lv_has ls 1 [(0, .ref y)] := hl
  have hx := E.1.1
  have hb := E.1.2.1
  refine lv_aload_n hx hb dX4_clapperOf_0 rfl (lv_at hl 0 rfl) ?_
  refine bl_inC E hM hy (by decide +kernel) dX4_clapperOf_1 (fun hk_1 => ?_) (fun hk_1 => ?_)
  · have hk_1 := hk_1
    refine lv_if_eq (tgt := 14) hx hb dX4_clapperOf_4 (by decide) (fun c => absurd c (by decide)) (fun _ => ?_)
    refine lv_aload_n hx hb dX4_clapperOf_7 rfl (lv_at hl 0 rfl) ?_
    refine bl_csC E hM hy hk_1 (by decide +kernel) dX4_clapperOf_8 ?_
    refine lv_goto (tgt := 15) hx hb dX4_clapperOf_11 (by decide) ?_
    exact bx_retq (r := (some y)) E hr hlk hM () rfl (by first | exact Or.inl ⟨rfl, hk_1⟩ | exact Or.inr ⟨rfl, hk_1⟩) dX4_clapperOf_15
  · have hk_1 := hk_1
    refine lv_if_eq (tgt := 14) hx hb dX4_clapperOf_4 (by decide) (fun _ => ?_) (fun c => absurd c (by decide))
    refine lv_null hx hb dX4_clapperOf_14 ?_
    exact bx_retq (r := none) E hr hlk hM () rfl (by first | exact Or.inl ⟨rfl, hk_1⟩ | exact Or.inr ⟨rfl, hk_1⟩) dX4_clapperOf_15

set_option maxHeartbeats 4000000 in
set_option maxRecDepth 100000 in
theorem bX4_sortOfN (l : Launch) (D : va_G) (t : bx_T) (A : Nat → Prop) (h : Nat) (a : Nat → Nat) (B : bl_S) (Z : va_W) : bx_Ci l yX4_sortOf wsX4_sortOf ({ frames := 1, cells := 0, slots := 0, locals := 20 }) D t A [.null] (bl_w t h a B Z) (fun (r : Int32) (_ : Unit) => r = 0) (fun _ => bl_w t h a B Z) 0 0 := by
  refine bx_enter (cc := cX4_sortOf) (maxL := 1) (ret := some .int) (by decide) rfl (Nat.le_of_ble_eq_true rfl) ?_
  intro p e s m below meth c ls E hr hlk hnm hM hl
  have hl : lv_has ls 1 [(0, .null)] := hl
  have hx := E.1.1
  have hb := E.1.2.1
  refine lv_aload_nN hx hb dX4_sortOf_0 rfl (lv_at hl 0 rfl) ?_
  refine lv_ifnonnullN hx hb dX4_sortOf_1 ?_
  refine lv_iconst (v := 0) hx hb dX4_sortOf_4 (by decide) ?_
  refine lv_goto (tgt := 12) hx hb dX4_sortOf_5 (by decide) ?_
  exact bx_reti E hr hlk hM () rfl (rfl) dX4_sortOf_12

set_option maxHeartbeats 4000000 in
set_option maxRecDepth 100000 in
theorem bX4_sortOfS (l : Launch) (D : va_G) (t : bx_T) (A : Nat → Prop) (h : Nat) (a : Nat → Nat) (B : bl_S) (Z : va_W) (y : Nat) (hy : y ∈ bL B) : bx_Ci l yX4_sortOf wsX4_sortOf ({ frames := 1, cells := 0, slots := 0, locals := 20 }) D t A [.ref y] (bl_w t h a B Z) (fun (r : Int32) (_ : Unit) => r = bf_sort B y) (fun _ => bl_w t h a B Z) 0 0 := by
  refine bx_enter (cc := cX4_sortOf) (maxL := 1) (ret := some .int) (by decide) rfl (Nat.le_of_ble_eq_true rfl) ?_
  intro p e s m below meth c ls E hr hlk hnm hM hl
  have hl : lv_has ls 1 [(0, .ref y)] := hl
  have hx := E.1.1
  have hb := E.1.2.1
  refine lv_aload_n hx hb dX4_sortOf_0 rfl (lv_at hl 0 rfl) ?_
  refine lv_ifnonnull (tgt := 8) hx hb dX4_sortOf_1 (by decide) ?_
  refine lv_aload_n hx hb dX4_sortOf_8 rfl (lv_at hl 0 rfl) ?_
  by_cases hk3_9 : bK B y = 3
  · refine bx_goi hM (bx_runU (As := []) (rest := []) E hM (bX1_sortNumber l D t A (bl_w t h a B Z) y) (bl_recv3 E hM hy hk3_9) (va_cwA 0 E.1.2.2.2.2 gX4_sortOf_X1_sortNumber_u131X1 rfl rfl rfl E.2.1.2.2.2.2.2.2.2.2.2.2.2.2.2.1 (by decide +kernel) ⟨Nat.le_of_ble_eq_true rfl, Nat.le_of_ble_eq_true rfl⟩) rfl hl.1 rfl (Nat.le_of_ble_eq_true rfl) dX4_sortOf_9 ⟨Nat.le_of_ble_eq_true rfl, Nat.le_of_ble_eq_true rfl⟩) (fun r u H locs hp hM => ?_)
    subst hp
    have hM : bx_M D A s (bl_w t h a B Z) H locs := hM
    exact bx_reti E hr hlk hM () rfl (by simp [bf_sort, hk3_9]) dX4_sortOf_12
  by_cases hk2_9 : bK B y = 2
  · refine bx_goi hM (bx_runU (As := []) (rest := []) E hM (bX2_sortNumber l D t A (bl_w t h a B Z) y) (bl_recv2 E hM hy hk2_9) (va_cwA 0 E.1.2.2.2.2 gX4_sortOf_X2_sortNumber_u131X2 rfl rfl rfl E.2.1.2.2.2.2.2.2.2.2.2.2.2.2.2.1 (by decide +kernel) ⟨Nat.le_of_ble_eq_true rfl, Nat.le_of_ble_eq_true rfl⟩) rfl hl.1 rfl (Nat.le_of_ble_eq_true rfl) dX4_sortOf_9 ⟨Nat.le_of_ble_eq_true rfl, Nat.le_of_ble_eq_true rfl⟩) (fun r u H locs hp hM => ?_)
    subst hp
    have hM : bx_M D A s (bl_w t h a B Z) H locs := hM
    exact bx_reti E hr hlk hM () rfl (by simp [bf_sort, hk3_9, hk2_9]) dX4_sortOf_12
  · refine bx_goi hM (bx_runU (As := []) (rest := []) E hM (bX0_sortNumber l D t A (bl_w t h a B Z) y) (bl_recv1 E hM hy hk3_9 hk2_9) (va_cwA 0 E.1.2.2.2.2 gX4_sortOf_X0_sortNumber_u131X0 rfl rfl rfl E.2.1.2.2.2.2.2.2.2.2.2.2.2.2.2.1 (by decide +kernel) ⟨Nat.le_of_ble_eq_true rfl, Nat.le_of_ble_eq_true rfl⟩) rfl hl.1 rfl (Nat.le_of_ble_eq_true rfl) dX4_sortOf_9 ⟨Nat.le_of_ble_eq_true rfl, Nat.le_of_ble_eq_true rfl⟩) (fun r u H locs hp hM => ?_)
    subst hp
    have hM : bx_M D A s (bl_w t h a B Z) H locs := hM
    exact bx_reti E hr hlk hM () rfl (by simp [bf_sort, hk3_9, hk2_9]) dX4_sortOf_12

set_option maxHeartbeats 4000000 in
set_option maxRecDepth 100000 in
theorem bX4_weigh (l : Launch) (D : va_G) (t : bx_T) (A : Nat → Prop) (h : Nat) (a : Nat → Nat) (B : bl_S) (Z : va_W) (p0 : Int32) (hI : bl_I B) : bx_Ci l yX4_weigh wsX4_weigh ({ frames := 2, cells := 0, slots := 0, locals := 43 }) D t A [.ref h, .int p0] (bl_w t h a B Z) (fun (r : Int32) (u : bl_S) => r = (bf_weigh B p0).1 ∧ u = (bf_weigh B p0).2) (fun u => bl_w t h a u Z) 0 0 := by
  refine bx_enter (cc := cX4_weigh) (maxL := 3) (ret := some .int) (by decide) rfl (Nat.le_of_ble_eq_true rfl) ?_
  intro p e s m below meth c ls E hr hlk hnm hM hl
  have hl : lv_has ls 3 [(0, .ref h), (1, .int p0)] := hl
  have hx := E.1.1
  have hb := E.1.2.1
  have hin : ∀ w ∈ wsX40, w ∈ wsX4_weigh := by decide +kernel
  have h0 : ∀ w ∈ wsX00, w ∈ wsX4_weigh := by decide +kernel
  have h1 : ∀ w ∈ wsX10, w ∈ wsX4_weigh := by decide +kernel
  have h2 : ∀ w ∈ wsX20, w ∈ wsX4_weigh := by decide +kernel
  refine lv_iload_n hx hb dX4_weigh_0 rfl (lv_at hl 1 rfl) ?_
  refine bx_goi hM (bx_runS (As := [.int p0]) (rest := []) E hM (bX4_isHook l D t A (bl_w t h a B Z) p0) 1 gX4_weigh_X4_isHook rfl rfl rfl (by decide +kernel) ⟨Nat.le_of_ble_eq_true rfl, Nat.le_of_ble_eq_true rfl⟩ rfl hl.1 rfl (Nat.le_of_ble_eq_true rfl) dX4_weigh_1 ⟨Nat.le_of_ble_eq_true rfl, Nat.le_of_ble_eq_true rfl⟩) (fun r u H locs hp hM => ?_)
  rcases hp with ⟨rfl, hp_1⟩ | ⟨rfl, hp_1⟩
  · have hM : bx_M D A s (bl_w t h a B Z) H locs := hM
    refine lv_if_ne (tgt := 9) hx hb dX4_weigh_4 (by decide) (fun _ => ?_) (fun c => absurd c (by decide))
    refine lv_aload_n hx hb dX4_weigh_9 rfl (lv_at hl 0 rfl) ?_
    refine bl_get E hin hM 0 (by decide) (by decide +kernel) rfl dX4_weigh_10 ?_
    refine lv_iload_n hx hb dX4_weigh_13 rfl (lv_at hl 1 rfl) ?_
    refine bl_hk E hM (vp_inB hp_1 (by decide)) dX4_weigh_14 (fun hq_14 => ?_) (fun y_14 hq_14 => ?_)
    · have hq_14 := hq_14
      refine lv_astore_nN (lv' := [(2, .null), (0, .ref h), (1, .int p0)]) hx hb dX4_weigh_15 rfl hl (by decide) rfl (fun ls hl => ?_)
      refine lv_aload_nN hx hb dX4_weigh_16 rfl (lv_at hl 0 rfl) ?_
      refine lv_ifnonnullN hx hb dX4_weigh_17 ?_
      refine lv_aload_n hx hb dX4_weigh_20 rfl (lv_at hl 1 rfl) ?_
      refine lv_iconst (v := 1) hx hb dX4_weigh_21 (by decide) ?_
      refine bx_goi hM (bx_runV (As := [.int 1]) (rest := []) E hM (bX4_tell l D t A h a B Z 1) (bl_recv E hM) 1 gX4_weigh_X4_tell rfl rfl rfl (by decide +kernel) ⟨Nat.le_of_ble_eq_true rfl, Nat.le_of_ble_eq_true rfl⟩ rfl hl.1 rfl (Nat.le_of_ble_eq_true rfl) dX4_weigh_22 ⟨Nat.le_of_ble_eq_true rfl, Nat.le_of_ble_eq_true rfl⟩) (fun r u H locs hp hM => ?_)
      obtain ⟨rfl, rfl⟩ := hp
      have hM : bx_M D A s (bl_w t h a (bf_tell B 1) Z) H locs := hM
      refine lv_goto (tgt := 32) hx hb dX4_weigh_25 (by decide) ?_
      exact bx_reti E hr hlk hM (bf_tell B 1) rfl (by first | (simp [bf_weigh, hp_1, hq_14]; done) | (simp [bf_weigh, hp_1, hq_14]; rfl)) dX4_weigh_32
    · have hm_y_14 := hI.1 _ (vp_lt (vp_inB (n := 10) hp_1 (by decide))) y_14 hq_14
      refine lv_astore_n (lv' := [(2, .ref y_14), (0, .ref h), (1, .int p0)]) hx hb dX4_weigh_15 rfl hl (by decide) rfl (fun ls hl => ?_)
      refine lv_aload_n hx hb dX4_weigh_16 rfl (lv_at hl 0 rfl) ?_
      refine lv_ifnonnull (tgt := 28) hx hb dX4_weigh_17 (by decide) ?_
      refine lv_aload_n hx hb dX4_weigh_28 rfl (lv_at hl 0 rfl) ?_
      refine bl_gW E h0 h1 h2 hM hm_y_14 (by decide +kernel) (fun _ h9 => h9) dX4_weigh_29 ?_
      exact bx_reti E hr hlk hM B rfl (by first | (simp [bf_weigh, hp_1, hq_14]; done) | (simp [bf_weigh, hp_1, hq_14]; rfl)) dX4_weigh_32
  · have hM : bx_M D A s (bl_w t h a B Z) H locs := hM
    refine lv_if_ne (tgt := 9) hx hb dX4_weigh_4 (by decide) (fun c => absurd c (by decide)) (fun _ => ?_)
    refine lv_iconst (v := (-1)) hx hb dX4_weigh_7 (by decide) ?_
    exact bx_reti E hr hlk hM B rfl (by first | (simp [bf_weigh, hp_1]; done) | (simp [bf_weigh, hp_1]; rfl)) dX4_weigh_8

set_option maxHeartbeats 4000000 in
set_option maxRecDepth 100000 in
theorem bX4_ring (l : Launch) (D : va_G) (t : bx_T) (A : Nat → Prop) (h : Nat) (a : Nat → Nat) (B : bl_S) (Z : va_W) (p0 : Int32) (hI : bl_I B) : bx_Ci l yX4_ring wsX4_ring ({ frames := 4, cells := 0, slots := 0, locals := 86 }) D t A [.ref h, .int p0] (bl_w t h a B Z) (fun (r : Int32) (u : bl_S) => r = (bf_ring B p0).1 ∧ u = (bf_ring B p0).2) (fun u => bl_w t h a u Z) 0 0 := by
  refine bx_enter (cc := cX4_ring) (maxL := 3) (ret := some .int) (by decide) rfl (Nat.le_of_ble_eq_true rfl) ?_
  intro p e s m below meth c ls E hr hlk hnm hM hl
  have hl : lv_has ls 3 [(0, .ref h), (1, .int p0)] := hl
  have hx := E.1.1
  have hb := E.1.2.1
  have hin : ∀ w ∈ wsX40, w ∈ wsX4_ring := by decide +kernel
  have h0 : ∀ w ∈ wsX00, w ∈ wsX4_ring := by decide +kernel
  have h1 : ∀ w ∈ wsX10, w ∈ wsX4_ring := by decide +kernel
  have h2 : ∀ w ∈ wsX20, w ∈ wsX4_ring := by decide +kernel
  refine lv_iload_n hx hb dX4_ring_0 rfl (lv_at hl 1 rfl) ?_
  refine bx_goi hM (bx_runS (As := [.int p0]) (rest := []) E hM (bX4_isHook l D t A (bl_w t h a B Z) p0) 1 gX4_ring_X4_isHook rfl rfl rfl (by decide +kernel) ⟨Nat.le_of_ble_eq_true rfl, Nat.le_of_ble_eq_true rfl⟩ rfl hl.1 rfl (Nat.le_of_ble_eq_true rfl) dX4_ring_1 ⟨Nat.le_of_ble_eq_true rfl, Nat.le_of_ble_eq_true rfl⟩) (fun r u H locs hp hM => ?_)
  rcases hp with ⟨rfl, hp_1⟩ | ⟨rfl, hp_1⟩
  · have hM : bx_M D A s (bl_w t h a B Z) H locs := hM
    refine lv_if_ne (tgt := 9) hx hb dX4_ring_4 (by decide) (fun _ => ?_) (fun c => absurd c (by decide))
    refine lv_aload_n hx hb dX4_ring_9 rfl (lv_at hl 0 rfl) ?_
    refine bl_get E hin hM 0 (by decide) (by decide +kernel) rfl dX4_ring_10 ?_
    refine lv_iload_n hx hb dX4_ring_13 rfl (lv_at hl 1 rfl) ?_
    refine bl_hk E hM (vp_inB hp_1 (by decide)) dX4_ring_14 (fun hq_14 => ?_) (fun y_14 hq_14 => ?_)
    · have hq_14 := hq_14
      refine bx_goq hM (bx_runS (As := [.null]) (rest := []) E hM (bX4_bellOfN l D t A h a B Z) 1 gX4_ring_X4_bellOf rfl rfl rfl (by decide +kernel) ⟨Nat.le_of_ble_eq_true rfl, Nat.le_of_ble_eq_true rfl⟩ rfl hl.1 rfl (Nat.le_of_ble_eq_true rfl) dX4_ring_15 ⟨Nat.le_of_ble_eq_true rfl, Nat.le_of_ble_eq_true rfl⟩) (fun r u H locs hp hM => ?_)
      subst hp
      have hM : bx_M D A s (bl_w t h a B Z) H locs := hM
      refine lv_astore_nN (lv' := [(2, .null), (0, .ref h), (1, .int p0)]) hx hb dX4_ring_18 rfl hl (by decide) rfl (fun ls hl => ?_)
      refine lv_aload_nN hx hb dX4_ring_19 rfl (lv_at hl 0 rfl) ?_
      refine lv_ifnonnullN hx hb dX4_ring_20 ?_
      refine lv_aload_n hx hb dX4_ring_23 rfl (lv_at hl 1 rfl) ?_
      refine lv_aload_n hx hb dX4_ring_24 rfl (lv_at hl 1 rfl) ?_
      refine bl_get E hin hM 0 (by decide) (by decide +kernel) rfl dX4_ring_25 ?_
      refine lv_iload_n hx hb dX4_ring_28 rfl (lv_at hl 2 rfl) ?_
      refine bl_hk E hM (vp_inB hp_1 (by decide)) dX4_ring_29 (fun _ => ?_) (fun y2 hy2 => absurd (hq_14.symm.trans hy2) (by simp))
      refine bx_goi hM (bx_runV (As := [.null]) (rest := []) E hM (bX4_tellWhyNotN l D t A h a B Z) (bl_recv E hM) 1 gX4_ring_X4_tellWhyNot rfl rfl rfl (by decide +kernel) ⟨Nat.le_of_ble_eq_true rfl, Nat.le_of_ble_eq_true rfl⟩ rfl hl.1 rfl (Nat.le_of_ble_eq_true rfl) dX4_ring_30 ⟨Nat.le_of_ble_eq_true rfl, Nat.le_of_ble_eq_true rfl⟩) (fun r u H locs hp hM => ?_)
      obtain ⟨rfl, rfl⟩ := hp
      have hM : bx_M D A s (bl_w t h a (bf_tell B 1) Z) H locs := hM
      refine lv_goto (tgt := 41) hx hb dX4_ring_33 (by decide) ?_
      exact bx_reti E hr hlk hM (bf_tell B 1) rfl (by first | (simp [bf_ring, hp_1, hq_14]; done) | (simp [bf_ring, hp_1, hq_14]; rfl)) dX4_ring_41
    · have hm_y_14 := hI.1 _ (vp_lt (vp_inB (n := 10) hp_1 (by decide))) y_14 hq_14
      refine bx_goq hM (bx_runS (As := [.ref y_14]) (rest := []) E hM (bX4_bellOfS l D t A h a B Z y_14 hm_y_14) 1 gX4_ring_X4_bellOf rfl rfl rfl (by decide +kernel) ⟨Nat.le_of_ble_eq_true rfl, Nat.le_of_ble_eq_true rfl⟩ rfl hl.1 rfl (Nat.le_of_ble_eq_true rfl) dX4_ring_15 ⟨Nat.le_of_ble_eq_true rfl, Nat.le_of_ble_eq_true rfl⟩) (fun r u H locs hp hM => ?_)
      rcases hp with ⟨rfl, hk_15⟩ | ⟨rfl, hk_15⟩
      · have hM : bx_M D A s (bl_w t h a B Z) H locs := hM
        refine lv_astore_n (lv' := [(2, .ref y_14), (0, .ref h), (1, .int p0)]) hx hb dX4_ring_18 rfl hl (by decide) rfl (fun ls hl => ?_)
        refine lv_aload_n hx hb dX4_ring_19 rfl (lv_at hl 0 rfl) ?_
        refine lv_ifnonnull (tgt := 36) hx hb dX4_ring_20 (by decide) ?_
        refine lv_aload_n hx hb dX4_ring_36 rfl (lv_at hl 1 rfl) ?_
        refine lv_aload_n hx hb dX4_ring_37 rfl (lv_at hl 0 rfl) ?_
        refine bx_goi hM (bx_runV (As := [.ref y_14]) (rest := []) E hM (bX4_sound l D t A h a B Z y_14 hI hm_y_14 hk_15) (bl_recv E hM) 1 gX4_ring_X4_sound rfl rfl rfl (by decide +kernel) ⟨Nat.le_of_ble_eq_true rfl, Nat.le_of_ble_eq_true rfl⟩ rfl hl.1 rfl (Nat.le_of_ble_eq_true rfl) dX4_ring_38 ⟨Nat.le_of_ble_eq_true rfl, Nat.le_of_ble_eq_true rfl⟩) (fun r u H locs hp hM => ?_)
        obtain ⟨rfl, rfl⟩ := hp
        have hM : bx_M D A s (bl_w t h a ((bf_sound B y_14).2) Z) H locs := hM
        exact bx_reti E hr hlk hM ((bf_sound B y_14).2) rfl (by first | (simp [bf_ring, hp_1, hq_14, hk_15]; done) | (simp [bf_ring, hp_1, hq_14, hk_15]; rfl)) dX4_ring_41
      · have hM : bx_M D A s (bl_w t h a B Z) H locs := hM
        refine lv_astore_nN (lv' := [(2, .null), (0, .ref h), (1, .int p0)]) hx hb dX4_ring_18 rfl hl (by decide) rfl (fun ls hl => ?_)
        refine lv_aload_nN hx hb dX4_ring_19 rfl (lv_at hl 0 rfl) ?_
        refine lv_ifnonnullN hx hb dX4_ring_20 ?_
        refine lv_aload_n hx hb dX4_ring_23 rfl (lv_at hl 1 rfl) ?_
        refine lv_aload_n hx hb dX4_ring_24 rfl (lv_at hl 1 rfl) ?_
        refine bl_get E hin hM 0 (by decide) (by decide +kernel) rfl dX4_ring_25 ?_
        refine lv_iload_n hx hb dX4_ring_28 rfl (lv_at hl 2 rfl) ?_
        refine bl_hk E hM (vp_inB hp_1 (by decide)) dX4_ring_29 (fun hn => absurd (hq_14.symm.trans hn) (by simp)) (fun y2 hy2 => ?_)
        obtain rfl := Option.some.inj (hq_14.symm.trans hy2)
        refine bx_goi hM (bx_runV (As := [.ref y_14]) (rest := []) E hM (bX4_tellWhyNotS l D t A h a B Z y_14) (bl_recv E hM) 1 gX4_ring_X4_tellWhyNot rfl rfl rfl (by decide +kernel) ⟨Nat.le_of_ble_eq_true rfl, Nat.le_of_ble_eq_true rfl⟩ rfl hl.1 rfl (Nat.le_of_ble_eq_true rfl) dX4_ring_30 ⟨Nat.le_of_ble_eq_true rfl, Nat.le_of_ble_eq_true rfl⟩) (fun r u H locs hp hM => ?_)
        obtain ⟨rfl, rfl⟩ := hp
        have hM : bx_M D A s (bl_w t h a (bf_tell B 2) Z) H locs := hM
        refine lv_goto (tgt := 41) hx hb dX4_ring_33 (by decide) ?_
        exact bx_reti E hr hlk hM (bf_tell B 2) rfl (by first | (simp [bf_ring, hp_1, hq_14, hk_15]; done) | (simp [bf_ring, hp_1, hq_14, hk_15]; rfl)) dX4_ring_41
  · have hM : bx_M D A s (bl_w t h a B Z) H locs := hM
    refine lv_if_ne (tgt := 9) hx hb dX4_ring_4 (by decide) (fun c => absurd c (by decide)) (fun _ => ?_)
    refine lv_iconst (v := (-1)) hx hb dX4_ring_7 (by decide) ?_
    exact bx_reti E hr hlk hM B rfl (by first | (simp [bf_ring, hp_1]; done) | (simp [bf_ring, hp_1]; rfl)) dX4_ring_8

set_option maxHeartbeats 4000000 in
set_option maxRecDepth 100000 in
theorem bX4_hum (l : Launch) (D : va_G) (t : bx_T) (A : Nat → Prop) (h : Nat) (a : Nat → Nat) (B : bl_S) (Z : va_W) (p0 : Int32) (hI : bl_I B) : bx_Ci l yX4_hum wsX4_hum ({ frames := 3, cells := 0, slots := 0, locals := 64 }) D t A [.ref h, .int p0] (bl_w t h a B Z) (fun (r : Int32) (u : bl_S) => r = (bf_hum B p0).1 ∧ u = (bf_hum B p0).2) (fun u => bl_w t h a u Z) 0 0 := by
  refine bx_enter (cc := cX4_hum) (maxL := 3) (ret := some .int) (by decide) rfl (Nat.le_of_ble_eq_true rfl) ?_
  intro p e s m below meth c ls E hr hlk hnm hM hl
  have hl : lv_has ls 3 [(0, .ref h), (1, .int p0)] := hl
  have hx := E.1.1
  have hb := E.1.2.1
  have hin : ∀ w ∈ wsX40, w ∈ wsX4_hum := by decide +kernel
  have h2 : ∀ w ∈ wsX20, w ∈ wsX4_hum := by decide +kernel
  refine lv_iload_n hx hb dX4_hum_0 rfl (lv_at hl 1 rfl) ?_
  refine bx_goi hM (bx_runS (As := [.int p0]) (rest := []) E hM (bX4_isHook l D t A (bl_w t h a B Z) p0) 1 gX4_hum_X4_isHook rfl rfl rfl (by decide +kernel) ⟨Nat.le_of_ble_eq_true rfl, Nat.le_of_ble_eq_true rfl⟩ rfl hl.1 rfl (Nat.le_of_ble_eq_true rfl) dX4_hum_1 ⟨Nat.le_of_ble_eq_true rfl, Nat.le_of_ble_eq_true rfl⟩) (fun r u H locs hp hM => ?_)
  rcases hp with ⟨rfl, hp_1⟩ | ⟨rfl, hp_1⟩
  · have hM : bx_M D A s (bl_w t h a B Z) H locs := hM
    refine lv_if_ne (tgt := 9) hx hb dX4_hum_4 (by decide) (fun _ => ?_) (fun c => absurd c (by decide))
    refine lv_aload_n hx hb dX4_hum_9 rfl (lv_at hl 0 rfl) ?_
    refine bl_get E hin hM 0 (by decide) (by decide +kernel) rfl dX4_hum_10 ?_
    refine lv_iload_n hx hb dX4_hum_13 rfl (lv_at hl 1 rfl) ?_
    refine bl_hk E hM (vp_inB hp_1 (by decide)) dX4_hum_14 (fun hq_14 => ?_) (fun y_14 hq_14 => ?_)
    · have hq_14 := hq_14
      refine bx_goq hM (bx_runS (As := [.null]) (rest := []) E hM (bX4_greatBellOfN l D t A h a B Z) 1 gX4_hum_X4_greatBellOf rfl rfl rfl (by decide +kernel) ⟨Nat.le_of_ble_eq_true rfl, Nat.le_of_ble_eq_true rfl⟩ rfl hl.1 rfl (Nat.le_of_ble_eq_true rfl) dX4_hum_15 ⟨Nat.le_of_ble_eq_true rfl, Nat.le_of_ble_eq_true rfl⟩) (fun r u H locs hp hM => ?_)
      subst hp
      have hM : bx_M D A s (bl_w t h a B Z) H locs := hM
      refine lv_astore_nN (lv' := [(2, .null), (0, .ref h), (1, .int p0)]) hx hb dX4_hum_18 rfl hl (by decide) rfl (fun ls hl => ?_)
      refine lv_aload_nN hx hb dX4_hum_19 rfl (lv_at hl 0 rfl) ?_
      refine lv_ifnonnullN hx hb dX4_hum_20 ?_
      refine lv_aload_n hx hb dX4_hum_23 rfl (lv_at hl 1 rfl) ?_
      refine lv_aload_n hx hb dX4_hum_24 rfl (lv_at hl 1 rfl) ?_
      refine bl_get E hin hM 0 (by decide) (by decide +kernel) rfl dX4_hum_25 ?_
      refine lv_iload_n hx hb dX4_hum_28 rfl (lv_at hl 2 rfl) ?_
      refine bl_hk E hM (vp_inB hp_1 (by decide)) dX4_hum_29 (fun _ => ?_) (fun y2 hy2 => absurd (hq_14.symm.trans hy2) (by simp))
      refine bx_goi hM (bx_runV (As := [.null]) (rest := []) E hM (bX4_tellWhyNotN l D t A h a B Z) (bl_recv E hM) 1 gX4_hum_X4_tellWhyNot rfl rfl rfl (by decide +kernel) ⟨Nat.le_of_ble_eq_true rfl, Nat.le_of_ble_eq_true rfl⟩ rfl hl.1 rfl (Nat.le_of_ble_eq_true rfl) dX4_hum_30 ⟨Nat.le_of_ble_eq_true rfl, Nat.le_of_ble_eq_true rfl⟩) (fun r u H locs hp hM => ?_)
      obtain ⟨rfl, rfl⟩ := hp
      have hM : bx_M D A s (bl_w t h a (bf_tell B 1) Z) H locs := hM
      refine lv_goto (tgt := 40) hx hb dX4_hum_33 (by decide) ?_
      exact bx_reti E hr hlk hM (bf_tell B 1) rfl (by first | (simp [bf_hum, hp_1, hq_14]; done) | (simp [bf_hum, hp_1, hq_14]; rfl)) dX4_hum_40
    · have hm_y_14 := hI.1 _ (vp_lt (vp_inB (n := 10) hp_1 (by decide))) y_14 hq_14
      refine bx_goq hM (bx_runS (As := [.ref y_14]) (rest := []) E hM (bX4_greatBellOfS l D t A h a B Z y_14 hm_y_14) 1 gX4_hum_X4_greatBellOf rfl rfl rfl (by decide +kernel) ⟨Nat.le_of_ble_eq_true rfl, Nat.le_of_ble_eq_true rfl⟩ rfl hl.1 rfl (Nat.le_of_ble_eq_true rfl) dX4_hum_15 ⟨Nat.le_of_ble_eq_true rfl, Nat.le_of_ble_eq_true rfl⟩) (fun r u H locs hp hM => ?_)
      rcases hp with ⟨rfl, hk_15⟩ | ⟨rfl, hk_15⟩
      · have hM : bx_M D A s (bl_w t h a B Z) H locs := hM
        refine lv_astore_n (lv' := [(2, .ref y_14), (0, .ref h), (1, .int p0)]) hx hb dX4_hum_18 rfl hl (by decide) rfl (fun ls hl => ?_)
        refine lv_aload_n hx hb dX4_hum_19 rfl (lv_at hl 0 rfl) ?_
        refine lv_ifnonnull (tgt := 36) hx hb dX4_hum_20 (by decide) ?_
        refine lv_aload_n hx hb dX4_hum_36 rfl (lv_at hl 0 rfl) ?_
        refine bl_gH E h2 hM hm_y_14 hk_15 (by decide +kernel) (fun _ h9 => h9) dX4_hum_37 ?_
        exact bx_reti E hr hlk hM B rfl (by first | (simp [bf_hum, hp_1, hq_14, hk_15]; done) | (simp [bf_hum, hp_1, hq_14, hk_15]; rfl)) dX4_hum_40
      · have hM : bx_M D A s (bl_w t h a B Z) H locs := hM
        refine lv_astore_nN (lv' := [(2, .null), (0, .ref h), (1, .int p0)]) hx hb dX4_hum_18 rfl hl (by decide) rfl (fun ls hl => ?_)
        refine lv_aload_nN hx hb dX4_hum_19 rfl (lv_at hl 0 rfl) ?_
        refine lv_ifnonnullN hx hb dX4_hum_20 ?_
        refine lv_aload_n hx hb dX4_hum_23 rfl (lv_at hl 1 rfl) ?_
        refine lv_aload_n hx hb dX4_hum_24 rfl (lv_at hl 1 rfl) ?_
        refine bl_get E hin hM 0 (by decide) (by decide +kernel) rfl dX4_hum_25 ?_
        refine lv_iload_n hx hb dX4_hum_28 rfl (lv_at hl 2 rfl) ?_
        refine bl_hk E hM (vp_inB hp_1 (by decide)) dX4_hum_29 (fun hn => absurd (hq_14.symm.trans hn) (by simp)) (fun y2 hy2 => ?_)
        obtain rfl := Option.some.inj (hq_14.symm.trans hy2)
        refine bx_goi hM (bx_runV (As := [.ref y_14]) (rest := []) E hM (bX4_tellWhyNotS l D t A h a B Z y_14) (bl_recv E hM) 1 gX4_hum_X4_tellWhyNot rfl rfl rfl (by decide +kernel) ⟨Nat.le_of_ble_eq_true rfl, Nat.le_of_ble_eq_true rfl⟩ rfl hl.1 rfl (Nat.le_of_ble_eq_true rfl) dX4_hum_30 ⟨Nat.le_of_ble_eq_true rfl, Nat.le_of_ble_eq_true rfl⟩) (fun r u H locs hp hM => ?_)
        obtain ⟨rfl, rfl⟩ := hp
        have hM : bx_M D A s (bl_w t h a (bf_tell B 2) Z) H locs := hM
        refine lv_goto (tgt := 40) hx hb dX4_hum_33 (by decide) ?_
        exact bx_reti E hr hlk hM (bf_tell B 2) rfl (by first | (simp [bf_hum, hp_1, hq_14, hk_15]; done) | (simp [bf_hum, hp_1, hq_14, hk_15]; rfl)) dX4_hum_40
  · have hM : bx_M D A s (bl_w t h a B Z) H locs := hM
    refine lv_if_ne (tgt := 9) hx hb dX4_hum_4 (by decide) (fun c => absurd c (by decide)) (fun _ => ?_)
    refine lv_iconst (v := (-1)) hx hb dX4_hum_7 (by decide) ?_
    exact bx_reti E hr hlk hM B rfl (by first | (simp [bf_hum, hp_1]; done) | (simp [bf_hum, hp_1]; rfl)) dX4_hum_8

set_option maxHeartbeats 4000000 in
set_option maxRecDepth 100000 in
theorem bX4_tune (l : Launch) (D : va_G) (t : bx_T) (A : Nat → Prop) (h : Nat) (a : Nat → Nat) (B : bl_S) (Z : va_W) (p0 : Int32) (p1 : Int32) (hI : bl_I B) : bx_Ci l yX4_tune wsX4_tune ({ frames := 3, cells := 0, slots := 0, locals := 64 }) D t A [.ref h, .int p0, .int p1] (bl_w t h a B Z) (fun (r : Int32) (u : bl_S) => r = (bf_tune B p0 p1).1 ∧ u = (bf_tune B p0 p1).2) (fun u => bl_w t h a u Z) 0 0 := by
  refine bx_enter (cc := cX4_tune) (maxL := 4) (ret := some .int) (by decide) rfl (Nat.le_of_ble_eq_true rfl) ?_
  intro p e s m below meth c ls E hr hlk hnm hM hl
  have hl : lv_has ls 4 [(0, .ref h), (1, .int p0), (2, .int p1)] := hl
  have hx := E.1.1
  have hb := E.1.2.1
  have hin : ∀ w ∈ wsX40, w ∈ wsX4_tune := by decide +kernel
  have h2 : ∀ w ∈ wsX20, w ∈ wsX4_tune := by decide +kernel
  refine lv_iload_n hx hb dX4_tune_0 rfl (lv_at hl 1 rfl) ?_
  refine bx_goi hM (bx_runS (As := [.int p0]) (rest := []) E hM (bX4_isHook l D t A (bl_w t h a B Z) p0) 1 gX4_tune_X4_isHook rfl rfl rfl (by decide +kernel) ⟨Nat.le_of_ble_eq_true rfl, Nat.le_of_ble_eq_true rfl⟩ rfl hl.1 rfl (Nat.le_of_ble_eq_true rfl) dX4_tune_1 ⟨Nat.le_of_ble_eq_true rfl, Nat.le_of_ble_eq_true rfl⟩) (fun r u H locs hp hM => ?_)
  rcases hp with ⟨rfl, hp_1⟩ | ⟨rfl, hp_1⟩
  · have hM : bx_M D A s (bl_w t h a B Z) H locs := hM
    refine lv_if_eq (tgt := 18) hx hb dX4_tune_4 (by decide) (fun c => absurd c (by decide)) (fun _ => ?_)
    refine lv_iload_n hx hb dX4_tune_7 rfl (lv_at hl 2 rfl) ?_
    refine lv_iconst (v := 0) hx hb dX4_tune_8 (by decide) ?_
    refine lv_sipush (v := 1000) hx hb dX4_tune_9 (by decide) ?_
    refine bx_goi hM (bx_runS (As := [.int p1, .int 0, .int 1000]) (rest := []) E hM (bX4_isWithin l D t A (bl_w t h a B Z) p1 0 1000) 3 gX4_tune_X4_isWithin rfl rfl rfl (by decide +kernel) ⟨Nat.le_of_ble_eq_true rfl, Nat.le_of_ble_eq_true rfl⟩ rfl hl.1 rfl (Nat.le_of_ble_eq_true rfl) dX4_tune_12 ⟨Nat.le_of_ble_eq_true rfl, Nat.le_of_ble_eq_true rfl⟩) (fun r u H locs hp hM => ?_)
    rcases hp with ⟨rfl, hp_12⟩ | ⟨rfl, hp_12⟩
    · have hM : bx_M D A s (bl_w t h a B Z) H locs := hM
      refine lv_if_ne (tgt := 20) hx hb dX4_tune_15 (by decide) (fun _ => ?_) (fun c => absurd c (by decide))
      refine lv_aload_n hx hb dX4_tune_20 rfl (lv_at hl 0 rfl) ?_
      refine bl_get E hin hM 0 (by decide) (by decide +kernel) rfl dX4_tune_21 ?_
      refine lv_iload_n hx hb dX4_tune_24 rfl (lv_at hl 1 rfl) ?_
      refine bl_hk E hM (vp_inB hp_1 (by decide)) dX4_tune_25 (fun hq_25 => ?_) (fun y_25 hq_25 => ?_)
      · have hq_25 := hq_25
        refine bx_goq hM (bx_runS (As := [.null]) (rest := []) E hM (bX4_greatBellOfN l D t A h a B Z) 1 gX4_tune_X4_greatBellOf rfl rfl rfl (by decide +kernel) ⟨Nat.le_of_ble_eq_true rfl, Nat.le_of_ble_eq_true rfl⟩ rfl hl.1 rfl (Nat.le_of_ble_eq_true rfl) dX4_tune_26 ⟨Nat.le_of_ble_eq_true rfl, Nat.le_of_ble_eq_true rfl⟩) (fun r u H locs hp hM => ?_)
        subst hp
        have hM : bx_M D A s (bl_w t h a B Z) H locs := hM
        refine lv_astore_nN (lv' := [(3, .null), (0, .ref h), (1, .int p0), (2, .int p1)]) hx hb dX4_tune_29 rfl hl (by decide) rfl (fun ls hl => ?_)
        refine lv_aload_nN hx hb dX4_tune_30 rfl (lv_at hl 0 rfl) ?_
        refine lv_ifnonnullN hx hb dX4_tune_31 ?_
        refine lv_aload_n hx hb dX4_tune_34 rfl (lv_at hl 1 rfl) ?_
        refine lv_aload_n hx hb dX4_tune_35 rfl (lv_at hl 1 rfl) ?_
        refine bl_get E hin hM 0 (by decide) (by decide +kernel) rfl dX4_tune_36 ?_
        refine lv_iload_n hx hb dX4_tune_39 rfl (lv_at hl 2 rfl) ?_
        refine bl_hk E hM (vp_inB hp_1 (by decide)) dX4_tune_40 (fun _ => ?_) (fun y2 hy2 => absurd (hq_25.symm.trans hy2) (by simp))
        refine bx_goi hM (bx_runV (As := [.null]) (rest := []) E hM (bX4_tellWhyNotN l D t A h a B Z) (bl_recv E hM) 1 gX4_tune_X4_tellWhyNot rfl rfl rfl (by decide +kernel) ⟨Nat.le_of_ble_eq_true rfl, Nat.le_of_ble_eq_true rfl⟩ rfl hl.1 rfl (Nat.le_of_ble_eq_true rfl) dX4_tune_41 ⟨Nat.le_of_ble_eq_true rfl, Nat.le_of_ble_eq_true rfl⟩) (fun r u H locs hp hM => ?_)
        obtain ⟨rfl, rfl⟩ := hp
        have hM : bx_M D A s (bl_w t h a (bf_tell B 1) Z) H locs := hM
        exact bx_reti E hr hlk hM (bf_tell B 1) rfl (by first | (simp [bf_tune, hp_1, hp_12, hq_25]; done) | (simp [bf_tune, hp_1, hp_12, hq_25]; rfl)) dX4_tune_44
      · have hm_y_25 := hI.1 _ (vp_lt (vp_inB (n := 10) hp_1 (by decide))) y_25 hq_25
        refine bx_goq hM (bx_runS (As := [.ref y_25]) (rest := []) E hM (bX4_greatBellOfS l D t A h a B Z y_25 hm_y_25) 1 gX4_tune_X4_greatBellOf rfl rfl rfl (by decide +kernel) ⟨Nat.le_of_ble_eq_true rfl, Nat.le_of_ble_eq_true rfl⟩ rfl hl.1 rfl (Nat.le_of_ble_eq_true rfl) dX4_tune_26 ⟨Nat.le_of_ble_eq_true rfl, Nat.le_of_ble_eq_true rfl⟩) (fun r u H locs hp hM => ?_)
        rcases hp with ⟨rfl, hk_26⟩ | ⟨rfl, hk_26⟩
        · have hM : bx_M D A s (bl_w t h a B Z) H locs := hM
          refine lv_astore_n (lv' := [(3, .ref y_25), (0, .ref h), (1, .int p0), (2, .int p1)]) hx hb dX4_tune_29 rfl hl (by decide) rfl (fun ls hl => ?_)
          refine lv_aload_n hx hb dX4_tune_30 rfl (lv_at hl 0 rfl) ?_
          refine lv_ifnonnull (tgt := 45) hx hb dX4_tune_31 (by decide) ?_
          refine lv_aload_n hx hb dX4_tune_45 rfl (lv_at hl 0 rfl) ?_
          refine lv_iload_n hx hb dX4_tune_46 rfl (lv_at hl 3 rfl) ?_
          refine bl_pH E h2 hM hm_y_25 hk_26 p1 (by decide +kernel) (fun _ h9 => h9) dX4_tune_47 (fun H locs hM => ?_)
          have hM : bx_M D A s (bl_w t h a (bl_v B 3 y_25 p1) Z) H locs := hM
          refine lv_iload_n hx hb dX4_tune_50 rfl (lv_at hl 3 rfl) ?_
          exact bx_reti E hr hlk hM (bl_v B 3 y_25 p1) rfl (by first | (simp [bf_tune, hp_1, hp_12, hq_25, hk_26]; done) | (simp [bf_tune, hp_1, hp_12, hq_25, hk_26]; rfl)) dX4_tune_51
        · have hM : bx_M D A s (bl_w t h a B Z) H locs := hM
          refine lv_astore_nN (lv' := [(3, .null), (0, .ref h), (1, .int p0), (2, .int p1)]) hx hb dX4_tune_29 rfl hl (by decide) rfl (fun ls hl => ?_)
          refine lv_aload_nN hx hb dX4_tune_30 rfl (lv_at hl 0 rfl) ?_
          refine lv_ifnonnullN hx hb dX4_tune_31 ?_
          refine lv_aload_n hx hb dX4_tune_34 rfl (lv_at hl 1 rfl) ?_
          refine lv_aload_n hx hb dX4_tune_35 rfl (lv_at hl 1 rfl) ?_
          refine bl_get E hin hM 0 (by decide) (by decide +kernel) rfl dX4_tune_36 ?_
          refine lv_iload_n hx hb dX4_tune_39 rfl (lv_at hl 2 rfl) ?_
          refine bl_hk E hM (vp_inB hp_1 (by decide)) dX4_tune_40 (fun hn => absurd (hq_25.symm.trans hn) (by simp)) (fun y2 hy2 => ?_)
          obtain rfl := Option.some.inj (hq_25.symm.trans hy2)
          refine bx_goi hM (bx_runV (As := [.ref y_25]) (rest := []) E hM (bX4_tellWhyNotS l D t A h a B Z y_25) (bl_recv E hM) 1 gX4_tune_X4_tellWhyNot rfl rfl rfl (by decide +kernel) ⟨Nat.le_of_ble_eq_true rfl, Nat.le_of_ble_eq_true rfl⟩ rfl hl.1 rfl (Nat.le_of_ble_eq_true rfl) dX4_tune_41 ⟨Nat.le_of_ble_eq_true rfl, Nat.le_of_ble_eq_true rfl⟩) (fun r u H locs hp hM => ?_)
          obtain ⟨rfl, rfl⟩ := hp
          have hM : bx_M D A s (bl_w t h a (bf_tell B 2) Z) H locs := hM
          exact bx_reti E hr hlk hM (bf_tell B 2) rfl (by first | (simp [bf_tune, hp_1, hp_12, hq_25, hk_26]; done) | (simp [bf_tune, hp_1, hp_12, hq_25, hk_26]; rfl)) dX4_tune_44
    · have hM : bx_M D A s (bl_w t h a B Z) H locs := hM
      refine lv_if_ne (tgt := 20) hx hb dX4_tune_15 (by decide) (fun c => absurd c (by decide)) (fun _ => ?_)
      refine lv_iconst (v := (-1)) hx hb dX4_tune_18 (by decide) ?_
      exact bx_reti E hr hlk hM B rfl (by first | (simp [bf_tune, hp_1, hp_12]; done) | (simp [bf_tune, hp_1, hp_12]; rfl)) dX4_tune_19
  · have hM : bx_M D A s (bl_w t h a B Z) H locs := hM
    refine lv_if_eq (tgt := 18) hx hb dX4_tune_4 (by decide) (fun _ => ?_) (fun c => absurd c (by decide))
    refine lv_iconst (v := (-1)) hx hb dX4_tune_18 (by decide) ?_
    exact bx_reti E hr hlk hM B rfl (by first | (simp [bf_tune, hp_1]; done) | (simp [bf_tune, hp_1]; rfl)) dX4_tune_19

set_option maxHeartbeats 4000000 in
set_option maxRecDepth 100000 in
theorem bX4_fit (l : Launch) (D : va_G) (t : bx_T) (A : Nat → Prop) (h : Nat) (a : Nat → Nat) (B : bl_S) (Z : va_W) (p0 : Int32) (p1 : Int32) (hI : bl_I B) : bx_Ci l yX4_fit wsX4_fit ({ frames := 2, cells := 0, slots := 0, locals := 43 }) D t A [.ref h, .int p0, .int p1] (bl_w t h a B Z) (fun (r : Int32) (u : bl_S) => r = (bf_fit B p0 p1).1 ∧ u = (bf_fit B p0 p1).2) (fun u => bl_w t h a u Z) 0 0 := by
  refine bx_enter (cc := cX4_fit) (maxL := 4) (ret := some .int) (by decide) rfl (Nat.le_of_ble_eq_true rfl) ?_
  intro p e s m below meth c ls E hr hlk hnm hM hl
  have hl : lv_has ls 4 [(0, .ref h), (1, .int p0), (2, .int p1)] := hl
  have hx := E.1.1
  have hb := E.1.2.1
  have hin : ∀ w ∈ wsX40, w ∈ wsX4_fit := by decide +kernel
  have h0 : ∀ w ∈ wsX00, w ∈ wsX4_fit := by decide +kernel
  have h2 : ∀ w ∈ wsX20, w ∈ wsX4_fit := by decide +kernel
  refine lv_iload_n hx hb dX4_fit_0 rfl (lv_at hl 1 rfl) ?_
  refine bx_goi hM (bx_runS (As := [.int p0]) (rest := []) E hM (bX4_isHook l D t A (bl_w t h a B Z) p0) 1 gX4_fit_X4_isHook rfl rfl rfl (by decide +kernel) ⟨Nat.le_of_ble_eq_true rfl, Nat.le_of_ble_eq_true rfl⟩ rfl hl.1 rfl (Nat.le_of_ble_eq_true rfl) dX4_fit_1 ⟨Nat.le_of_ble_eq_true rfl, Nat.le_of_ble_eq_true rfl⟩) (fun r u H locs hp hM => ?_)
  rcases hp with ⟨rfl, hp_1⟩ | ⟨rfl, hp_1⟩
  · have hM : bx_M D A s (bl_w t h a B Z) H locs := hM
    refine lv_if_eq (tgt := 14) hx hb dX4_fit_4 (by decide) (fun c => absurd c (by decide)) (fun _ => ?_)
    refine lv_iload_n hx hb dX4_fit_7 rfl (lv_at hl 2 rfl) ?_
    refine bx_goi hM (bx_runS (As := [.int p1]) (rest := []) E hM (bX4_isHook l D t A (bl_w t h a B Z) p1) 1 gX4_fit_X4_isHook rfl rfl rfl (by decide +kernel) ⟨Nat.le_of_ble_eq_true rfl, Nat.le_of_ble_eq_true rfl⟩ rfl hl.1 rfl (Nat.le_of_ble_eq_true rfl) dX4_fit_8 ⟨Nat.le_of_ble_eq_true rfl, Nat.le_of_ble_eq_true rfl⟩) (fun r u H locs hp hM => ?_)
    rcases hp with ⟨rfl, hp_8⟩ | ⟨rfl, hp_8⟩
    · have hM : bx_M D A s (bl_w t h a B Z) H locs := hM
      refine lv_if_ne (tgt := 16) hx hb dX4_fit_11 (by decide) (fun _ => ?_) (fun c => absurd c (by decide))
      refine lv_aload_n hx hb dX4_fit_16 rfl (lv_at hl 0 rfl) ?_
      refine bl_get E hin hM 0 (by decide) (by decide +kernel) rfl dX4_fit_17 ?_
      refine lv_iload_n hx hb dX4_fit_20 rfl (lv_at hl 1 rfl) ?_
      refine bl_hk E hM (vp_inB hp_1 (by decide)) dX4_fit_21 (fun hq_21 => ?_) (fun y_21 hq_21 => ?_)
      · have hq_21 := hq_21
        refine lv_instN hx hb dX4_fit_22 ?_
        refine lv_if_ne (tgt := 40) hx hb dX4_fit_25 (by decide) (fun c => absurd c (by decide)) (fun _ => ?_)
        refine lv_aload_n hx hb dX4_fit_28 rfl (lv_at hl 0 rfl) ?_
        refine bl_get E hin hM 0 (by decide) (by decide +kernel) rfl dX4_fit_29 ?_
        refine lv_iload_n hx hb dX4_fit_32 rfl (lv_at hl 2 rfl) ?_
        refine bl_hk E hM (vp_inB hp_8 (by decide)) dX4_fit_33 (fun hq_33 => ?_) (fun y_33 hq_33 => ?_)
        · have hq_33 := hq_33
          refine lv_instN hx hb dX4_fit_34 ?_
          refine lv_if_eq (tgt := 46) hx hb dX4_fit_37 (by decide) (fun _ => ?_) (fun c => absurd c (by decide))
          refine lv_aload_n hx hb dX4_fit_46 rfl (lv_at hl 0 rfl) ?_
          refine bl_get E hin hM 0 (by decide) (by decide +kernel) rfl dX4_fit_47 ?_
          refine lv_iload_n hx hb dX4_fit_50 rfl (lv_at hl 1 rfl) ?_
          refine bl_hk E hM (vp_inB hp_1 (by decide)) dX4_fit_51 (fun _ => ?_) (fun y2 hy2 => absurd (hq_21.symm.trans hy2) (by simp))
          refine bx_goq hM (bx_runS (As := [.null]) (rest := []) E hM (bX4_bellOfN l D t A h a B Z) 1 gX4_fit_X4_bellOf rfl rfl rfl (by decide +kernel) ⟨Nat.le_of_ble_eq_true rfl, Nat.le_of_ble_eq_true rfl⟩ rfl hl.1 rfl (Nat.le_of_ble_eq_true rfl) dX4_fit_52 ⟨Nat.le_of_ble_eq_true rfl, Nat.le_of_ble_eq_true rfl⟩) (fun r u H locs hp hM => ?_)
          subst hp
          have hM : bx_M D A s (bl_w t h a B Z) H locs := hM
          refine lv_astore_nN (lv' := [(3, .null), (0, .ref h), (1, .int p0), (2, .int p1)]) hx hb dX4_fit_55 rfl hl (by decide) rfl (fun ls hl => ?_)
          refine lv_aload_nN hx hb dX4_fit_56 rfl (lv_at hl 0 rfl) ?_
          refine lv_ifnonnullN hx hb dX4_fit_57 ?_
          refine lv_aload_n hx hb dX4_fit_60 rfl (lv_at hl 1 rfl) ?_
          refine lv_iconst (v := 1) hx hb dX4_fit_61 (by decide) ?_
          refine bx_goi hM (bx_runV (As := [.int 1]) (rest := []) E hM (bX4_tell l D t A h a B Z 1) (bl_recv E hM) 1 gX4_fit_X4_tell rfl rfl rfl (by decide +kernel) ⟨Nat.le_of_ble_eq_true rfl, Nat.le_of_ble_eq_true rfl⟩ rfl hl.1 rfl (Nat.le_of_ble_eq_true rfl) dX4_fit_62 ⟨Nat.le_of_ble_eq_true rfl, Nat.le_of_ble_eq_true rfl⟩) (fun r u H locs hp hM => ?_)
          obtain ⟨rfl, rfl⟩ := hp
          have hM : bx_M D A s (bl_w t h a (bf_tell B 1) Z) H locs := hM
          exact bx_reti E hr hlk hM (bf_tell B 1) rfl (by first | (simp [bf_fit, hp_1, hp_8, hq_21, hq_33]; done) | (simp [bf_fit, hp_1, hp_8, hq_21, hq_33]; rfl)) dX4_fit_65
        · have hm_y_33 := hI.1 _ (vp_lt (vp_inB (n := 10) hp_8 (by decide))) y_33 hq_33
          refine bl_inB E hM hm_y_33 (by decide +kernel) dX4_fit_34 (fun hk_34 => ?_) (fun hk_34 => ?_)
          · have hk_34 := hk_34
            refine lv_if_eq (tgt := 46) hx hb dX4_fit_37 (by decide) (fun c => absurd c (by decide)) (fun _ => ?_)
            refine lv_aload_n hx hb dX4_fit_40 rfl (lv_at hl 0 rfl) ?_
            refine lv_iconst (v := 2) hx hb dX4_fit_41 (by decide) ?_
            refine bx_goi hM (bx_runV (As := [.int 2]) (rest := []) E hM (bX4_tell l D t A h a B Z 2) (bl_recv E hM) 1 gX4_fit_X4_tell rfl rfl rfl (by decide +kernel) ⟨Nat.le_of_ble_eq_true rfl, Nat.le_of_ble_eq_true rfl⟩ rfl hl.1 rfl (Nat.le_of_ble_eq_true rfl) dX4_fit_42 ⟨Nat.le_of_ble_eq_true rfl, Nat.le_of_ble_eq_true rfl⟩) (fun r u H locs hp hM => ?_)
            obtain ⟨rfl, rfl⟩ := hp
            have hM : bx_M D A s (bl_w t h a (bf_tell B 2) Z) H locs := hM
            exact bx_reti E hr hlk hM (bf_tell B 2) rfl (by first | (simp [bf_fit, hp_1, hp_8, hq_21, hq_33, hk_34]; done) | (simp [bf_fit, hp_1, hp_8, hq_21, hq_33, hk_34]; rfl)) dX4_fit_45
          · have hk_34 := hk_34
            refine lv_if_eq (tgt := 46) hx hb dX4_fit_37 (by decide) (fun _ => ?_) (fun c => absurd c (by decide))
            refine lv_aload_n hx hb dX4_fit_46 rfl (lv_at hl 0 rfl) ?_
            refine bl_get E hin hM 0 (by decide) (by decide +kernel) rfl dX4_fit_47 ?_
            refine lv_iload_n hx hb dX4_fit_50 rfl (lv_at hl 1 rfl) ?_
            refine bl_hk E hM (vp_inB hp_1 (by decide)) dX4_fit_51 (fun _ => ?_) (fun y2 hy2 => absurd (hq_21.symm.trans hy2) (by simp))
            refine bx_goq hM (bx_runS (As := [.null]) (rest := []) E hM (bX4_bellOfN l D t A h a B Z) 1 gX4_fit_X4_bellOf rfl rfl rfl (by decide +kernel) ⟨Nat.le_of_ble_eq_true rfl, Nat.le_of_ble_eq_true rfl⟩ rfl hl.1 rfl (Nat.le_of_ble_eq_true rfl) dX4_fit_52 ⟨Nat.le_of_ble_eq_true rfl, Nat.le_of_ble_eq_true rfl⟩) (fun r u H locs hp hM => ?_)
            subst hp
            have hM : bx_M D A s (bl_w t h a B Z) H locs := hM
            refine lv_astore_nN (lv' := [(3, .null), (0, .ref h), (1, .int p0), (2, .int p1)]) hx hb dX4_fit_55 rfl hl (by decide) rfl (fun ls hl => ?_)
            refine lv_aload_nN hx hb dX4_fit_56 rfl (lv_at hl 0 rfl) ?_
            refine lv_ifnonnullN hx hb dX4_fit_57 ?_
            refine lv_aload_n hx hb dX4_fit_60 rfl (lv_at hl 1 rfl) ?_
            refine lv_iconst (v := 1) hx hb dX4_fit_61 (by decide) ?_
            refine bx_goi hM (bx_runV (As := [.int 1]) (rest := []) E hM (bX4_tell l D t A h a B Z 1) (bl_recv E hM) 1 gX4_fit_X4_tell rfl rfl rfl (by decide +kernel) ⟨Nat.le_of_ble_eq_true rfl, Nat.le_of_ble_eq_true rfl⟩ rfl hl.1 rfl (Nat.le_of_ble_eq_true rfl) dX4_fit_62 ⟨Nat.le_of_ble_eq_true rfl, Nat.le_of_ble_eq_true rfl⟩) (fun r u H locs hp hM => ?_)
            obtain ⟨rfl, rfl⟩ := hp
            have hM : bx_M D A s (bl_w t h a (bf_tell B 1) Z) H locs := hM
            exact bx_reti E hr hlk hM (bf_tell B 1) rfl (by first | (simp [bf_fit, hp_1, hp_8, hq_21, hq_33, hk_34]; done) | (simp [bf_fit, hp_1, hp_8, hq_21, hq_33, hk_34]; rfl)) dX4_fit_65
      · have hm_y_21 := hI.1 _ (vp_lt (vp_inB (n := 10) hp_1 (by decide))) y_21 hq_21
        refine bl_inC E hM hm_y_21 (by decide +kernel) dX4_fit_22 (fun hk_22 => ?_) (fun hk_22 => ?_)
        · have hk_22 := hk_22
          refine lv_if_ne (tgt := 40) hx hb dX4_fit_25 (by decide) (fun _ => ?_) (fun c => absurd c (by decide))
          refine lv_aload_n hx hb dX4_fit_40 rfl (lv_at hl 0 rfl) ?_
          refine lv_iconst (v := 2) hx hb dX4_fit_41 (by decide) ?_
          refine bx_goi hM (bx_runV (As := [.int 2]) (rest := []) E hM (bX4_tell l D t A h a B Z 2) (bl_recv E hM) 1 gX4_fit_X4_tell rfl rfl rfl (by decide +kernel) ⟨Nat.le_of_ble_eq_true rfl, Nat.le_of_ble_eq_true rfl⟩ rfl hl.1 rfl (Nat.le_of_ble_eq_true rfl) dX4_fit_42 ⟨Nat.le_of_ble_eq_true rfl, Nat.le_of_ble_eq_true rfl⟩) (fun r u H locs hp hM => ?_)
          obtain ⟨rfl, rfl⟩ := hp
          have hM : bx_M D A s (bl_w t h a (bf_tell B 2) Z) H locs := hM
          exact bx_reti E hr hlk hM (bf_tell B 2) rfl (by first | (simp [bf_fit, hp_1, hp_8, hq_21, hk_22]; done) | (simp [bf_fit, hp_1, hp_8, hq_21, hk_22]; rfl)) dX4_fit_45
        · have hk_22 := hk_22
          refine lv_if_ne (tgt := 40) hx hb dX4_fit_25 (by decide) (fun c => absurd c (by decide)) (fun _ => ?_)
          refine lv_aload_n hx hb dX4_fit_28 rfl (lv_at hl 0 rfl) ?_
          refine bl_get E hin hM 0 (by decide) (by decide +kernel) rfl dX4_fit_29 ?_
          refine lv_iload_n hx hb dX4_fit_32 rfl (lv_at hl 2 rfl) ?_
          refine bl_hk E hM (vp_inB hp_8 (by decide)) dX4_fit_33 (fun hq_33 => ?_) (fun y_33 hq_33 => ?_)
          · have hq_33 := hq_33
            refine lv_instN hx hb dX4_fit_34 ?_
            refine lv_if_eq (tgt := 46) hx hb dX4_fit_37 (by decide) (fun _ => ?_) (fun c => absurd c (by decide))
            refine lv_aload_n hx hb dX4_fit_46 rfl (lv_at hl 0 rfl) ?_
            refine bl_get E hin hM 0 (by decide) (by decide +kernel) rfl dX4_fit_47 ?_
            refine lv_iload_n hx hb dX4_fit_50 rfl (lv_at hl 1 rfl) ?_
            refine bl_hk E hM (vp_inB hp_1 (by decide)) dX4_fit_51 (fun hn => absurd (hq_21.symm.trans hn) (by simp)) (fun y2 hy2 => ?_)
            obtain rfl := Option.some.inj (hq_21.symm.trans hy2)
            refine bx_goq hM (bx_runS (As := [.ref y_21]) (rest := []) E hM (bX4_bellOfS l D t A h a B Z y_21 hm_y_21) 1 gX4_fit_X4_bellOf rfl rfl rfl (by decide +kernel) ⟨Nat.le_of_ble_eq_true rfl, Nat.le_of_ble_eq_true rfl⟩ rfl hl.1 rfl (Nat.le_of_ble_eq_true rfl) dX4_fit_52 ⟨Nat.le_of_ble_eq_true rfl, Nat.le_of_ble_eq_true rfl⟩) (fun r u H locs hp hM => ?_)
            rcases hp with ⟨rfl, hk_52⟩ | ⟨rfl, hk_52⟩
            · have hM : bx_M D A s (bl_w t h a B Z) H locs := hM
              refine lv_astore_n (lv' := [(3, .ref y_21), (0, .ref h), (1, .int p0), (2, .int p1)]) hx hb dX4_fit_55 rfl hl (by decide) rfl (fun ls hl => ?_)
              refine lv_aload_n hx hb dX4_fit_56 rfl (lv_at hl 0 rfl) ?_
              refine lv_ifnonnull (tgt := 66) hx hb dX4_fit_57 (by decide) ?_
              refine lv_aload_n hx hb dX4_fit_66 rfl (lv_at hl 0 rfl) ?_
              refine lv_aload_n hx hb dX4_fit_67 rfl (lv_at hl 1 rfl) ?_
              refine bl_get E hin hM 0 (by decide) (by decide +kernel) rfl dX4_fit_68 ?_
              refine lv_iload_n hx hb dX4_fit_71 rfl (lv_at hl 3 rfl) ?_
              refine bl_hk E hM (vp_inB hp_8 (by decide)) dX4_fit_72 (fun _ => ?_) (fun y2 hy2 => absurd (hq_33.symm.trans hy2) (by simp))
              refine bx_goq hM (bx_runS (As := [.null]) (rest := [.ref y_21]) E hM (bX4_clapperOfN l D t A h a B Z) 1 gX4_fit_X4_clapperOf rfl rfl rfl (by decide +kernel) ⟨Nat.le_of_ble_eq_true rfl, Nat.le_of_ble_eq_true rfl⟩ rfl hl.1 rfl (Nat.le_of_ble_eq_true rfl) dX4_fit_73 ⟨Nat.le_of_ble_eq_true rfl, Nat.le_of_ble_eq_true rfl⟩) (fun r u H locs hp hM => ?_)
              subst hp
              have hM : bx_M D A s (bl_w t h a B Z) H locs := hM
              refine bl_pCn E h0 h2 hM hm_y_21 hk_52 (by decide +kernel) (fun _ h9 => h9) dX4_fit_76 (fun H locs hM => ?_)
              have hM : bx_M D A s (bl_w t h a (bl_c B y_21 none) Z) H locs := hM
              refine lv_aload_n hx hb dX4_fit_79 rfl (lv_at hl 1 rfl) ?_
              refine bl_get E hin hM 0 (by decide) (by decide +kernel) rfl dX4_fit_80 ?_
              refine lv_iload_n hx hb dX4_fit_83 rfl (lv_at hl 3 rfl) ?_
              refine lv_null hx hb dX4_fit_84 ?_
              refine bl_hkN E hM (vp_inB hp_8 (by decide)) dX4_fit_85 (fun H locs hM => ?_)
              have hM : bx_M D A s (bl_w t h a (bl_ri (bl_c B y_21 none) 0 p1.toNatClampNeg none) Z) H locs := hM
              refine lv_aload_n hx hb dX4_fit_86 rfl (lv_at hl 0 rfl) ?_
              refine bl_gC E h0 h2 hM hm_y_21 hk_52 (by decide +kernel) (fun _ h9 => h9) dX4_fit_87 (fun _ => ?_) (fun z hz => absurd ((bl_cs (B := B) (y := y_21) (o := none)).symm.trans hz) (by simp))
              refine lv_ifnonnullN hx hb dX4_fit_90 ?_
              refine lv_iconst (v := 0) hx hb dX4_fit_93 (by decide) ?_
              refine lv_goto (tgt := 98) hx hb dX4_fit_94 (by decide) ?_
              exact bx_reti E hr hlk hM (bl_ri (bl_c B y_21 none) 0 p1.toNatClampNeg none) rfl (by first | (simp [bf_fit, hp_1, hp_8, hq_21, hk_22, hq_33, hk_52]; done) | (simp [bf_fit, hp_1, hp_8, hq_21, hk_22, hq_33, hk_52]; rfl)) dX4_fit_98
            · have hM : bx_M D A s (bl_w t h a B Z) H locs := hM
              exact absurd hk_52 hk_22
          · have hm_y_33 := hI.1 _ (vp_lt (vp_inB (n := 10) hp_8 (by decide))) y_33 hq_33
            refine bl_inB E hM hm_y_33 (by decide +kernel) dX4_fit_34 (fun hk_34 => ?_) (fun hk_34 => ?_)
            · have hk_34 := hk_34
              refine lv_if_eq (tgt := 46) hx hb dX4_fit_37 (by decide) (fun c => absurd c (by decide)) (fun _ => ?_)
              refine lv_aload_n hx hb dX4_fit_40 rfl (lv_at hl 0 rfl) ?_
              refine lv_iconst (v := 2) hx hb dX4_fit_41 (by decide) ?_
              refine bx_goi hM (bx_runV (As := [.int 2]) (rest := []) E hM (bX4_tell l D t A h a B Z 2) (bl_recv E hM) 1 gX4_fit_X4_tell rfl rfl rfl (by decide +kernel) ⟨Nat.le_of_ble_eq_true rfl, Nat.le_of_ble_eq_true rfl⟩ rfl hl.1 rfl (Nat.le_of_ble_eq_true rfl) dX4_fit_42 ⟨Nat.le_of_ble_eq_true rfl, Nat.le_of_ble_eq_true rfl⟩) (fun r u H locs hp hM => ?_)
              obtain ⟨rfl, rfl⟩ := hp
              have hM : bx_M D A s (bl_w t h a (bf_tell B 2) Z) H locs := hM
              exact bx_reti E hr hlk hM (bf_tell B 2) rfl (by first | (simp [bf_fit, hp_1, hp_8, hq_21, hk_22, hq_33, hk_34]; done) | (simp [bf_fit, hp_1, hp_8, hq_21, hk_22, hq_33, hk_34]; rfl)) dX4_fit_45
            · have hk_34 := hk_34
              refine lv_if_eq (tgt := 46) hx hb dX4_fit_37 (by decide) (fun _ => ?_) (fun c => absurd c (by decide))
              refine lv_aload_n hx hb dX4_fit_46 rfl (lv_at hl 0 rfl) ?_
              refine bl_get E hin hM 0 (by decide) (by decide +kernel) rfl dX4_fit_47 ?_
              refine lv_iload_n hx hb dX4_fit_50 rfl (lv_at hl 1 rfl) ?_
              refine bl_hk E hM (vp_inB hp_1 (by decide)) dX4_fit_51 (fun hn => absurd (hq_21.symm.trans hn) (by simp)) (fun y2 hy2 => ?_)
              obtain rfl := Option.some.inj (hq_21.symm.trans hy2)
              refine bx_goq hM (bx_runS (As := [.ref y_21]) (rest := []) E hM (bX4_bellOfS l D t A h a B Z y_21 hm_y_21) 1 gX4_fit_X4_bellOf rfl rfl rfl (by decide +kernel) ⟨Nat.le_of_ble_eq_true rfl, Nat.le_of_ble_eq_true rfl⟩ rfl hl.1 rfl (Nat.le_of_ble_eq_true rfl) dX4_fit_52 ⟨Nat.le_of_ble_eq_true rfl, Nat.le_of_ble_eq_true rfl⟩) (fun r u H locs hp hM => ?_)
              rcases hp with ⟨rfl, hk_52⟩ | ⟨rfl, hk_52⟩
              · have hM : bx_M D A s (bl_w t h a B Z) H locs := hM
                refine lv_astore_n (lv' := [(3, .ref y_21), (0, .ref h), (1, .int p0), (2, .int p1)]) hx hb dX4_fit_55 rfl hl (by decide) rfl (fun ls hl => ?_)
                refine lv_aload_n hx hb dX4_fit_56 rfl (lv_at hl 0 rfl) ?_
                refine lv_ifnonnull (tgt := 66) hx hb dX4_fit_57 (by decide) ?_
                refine lv_aload_n hx hb dX4_fit_66 rfl (lv_at hl 0 rfl) ?_
                refine lv_aload_n hx hb dX4_fit_67 rfl (lv_at hl 1 rfl) ?_
                refine bl_get E hin hM 0 (by decide) (by decide +kernel) rfl dX4_fit_68 ?_
                refine lv_iload_n hx hb dX4_fit_71 rfl (lv_at hl 3 rfl) ?_
                refine bl_hk E hM (vp_inB hp_8 (by decide)) dX4_fit_72 (fun hn => absurd (hq_33.symm.trans hn) (by simp)) (fun y2 hy2 => ?_)
                obtain rfl := Option.some.inj (hq_33.symm.trans hy2)
                refine bx_goq hM (bx_runS (As := [.ref y_33]) (rest := [.ref y_21]) E hM (bX4_clapperOfS l D t A h a B Z y_33 hm_y_33) 1 gX4_fit_X4_clapperOf rfl rfl rfl (by decide +kernel) ⟨Nat.le_of_ble_eq_true rfl, Nat.le_of_ble_eq_true rfl⟩ rfl hl.1 rfl (Nat.le_of_ble_eq_true rfl) dX4_fit_73 ⟨Nat.le_of_ble_eq_true rfl, Nat.le_of_ble_eq_true rfl⟩) (fun r u H locs hp hM => ?_)
                rcases hp with ⟨rfl, hk_73⟩ | ⟨rfl, hk_73⟩
                · have hM : bx_M D A s (bl_w t h a B Z) H locs := hM
                  refine bl_pCs E h0 h2 hM hm_y_21 hk_52 y_33 (by decide +kernel) (fun _ h9 => h9) dX4_fit_76 (fun H locs hM => ?_)
                  have hM : bx_M D A s (bl_w t h a (bl_c B y_21 (some y_33)) Z) H locs := hM
                  refine lv_aload_n hx hb dX4_fit_79 rfl (lv_at hl 1 rfl) ?_
                  refine bl_get E hin hM 0 (by decide) (by decide +kernel) rfl dX4_fit_80 ?_
                  refine lv_iload_n hx hb dX4_fit_83 rfl (lv_at hl 3 rfl) ?_
                  refine lv_null hx hb dX4_fit_84 ?_
                  refine bl_hkN E hM (vp_inB hp_8 (by decide)) dX4_fit_85 (fun H locs hM => ?_)
                  have hM : bx_M D A s (bl_w t h a (bl_ri (bl_c B y_21 (some y_33)) 0 p1.toNatClampNeg none) Z) H locs := hM
                  refine lv_aload_n hx hb dX4_fit_86 rfl (lv_at hl 0 rfl) ?_
                  refine bl_gC E h0 h2 hM hm_y_21 hk_52 (by decide +kernel) (fun _ h9 => h9) dX4_fit_87 (fun hz => absurd ((bl_cs (B := B) (y := y_21) (o := some y_33)).symm.trans hz) (by simp)) (fun z _ => ?_)
                  refine lv_ifnonnull (tgt := 97) hx hb dX4_fit_90 (by decide) ?_
                  refine lv_iconst (v := 1) hx hb dX4_fit_97 (by decide) ?_
                  exact bx_reti E hr hlk hM (bl_ri (bl_c B y_21 (some y_33)) 0 p1.toNatClampNeg none) rfl (by first | (simp [bf_fit, hp_1, hp_8, hq_21, hk_22, hq_33, hk_34, hk_52, hk_73]; done) | (simp [bf_fit, hp_1, hp_8, hq_21, hk_22, hq_33, hk_34, hk_52, hk_73]; rfl)) dX4_fit_98
                · have hM : bx_M D A s (bl_w t h a B Z) H locs := hM
                  exact absurd hk_34 hk_73
              · have hM : bx_M D A s (bl_w t h a B Z) H locs := hM
                exact absurd hk_52 hk_22
    · have hM : bx_M D A s (bl_w t h a B Z) H locs := hM
      refine lv_if_ne (tgt := 16) hx hb dX4_fit_11 (by decide) (fun c => absurd c (by decide)) (fun _ => ?_)
      refine lv_iconst (v := (-1)) hx hb dX4_fit_14 (by decide) ?_
      exact bx_reti E hr hlk hM B rfl (by first | (simp [bf_fit, hp_1, hp_8]; done) | (simp [bf_fit, hp_1, hp_8]; rfl)) dX4_fit_15
  · have hM : bx_M D A s (bl_w t h a B Z) H locs := hM
    refine lv_if_eq (tgt := 14) hx hb dX4_fit_4 (by decide) (fun _ => ?_) (fun c => absurd c (by decide))
    refine lv_iconst (v := (-1)) hx hb dX4_fit_14 (by decide) ?_
    exact bx_reti E hr hlk hM B rfl (by first | (simp [bf_fit, hp_1]; done) | (simp [bf_fit, hp_1]; rfl)) dX4_fit_15

set_option maxHeartbeats 4000000 in
set_option maxRecDepth 100000 in
theorem bX4_alarm (l : Launch) (D : va_G) (t : bx_T) (A : Nat → Prop) (h : Nat) (a : Nat → Nat) (B : bl_S) (Z : va_W) (p0 : Int32) (p1 : Int32) (hI : bl_I B) : bx_Ci l yX4_alarm wsX4_alarm ({ frames := 3, cells := 0, slots := 0, locals := 64 }) D t A [.ref h, .int p0, .int p1] (bl_w t h a B Z) (fun (r : Int32) (u : bl_S) => r = (bf_alarm B p0 p1).1 ∧ u = (bf_alarm B p0 p1).2) (fun u => bl_w t h a u Z) 0 0 := by
  refine bx_enter (cc := cX4_alarm) (maxL := 5) (ret := some .int) (by decide) rfl (Nat.le_of_ble_eq_true rfl) ?_
  intro p e s m below meth c ls E hr hlk hnm hM hl
  have hl : lv_has ls 5 [(0, .ref h), (1, .int p0), (2, .int p1)] := hl
  have hx := E.1.1
  have hb := E.1.2.1
  have hin : ∀ w ∈ wsX40, w ∈ wsX4_alarm := by decide +kernel
  have h0 : ∀ w ∈ wsX00, w ∈ wsX4_alarm := by decide +kernel
  have h2 : ∀ w ∈ wsX20, w ∈ wsX4_alarm := by decide +kernel
  refine lv_iload_n hx hb dX4_alarm_0 rfl (lv_at hl 1 rfl) ?_
  refine bx_goi hM (bx_runS (As := [.int p0]) (rest := []) E hM (bX4_isHook l D t A (bl_w t h a B Z) p0) 1 gX4_alarm_X4_isHook rfl rfl rfl (by decide +kernel) ⟨Nat.le_of_ble_eq_true rfl, Nat.le_of_ble_eq_true rfl⟩ rfl hl.1 rfl (Nat.le_of_ble_eq_true rfl) dX4_alarm_1 ⟨Nat.le_of_ble_eq_true rfl, Nat.le_of_ble_eq_true rfl⟩) (fun r u H locs hp hM => ?_)
  rcases hp with ⟨rfl, hp_1⟩ | ⟨rfl, hp_1⟩
  · have hM : bx_M D A s (bl_w t h a B Z) H locs := hM
    refine lv_if_eq (tgt := 17) hx hb dX4_alarm_4 (by decide) (fun c => absurd c (by decide)) (fun _ => ?_)
    refine lv_iload_n hx hb dX4_alarm_7 rfl (lv_at hl 2 rfl) ?_
    refine lv_iconst (v := 0) hx hb dX4_alarm_8 (by decide) ?_
    refine lv_bipush (v := 9) hx hb dX4_alarm_9 (by decide) ?_
    refine bx_goi hM (bx_runS (As := [.int p1, .int 0, .int 9]) (rest := []) E hM (bX4_isWithin l D t A (bl_w t h a B Z) p1 0 9) 3 gX4_alarm_X4_isWithin rfl rfl rfl (by decide +kernel) ⟨Nat.le_of_ble_eq_true rfl, Nat.le_of_ble_eq_true rfl⟩ rfl hl.1 rfl (Nat.le_of_ble_eq_true rfl) dX4_alarm_11 ⟨Nat.le_of_ble_eq_true rfl, Nat.le_of_ble_eq_true rfl⟩) (fun r u H locs hp hM => ?_)
    rcases hp with ⟨rfl, hp_11⟩ | ⟨rfl, hp_11⟩
    · have hM : bx_M D A s (bl_w t h a B Z) H locs := hM
      refine lv_if_ne (tgt := 19) hx hb dX4_alarm_14 (by decide) (fun _ => ?_) (fun c => absurd c (by decide))
      refine lv_aload_n hx hb dX4_alarm_19 rfl (lv_at hl 0 rfl) ?_
      refine bl_get E hin hM 0 (by decide) (by decide +kernel) rfl dX4_alarm_20 ?_
      refine lv_iload_n hx hb dX4_alarm_23 rfl (lv_at hl 1 rfl) ?_
      refine bl_hk E hM (vp_inB hp_1 (by decide)) dX4_alarm_24 (fun hq_24 => ?_) (fun y_24 hq_24 => ?_)
      · have hq_24 := hq_24
        refine bx_goq hM (bx_runS (As := [.null]) (rest := []) E hM (bX4_bellOfN l D t A h a B Z) 1 gX4_alarm_X4_bellOf rfl rfl rfl (by decide +kernel) ⟨Nat.le_of_ble_eq_true rfl, Nat.le_of_ble_eq_true rfl⟩ rfl hl.1 rfl (Nat.le_of_ble_eq_true rfl) dX4_alarm_25 ⟨Nat.le_of_ble_eq_true rfl, Nat.le_of_ble_eq_true rfl⟩) (fun r u H locs hp hM => ?_)
        subst hp
        have hM : bx_M D A s (bl_w t h a B Z) H locs := hM
        refine lv_astore_nN (lv' := [(3, .null), (0, .ref h), (1, .int p0), (2, .int p1)]) hx hb dX4_alarm_28 rfl hl (by decide) rfl (fun ls hl => ?_)
        refine lv_aload_nN hx hb dX4_alarm_29 rfl (lv_at hl 0 rfl) ?_
        refine lv_ifnonnullN hx hb dX4_alarm_30 ?_
        refine lv_aload_n hx hb dX4_alarm_33 rfl (lv_at hl 1 rfl) ?_
        refine lv_aload_n hx hb dX4_alarm_34 rfl (lv_at hl 1 rfl) ?_
        refine bl_get E hin hM 0 (by decide) (by decide +kernel) rfl dX4_alarm_35 ?_
        refine lv_iload_n hx hb dX4_alarm_38 rfl (lv_at hl 2 rfl) ?_
        refine bl_hk E hM (vp_inB hp_1 (by decide)) dX4_alarm_39 (fun _ => ?_) (fun y2 hy2 => absurd (hq_24.symm.trans hy2) (by simp))
        refine bx_goi hM (bx_runV (As := [.null]) (rest := []) E hM (bX4_tellWhyNotN l D t A h a B Z) (bl_recv E hM) 1 gX4_alarm_X4_tellWhyNot rfl rfl rfl (by decide +kernel) ⟨Nat.le_of_ble_eq_true rfl, Nat.le_of_ble_eq_true rfl⟩ rfl hl.1 rfl (Nat.le_of_ble_eq_true rfl) dX4_alarm_40 ⟨Nat.le_of_ble_eq_true rfl, Nat.le_of_ble_eq_true rfl⟩) (fun r u H locs hp hM => ?_)
        obtain ⟨rfl, rfl⟩ := hp
        have hM : bx_M D A s (bl_w t h a (bf_tell B 1) Z) H locs := hM
        exact bx_reti E hr hlk hM (bf_tell B 1) rfl (by first | (simp [bf_alarm, hp_1, hp_11, hq_24]; done) | (simp [bf_alarm, hp_1, hp_11, hq_24]; rfl)) dX4_alarm_43
      · have hm_y_24 := hI.1 _ (vp_lt (vp_inB (n := 10) hp_1 (by decide))) y_24 hq_24
        refine bx_goq hM (bx_runS (As := [.ref y_24]) (rest := []) E hM (bX4_bellOfS l D t A h a B Z y_24 hm_y_24) 1 gX4_alarm_X4_bellOf rfl rfl rfl (by decide +kernel) ⟨Nat.le_of_ble_eq_true rfl, Nat.le_of_ble_eq_true rfl⟩ rfl hl.1 rfl (Nat.le_of_ble_eq_true rfl) dX4_alarm_25 ⟨Nat.le_of_ble_eq_true rfl, Nat.le_of_ble_eq_true rfl⟩) (fun r u H locs hp hM => ?_)
        rcases hp with ⟨rfl, hk_25⟩ | ⟨rfl, hk_25⟩
        · have hM : bx_M D A s (bl_w t h a B Z) H locs := hM
          refine lv_astore_n (lv' := [(3, .ref y_24), (0, .ref h), (1, .int p0), (2, .int p1)]) hx hb dX4_alarm_28 rfl hl (by decide) rfl (fun ls hl => ?_)
          refine lv_aload_n hx hb dX4_alarm_29 rfl (lv_at hl 0 rfl) ?_
          refine lv_ifnonnull (tgt := 44) hx hb dX4_alarm_30 (by decide) ?_
          refine lv_aload_n hx hb dX4_alarm_44 rfl (lv_at hl 0 rfl) ?_
          refine bl_gA E h0 h2 hM hm_y_24 hk_25 (by decide +kernel) (fun _ h9 => h9) dX4_alarm_45 ?_
          refine lv_istore (lv' := [(4, .int (bV B 2 y_24)), (3, .ref y_24), (0, .ref h), (1, .int p0), (2, .int p1)]) hx hb dX4_alarm_48 hl (by decide) rfl (fun ls hl => ?_)
          refine lv_aload_n hx hb dX4_alarm_50 rfl (lv_at hl 1 rfl) ?_
          refine lv_iload_n hx hb dX4_alarm_51 rfl (lv_at hl 4 rfl) ?_
          refine bl_pA E h0 h2 hM hm_y_24 hk_25 p1 (by decide +kernel) (fun _ h9 => h9) dX4_alarm_52 (fun H locs hM => ?_)
          have hM : bx_M D A s (bl_w t h a (bl_v B 2 y_24 p1) Z) H locs := hM
          refine lv_iload hx hb dX4_alarm_55 (lv_at hl 0 rfl) ?_
          exact bx_reti E hr hlk hM (bl_v B 2 y_24 p1) rfl (by first | (simp [bf_alarm, hp_1, hp_11, hq_24, hk_25]; done) | (simp [bf_alarm, hp_1, hp_11, hq_24, hk_25]; rfl)) dX4_alarm_57
        · have hM : bx_M D A s (bl_w t h a B Z) H locs := hM
          refine lv_astore_nN (lv' := [(3, .null), (0, .ref h), (1, .int p0), (2, .int p1)]) hx hb dX4_alarm_28 rfl hl (by decide) rfl (fun ls hl => ?_)
          refine lv_aload_nN hx hb dX4_alarm_29 rfl (lv_at hl 0 rfl) ?_
          refine lv_ifnonnullN hx hb dX4_alarm_30 ?_
          refine lv_aload_n hx hb dX4_alarm_33 rfl (lv_at hl 1 rfl) ?_
          refine lv_aload_n hx hb dX4_alarm_34 rfl (lv_at hl 1 rfl) ?_
          refine bl_get E hin hM 0 (by decide) (by decide +kernel) rfl dX4_alarm_35 ?_
          refine lv_iload_n hx hb dX4_alarm_38 rfl (lv_at hl 2 rfl) ?_
          refine bl_hk E hM (vp_inB hp_1 (by decide)) dX4_alarm_39 (fun hn => absurd (hq_24.symm.trans hn) (by simp)) (fun y2 hy2 => ?_)
          obtain rfl := Option.some.inj (hq_24.symm.trans hy2)
          refine bx_goi hM (bx_runV (As := [.ref y_24]) (rest := []) E hM (bX4_tellWhyNotS l D t A h a B Z y_24) (bl_recv E hM) 1 gX4_alarm_X4_tellWhyNot rfl rfl rfl (by decide +kernel) ⟨Nat.le_of_ble_eq_true rfl, Nat.le_of_ble_eq_true rfl⟩ rfl hl.1 rfl (Nat.le_of_ble_eq_true rfl) dX4_alarm_40 ⟨Nat.le_of_ble_eq_true rfl, Nat.le_of_ble_eq_true rfl⟩) (fun r u H locs hp hM => ?_)
          obtain ⟨rfl, rfl⟩ := hp
          have hM : bx_M D A s (bl_w t h a (bf_tell B 2) Z) H locs := hM
          exact bx_reti E hr hlk hM (bf_tell B 2) rfl (by first | (simp [bf_alarm, hp_1, hp_11, hq_24, hk_25]; done) | (simp [bf_alarm, hp_1, hp_11, hq_24, hk_25]; rfl)) dX4_alarm_43
    · have hM : bx_M D A s (bl_w t h a B Z) H locs := hM
      refine lv_if_ne (tgt := 19) hx hb dX4_alarm_14 (by decide) (fun c => absurd c (by decide)) (fun _ => ?_)
      refine lv_iconst (v := (-1)) hx hb dX4_alarm_17 (by decide) ?_
      exact bx_reti E hr hlk hM B rfl (by first | (simp [bf_alarm, hp_1, hp_11]; done) | (simp [bf_alarm, hp_1, hp_11]; rfl)) dX4_alarm_18
  · have hM : bx_M D A s (bl_w t h a B Z) H locs := hM
    refine lv_if_eq (tgt := 17) hx hb dX4_alarm_4 (by decide) (fun _ => ?_) (fun c => absurd c (by decide))
    refine lv_iconst (v := (-1)) hx hb dX4_alarm_17 (by decide) ?_
    exact bx_reti E hr hlk hM B rfl (by first | (simp [bf_alarm, hp_1]; done) | (simp [bf_alarm, hp_1]; rfl)) dX4_alarm_18

set_option maxHeartbeats 4000000 in
set_option maxRecDepth 100000 in
theorem bX4_raise (l : Launch) (D : va_G) (t : bx_T) (A : Nat → Prop) (h : Nat) (a : Nat → Nat) (B : bl_S) (Z : va_W) (p0 : Int32) (hI : bl_I B) : bx_Ci l yX4_raise wsX4_raise ({ frames := 3, cells := 0, slots := 0, locals := 64 }) D t A [.ref h, .int p0] (bl_w t h a B Z) (fun (r : Int32) (u : bl_S) => r = (bf_raise B p0).1 ∧ u = (bf_raise B p0).2) (fun u => bl_w t h a u Z) 0 0 := by
  refine bx_enter (cc := cX4_raise) (maxL := 3) (ret := some .int) (by decide) rfl (Nat.le_of_ble_eq_true rfl) ?_
  intro p e s m below meth c ls E hr hlk hnm hM hl
  have hl : lv_has ls 3 [(0, .ref h), (1, .int p0)] := hl
  have hx := E.1.1
  have hb := E.1.2.1
  have hin : ∀ w ∈ wsX40, w ∈ wsX4_raise := by decide +kernel
  have h0 : ∀ w ∈ wsX00, w ∈ wsX4_raise := by decide +kernel
  have h2 : ∀ w ∈ wsX20, w ∈ wsX4_raise := by decide +kernel
  refine lv_iload_n hx hb dX4_raise_0 rfl (lv_at hl 1 rfl) ?_
  refine bx_goi hM (bx_runS (As := [.int p0]) (rest := []) E hM (bX4_isHook l D t A (bl_w t h a B Z) p0) 1 gX4_raise_X4_isHook rfl rfl rfl (by decide +kernel) ⟨Nat.le_of_ble_eq_true rfl, Nat.le_of_ble_eq_true rfl⟩ rfl hl.1 rfl (Nat.le_of_ble_eq_true rfl) dX4_raise_1 ⟨Nat.le_of_ble_eq_true rfl, Nat.le_of_ble_eq_true rfl⟩) (fun r u H locs hp hM => ?_)
  rcases hp with ⟨rfl, hp_1⟩ | ⟨rfl, hp_1⟩
  · have hM : bx_M D A s (bl_w t h a B Z) H locs := hM
    refine lv_if_ne (tgt := 9) hx hb dX4_raise_4 (by decide) (fun _ => ?_) (fun c => absurd c (by decide))
    refine lv_aload_n hx hb dX4_raise_9 rfl (lv_at hl 0 rfl) ?_
    refine bl_get E hin hM 0 (by decide) (by decide +kernel) rfl dX4_raise_10 ?_
    refine lv_iload_n hx hb dX4_raise_13 rfl (lv_at hl 1 rfl) ?_
    refine bl_hk E hM (vp_inB hp_1 (by decide)) dX4_raise_14 (fun hq_14 => ?_) (fun y_14 hq_14 => ?_)
    · have hq_14 := hq_14
      refine bx_goq hM (bx_runS (As := [.null]) (rest := []) E hM (bX4_bellOfN l D t A h a B Z) 1 gX4_raise_X4_bellOf rfl rfl rfl (by decide +kernel) ⟨Nat.le_of_ble_eq_true rfl, Nat.le_of_ble_eq_true rfl⟩ rfl hl.1 rfl (Nat.le_of_ble_eq_true rfl) dX4_raise_15 ⟨Nat.le_of_ble_eq_true rfl, Nat.le_of_ble_eq_true rfl⟩) (fun r u H locs hp hM => ?_)
      subst hp
      have hM : bx_M D A s (bl_w t h a B Z) H locs := hM
      refine lv_astore_nN (lv' := [(2, .null), (0, .ref h), (1, .int p0)]) hx hb dX4_raise_18 rfl hl (by decide) rfl (fun ls hl => ?_)
      refine lv_aload_nN hx hb dX4_raise_19 rfl (lv_at hl 0 rfl) ?_
      refine lv_ifnonnullN hx hb dX4_raise_20 ?_
      refine lv_aload_n hx hb dX4_raise_23 rfl (lv_at hl 1 rfl) ?_
      refine lv_aload_n hx hb dX4_raise_24 rfl (lv_at hl 1 rfl) ?_
      refine bl_get E hin hM 0 (by decide) (by decide +kernel) rfl dX4_raise_25 ?_
      refine lv_iload_n hx hb dX4_raise_28 rfl (lv_at hl 2 rfl) ?_
      refine bl_hk E hM (vp_inB hp_1 (by decide)) dX4_raise_29 (fun _ => ?_) (fun y2 hy2 => absurd (hq_14.symm.trans hy2) (by simp))
      refine bx_goi hM (bx_runV (As := [.null]) (rest := []) E hM (bX4_tellWhyNotN l D t A h a B Z) (bl_recv E hM) 1 gX4_raise_X4_tellWhyNot rfl rfl rfl (by decide +kernel) ⟨Nat.le_of_ble_eq_true rfl, Nat.le_of_ble_eq_true rfl⟩ rfl hl.1 rfl (Nat.le_of_ble_eq_true rfl) dX4_raise_30 ⟨Nat.le_of_ble_eq_true rfl, Nat.le_of_ble_eq_true rfl⟩) (fun r u H locs hp hM => ?_)
      obtain ⟨rfl, rfl⟩ := hp
      have hM : bx_M D A s (bl_w t h a (bf_tell B 1) Z) H locs := hM
      refine lv_goto (tgt := 41) hx hb dX4_raise_33 (by decide) ?_
      exact bx_reti E hr hlk hM (bf_tell B 1) rfl (by first | (simp [bf_raise, hp_1, hq_14]; done) | (simp [bf_raise, hp_1, hq_14]; rfl)) dX4_raise_41
    · have hm_y_14 := hI.1 _ (vp_lt (vp_inB (n := 10) hp_1 (by decide))) y_14 hq_14
      refine bx_goq hM (bx_runS (As := [.ref y_14]) (rest := []) E hM (bX4_bellOfS l D t A h a B Z y_14 hm_y_14) 1 gX4_raise_X4_bellOf rfl rfl rfl (by decide +kernel) ⟨Nat.le_of_ble_eq_true rfl, Nat.le_of_ble_eq_true rfl⟩ rfl hl.1 rfl (Nat.le_of_ble_eq_true rfl) dX4_raise_15 ⟨Nat.le_of_ble_eq_true rfl, Nat.le_of_ble_eq_true rfl⟩) (fun r u H locs hp hM => ?_)
      rcases hp with ⟨rfl, hk_15⟩ | ⟨rfl, hk_15⟩
      · have hM : bx_M D A s (bl_w t h a B Z) H locs := hM
        refine lv_astore_n (lv' := [(2, .ref y_14), (0, .ref h), (1, .int p0)]) hx hb dX4_raise_18 rfl hl (by decide) rfl (fun ls hl => ?_)
        refine lv_aload_n hx hb dX4_raise_19 rfl (lv_at hl 0 rfl) ?_
        refine lv_ifnonnull (tgt := 36) hx hb dX4_raise_20 (by decide) ?_
        refine lv_aload_n hx hb dX4_raise_36 rfl (lv_at hl 1 rfl) ?_
        refine lv_aload_n hx hb dX4_raise_37 rfl (lv_at hl 0 rfl) ?_
        refine bx_goi hM (bx_runV (As := [.ref y_14]) (rest := []) E hM (bX4_goOff l D t A h a B Z y_14 hm_y_14 hk_15) (bl_recv E hM) 1 gX4_raise_X4_goOff rfl rfl rfl (by decide +kernel) ⟨Nat.le_of_ble_eq_true rfl, Nat.le_of_ble_eq_true rfl⟩ rfl hl.1 rfl (Nat.le_of_ble_eq_true rfl) dX4_raise_38 ⟨Nat.le_of_ble_eq_true rfl, Nat.le_of_ble_eq_true rfl⟩) (fun r u H locs hp hM => ?_)
        obtain ⟨rfl, rfl⟩ := hp
        have hM : bx_M D A s (bl_w t h a ((bf_goOff B y_14).2) Z) H locs := hM
        exact bx_reti E hr hlk hM ((bf_goOff B y_14).2) rfl (by first | (simp [bf_raise, hp_1, hq_14, hk_15]; done) | (simp [bf_raise, hp_1, hq_14, hk_15]; rfl)) dX4_raise_41
      · have hM : bx_M D A s (bl_w t h a B Z) H locs := hM
        refine lv_astore_nN (lv' := [(2, .null), (0, .ref h), (1, .int p0)]) hx hb dX4_raise_18 rfl hl (by decide) rfl (fun ls hl => ?_)
        refine lv_aload_nN hx hb dX4_raise_19 rfl (lv_at hl 0 rfl) ?_
        refine lv_ifnonnullN hx hb dX4_raise_20 ?_
        refine lv_aload_n hx hb dX4_raise_23 rfl (lv_at hl 1 rfl) ?_
        refine lv_aload_n hx hb dX4_raise_24 rfl (lv_at hl 1 rfl) ?_
        refine bl_get E hin hM 0 (by decide) (by decide +kernel) rfl dX4_raise_25 ?_
        refine lv_iload_n hx hb dX4_raise_28 rfl (lv_at hl 2 rfl) ?_
        refine bl_hk E hM (vp_inB hp_1 (by decide)) dX4_raise_29 (fun hn => absurd (hq_14.symm.trans hn) (by simp)) (fun y2 hy2 => ?_)
        obtain rfl := Option.some.inj (hq_14.symm.trans hy2)
        refine bx_goi hM (bx_runV (As := [.ref y_14]) (rest := []) E hM (bX4_tellWhyNotS l D t A h a B Z y_14) (bl_recv E hM) 1 gX4_raise_X4_tellWhyNot rfl rfl rfl (by decide +kernel) ⟨Nat.le_of_ble_eq_true rfl, Nat.le_of_ble_eq_true rfl⟩ rfl hl.1 rfl (Nat.le_of_ble_eq_true rfl) dX4_raise_30 ⟨Nat.le_of_ble_eq_true rfl, Nat.le_of_ble_eq_true rfl⟩) (fun r u H locs hp hM => ?_)
        obtain ⟨rfl, rfl⟩ := hp
        have hM : bx_M D A s (bl_w t h a (bf_tell B 2) Z) H locs := hM
        refine lv_goto (tgt := 41) hx hb dX4_raise_33 (by decide) ?_
        exact bx_reti E hr hlk hM (bf_tell B 2) rfl (by first | (simp [bf_raise, hp_1, hq_14, hk_15]; done) | (simp [bf_raise, hp_1, hq_14, hk_15]; rfl)) dX4_raise_41
  · have hM : bx_M D A s (bl_w t h a B Z) H locs := hM
    refine lv_if_ne (tgt := 9) hx hb dX4_raise_4 (by decide) (fun c => absurd c (by decide)) (fun _ => ?_)
    refine lv_iconst (v := (-1)) hx hb dX4_raise_7 (by decide) ?_
    exact bx_reti E hr hlk hM B rfl (by first | (simp [bf_raise, hp_1]; done) | (simp [bf_raise, hp_1]; rfl)) dX4_raise_8

set_option maxHeartbeats 4000000 in
set_option maxRecDepth 100000 in
theorem bX4_level (l : Launch) (D : va_G) (t : bx_T) (A : Nat → Prop) (h : Nat) (a : Nat → Nat) (B : bl_S) (Z : va_W) : bx_Ci l yX4_level wsX4_level ({ frames := 0, cells := 0, slots := 0, locals := 0 }) D t A [.ref h] (bl_w t h a B Z) (fun (r : Int32) (u : bl_S) => r = (bf_level B).1 ∧ u = (bf_level B).2) (fun u => bl_w t h a u Z) 0 0 := by
  refine bx_enter (cc := cX4_level) (maxL := 1) (ret := some .int) (by decide) rfl (Nat.le_of_ble_eq_true rfl) ?_
  intro p e s m below meth c ls E hr hlk hnm hM hl
  have hl : lv_has ls 1 [(0, .ref h)] := hl
  have hx := E.1.1
  have hb := E.1.2.1
  have hin : ∀ w ∈ wsX40, w ∈ wsX4_level := by decide +kernel
  refine lv_aload_n hx hb dX4_level_0 rfl (lv_at hl 0 rfl) ?_
  refine bl_get E hin hM 10 (by decide) (by decide +kernel) rfl dX4_level_1 ?_
  exact bx_reti E hr hlk hM B rfl (by first | (simp [bf_level]; done) | (simp [bf_level]; rfl)) dX4_level_4

set_option maxHeartbeats 4000000 in
set_option maxRecDepth 100000 in
theorem bX4_size (l : Launch) (D : va_G) (t : bx_T) (A : Nat → Prop) (h : Nat) (a : Nat → Nat) (B : bl_S) (Z : va_W) : bx_Ci l yX4_size wsX4_size ({ frames := 2, cells := 0, slots := 0, locals := 43 }) D t A [.ref h] (bl_w t h a B Z) (fun (r : Int32) (u : bl_S) => r = (bf_size B).1 ∧ u = (bf_size B).2) (fun u => bl_w t h a u Z) 0 0 := by
  refine bx_enter (cc := cX4_size) (maxL := 1) (ret := some .int) (by decide) rfl (Nat.le_of_ble_eq_true rfl) ?_
  intro p e s m below meth c ls E hr hlk hnm hM hl
  have hl : lv_has ls 1 [(0, .ref h)] := hl
  have hx := E.1.1
  have hb := E.1.2.1
  have hin : ∀ w ∈ wsX40, w ∈ wsX4_size := by decide +kernel
  refine lv_aload_n hx hb dX4_size_0 rfl (lv_at hl 0 rfl) ?_
  refine bl_get E hin hM 2 (by decide) (by decide +kernel) rfl dX4_size_1 ?_
  refine lv_iconst (v := (-1)) hx hb dX4_size_4 (by decide) ?_
  refine lv_icmp_ne (tgt := 16) hx hb dX4_size_5 (by decide) (fun c_5 => ?_) (fun c_5 => ?_)
  · refine lv_aload_n hx hb dX4_size_16 rfl (lv_at hl 0 rfl) ?_
    refine bl_get E hin hM 2 (by decide) (by decide +kernel) rfl dX4_size_17 ?_
    exact bx_reti E hr hlk hM B rfl (by first | (simp [bf_size, c_5]; done) | (simp [bf_size, c_5]; rfl)) dX4_size_20
  · refine lv_aload_n hx hb dX4_size_8 rfl (lv_at hl 0 rfl) ?_
    refine lv_iconst (v := 1) hx hb dX4_size_9 (by decide) ?_
    refine bx_goi hM (bx_runV (As := [.int 1]) (rest := []) E hM (bX4_tell l D t A h a B Z 1) (bl_recv E hM) 1 gX4_size_X4_tell rfl rfl rfl (by decide +kernel) ⟨Nat.le_of_ble_eq_true rfl, Nat.le_of_ble_eq_true rfl⟩ rfl hl.1 rfl (Nat.le_of_ble_eq_true rfl) dX4_size_10 ⟨Nat.le_of_ble_eq_true rfl, Nat.le_of_ble_eq_true rfl⟩) (fun r u H locs hp hM => ?_)
    obtain ⟨rfl, rfl⟩ := hp
    have hM : bx_M D A s (bl_w t h a (bf_tell B 1) Z) H locs := hM
    refine lv_goto (tgt := 20) hx hb dX4_size_13 (by decide) ?_
    exact bx_reti E hr hlk hM (bf_tell B 1) rfl (by first | (simp [bf_size, c_5]; done) | (simp [bf_size, c_5]; rfl)) dX4_size_20
