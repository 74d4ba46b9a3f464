set_option maxHeartbeats 4000000 in
set_option maxRecDepth 100000 in
theorem bX4_isWithin (l : Launch) (D : va_G) (t : bx_T) (A : Nat → Prop) (w : va_W) (v : Int32) (lo : Int32) (hi : Int32) : bx_Ci l yX4_isWithin wsX4_isWithin ({ frames := 0, cells := 0, slots := 0, locals := 0 }) D t A [.int v, .int lo, .int hi] w (fun (r : Int32) (u : Unit) => (r = 1 ∧ inB v lo hi = true) ∨ (r = 0 ∧ inB v lo hi = false)) (fun _ => w) 0 0 := by
  refine bx_enter (cc := cX4_isWithin) (maxL := 3) (ret := some .boolean) (by decide) rfl (Nat.le_of_ble_eq_true rfl) ?_
  intro p e s m below meth c ls E hr hlk hnm hM hl
  have hl : lv_has ls 3 [(0, .int v), (1, .int lo), (2, .int hi)] := hl
  have hx := E.1.1
  have hb := E.1.2.1
  refine lv_iload_n hx hb dX4_isWithin_0 rfl (lv_at hl 0 rfl) ?_
  refine lv_iload_n hx hb dX4_isWithin_1 rfl (lv_at hl 1 rfl) ?_
  refine lv_icmp_lt (tgt := 14) hx hb dX4_isWithin_2 (by decide) (fun c_2 => ?_) (fun c_2 => ?_)
  · refine lv_iconst (v := 0) hx hb dX4_isWithin_14 (by decide) ?_
    exact bx_retz E hr hlk hM () rfl (by first | exact Or.inl ⟨rfl, inB_in c_2 c_7⟩ | exact Or.inr ⟨rfl, inB_lt c_2⟩ | exact Or.inr ⟨rfl, inB_gt c_7⟩) (by first | exact Or.inl rfl | exact Or.inr rfl | assumption | (split <;> simp)) dX4_isWithin_15
  · refine lv_iload_n hx hb dX4_isWithin_5 rfl (lv_at hl 0 rfl) ?_
    refine lv_iload_n hx hb dX4_isWithin_6 rfl (lv_at hl 2 rfl) ?_
    refine lv_icmp_gt (tgt := 14) hx hb dX4_isWithin_7 (by decide) (fun c_7 => ?_) (fun c_7 => ?_)
    · refine lv_iconst (v := 0) hx hb dX4_isWithin_14 (by decide) ?_
      exact bx_retz E hr hlk hM () rfl (by first | exact Or.inl ⟨rfl, inB_in c_2 c_7⟩ | exact Or.inr ⟨rfl, inB_lt c_2⟩ | exact Or.inr ⟨rfl, inB_gt c_7⟩) (by first | exact Or.inl rfl | exact Or.inr rfl | assumption | (split <;> simp)) dX4_isWithin_15
    · refine lv_iconst (v := 1) hx hb dX4_isWithin_10 (by decide) ?_
      refine lv_goto (tgt := 15) hx hb dX4_isWithin_11 (by decide) ?_
      exact bx_retz E hr hlk hM () rfl (by first | exact Or.inl ⟨rfl, inB_in c_2 c_7⟩ | exact Or.inr ⟨rfl, inB_lt c_2⟩ | exact Or.inr ⟨rfl, inB_gt c_7⟩) (by first | exact Or.inl rfl | exact Or.inr rfl | assumption | (split <;> simp)) dX4_isWithin_15

set_option maxHeartbeats 4000000 in
set_option maxRecDepth 100000 in
theorem bX4_isHook (l : Launch) (D : va_G) (t : bx_T) (A : Nat → Prop) (w : va_W) (v : Int32) : bx_Ci l yX4_isHook wsX4_isHook ({ frames := 1, cells := 0, slots := 0, locals := 22 }) D t A [.int v] w (fun (r : Int32) (u : Unit) => (r = 1 ∧ inB v 0 9 = true) ∨ (r = 0 ∧ inB v 0 9 = false)) (fun _ => w) 0 0 := by
  refine bx_enter (cc := cX4_isHook) (maxL := 1) (ret := some .boolean) (by decide) rfl (Nat.le_of_ble_eq_true rfl) ?_
  intro p e s m below meth c ls E hr hlk hnm hM hl
  have hl : lv_has ls 1 [(0, .int v)] := hl
  have hx := E.1.1
  have hb := E.1.2.1
  refine lv_iload_n hx hb dX4_isHook_0 rfl (lv_at hl 0 rfl) ?_
  refine lv_iconst (v := 0) hx hb dX4_isHook_1 (by decide) ?_
  refine lv_bipush (v := 9) hx hb dX4_isHook_2 (by decide) ?_
  refine bx_goi hM (bx_runS (As := [.int v, .int 0, .int 9]) (rest := []) E hM (bX4_isWithin l D t A (w) v 0 9) 3 gX4_isHook_X4_isWithin rfl rfl rfl (by decide +kernel) ⟨Nat.le_of_ble_eq_true rfl, Nat.le_of_ble_eq_true rfl⟩ rfl hl.1 rfl (Nat.le_of_ble_eq_true rfl) dX4_isHook_4 ⟨Nat.le_of_ble_eq_true rfl, Nat.le_of_ble_eq_true rfl⟩) (fun r u H locs hp hM => ?_)
  rcases hp with ⟨rfl, hp_4⟩ | ⟨rfl, hp_4⟩
  · have hM : bx_M D A s (w) H locs := hM
    exact bx_retz E hr hlk hM () rfl (by first | exact Or.inl ⟨rfl, hp_4⟩ | exact Or.inr ⟨rfl, hp_4⟩) (by first | exact Or.inl rfl | exact Or.inr rfl | assumption | (split <;> simp)) dX4_isHook_7
  · have hM : bx_M D A s (w) H locs := hM
    exact bx_retz E hr hlk hM () rfl (by first | exact Or.inl ⟨rfl, hp_4⟩ | exact Or.inr ⟨rfl, hp_4⟩) (by first | exact Or.inl rfl | exact Or.inr rfl | assumption | (split <;> simp)) dX4_isHook_7

set_option maxHeartbeats 4000000 in
set_option maxRecDepth 100000 in
theorem bX0_sortNumber (l : Launch) (D : va_G) (t : bx_T) (A : Nat → Prop) (w : va_W) (y : Nat) : bx_Ci l yX0_sortNumber wsX0_sortNumber ({ frames := 0, cells := 0, slots := 0, locals := 0 }) D t A [.ref y] w (fun (r : Int32) (_ : Unit) => r = 1) (fun _ => w) 0 0 := by
  refine bx_enter (cc := cX0_sortNumber) (maxL := 1) (ret := some .int) (by decide) rfl (Nat.le_of_ble_eq_true rfl) ?_
  intro p e s m below meth c ls E hr hlk hnm hM hl
  have hl : lv_has ls 1 [(0, .ref y)] := hl
  have hx := E.1.1
  have hb := E.1.2.1
  refine lv_iconst (v := 1) hx hb dX0_sortNumber_0 (by decide) ?_
  exact bx_reti E hr hlk hM () rfl (rfl) dX0_sortNumber_1

set_option maxHeartbeats 4000000 in
set_option maxRecDepth 100000 in
theorem bX1_sortNumber (l : Launch) (D : va_G) (t : bx_T) (A : Nat → Prop) (w : va_W) (y : Nat) : bx_Ci l yX1_sortNumber wsX1_sortNumber ({ frames := 0, cells := 0, slots := 0, locals := 0 }) D t A [.ref y] w (fun (r : Int32) (_ : Unit) => r = 3) (fun _ => w) 0 0 := by
  refine bx_enter (cc := cX1_sortNumber) (maxL := 1) (ret := some .int) (by decide) rfl (Nat.le_of_ble_eq_true rfl) ?_
  intro p e s m below meth c ls E hr hlk hnm hM hl
  have hl : lv_has ls 1 [(0, .ref y)] := hl
  have hx := E.1.1
  have hb := E.1.2.1
  refine lv_iconst (v := 3) hx hb dX1_sortNumber_0 (by decide) ?_
  exact bx_reti E hr hlk hM () rfl (rfl) dX1_sortNumber_1

set_option maxHeartbeats 4000000 in
set_option maxRecDepth 100000 in
theorem bX2_sortNumber (l : Launch) (D : va_G) (t : bx_T) (A : Nat → Prop) (w : va_W) (y : Nat) : bx_Ci l yX2_sortNumber wsX2_sortNumber ({ frames := 0, cells := 0, slots := 0, locals := 0 }) D t A [.ref y] w (fun (r : Int32) (_ : Unit) => r = 2) (fun _ => w) 0 0 := by
  refine bx_enter (cc := cX2_sortNumber) (maxL := 1) (ret := some .int) (by decide) rfl (Nat.le_of_ble_eq_true rfl) ?_
  intro p e s m below meth c ls E hr hlk hnm hM hl
  have hl : lv_has ls 1 [(0, .ref y)] := hl
  have hx := E.1.1
  have hb := E.1.2.1
  refine lv_iconst (v := 2) hx hb dX2_sortNumber_0 (by decide) ?_
  exact bx_reti E hr hlk hM () rfl (rfl) dX2_sortNumber_1

set_option maxHeartbeats 4000000 in
set_option maxRecDepth 100000 in
theorem bX3_strokesSoFar (l : Launch) (D : va_G) (t : bx_T) (A : Nat → Prop) (w : va_W) (y : Nat) : bx_Ci l yX3_strokesSoFar wsX3_strokesSoFar ({ frames := 0, cells := 0, slots := 0, locals := 0 }) D t A [.ref y] w (fun (r : Int32) (_ : Unit) => r = 0) (fun _ => w) 0 0 := by
  refine bx_enter (cc := cX3_strokesSoFar) (maxL := 1) (ret := some .int) (by decide) rfl (Nat.le_of_ble_eq_true rfl) ?_
  intro p e s m below meth c ls E hr hlk hnm hM hl
  have hl : lv_has ls 1 [(0, .ref y)] := hl
  have hx := E.1.1
  have hb := E.1.2.1
  refine lv_iconst (v := 0) hx hb dX3_strokesSoFar_0 (by decide) ?_
  exact bx_reti E hr hlk hM () rfl (rfl) dX3_strokesSoFar_1

set_option maxHeartbeats 4000000 in
set_option maxRecDepth 100000 in
theorem bX3_humOrNone (l : Launch) (D : va_G) (t : bx_T) (A : Nat → Prop) (w : va_W) (y : Nat) : bx_Ci l yX3_humOrNone wsX3_humOrNone ({ frames := 0, cells := 0, slots := 0, locals := 0 }) D t A [.ref y] w (fun (r : Int32) (_ : Unit) => r = 0) (fun _ => w) 0 0 := by
  refine bx_enter (cc := cX3_humOrNone) (maxL := 1) (ret := some .int) (by decide) rfl (Nat.le_of_ble_eq_true rfl) ?_
  intro p e s m below meth c ls E hr hlk hnm hM hl
  have hl : lv_has ls 1 [(0, .ref y)] := hl
  have hx := E.1.1
  have hb := E.1.2.1
  refine lv_iconst (v := 0) hx hb dX3_humOrNone_0 (by decide) ?_
  exact bx_reti E hr hlk hM () rfl (rfl) dX3_humOrNone_1

set_option maxHeartbeats 4000000 in
set_option maxRecDepth 100000 in
theorem bX3_alarmOrNone (l : Launch) (D : va_G) (t : bx_T) (A : Nat → Prop) (w : va_W) (y : Nat) : bx_Ci l yX3_alarmOrNone wsX3_alarmOrNone ({ frames := 0, cells := 0, slots := 0, locals := 0 }) D t A [.ref y] w (fun (r : Int32) (_ : Unit) => r = 0) (fun _ => w) 0 0 := by
  refine bx_enter (cc := cX3_alarmOrNone) (maxL := 1) (ret := some .int) (by decide) rfl (Nat.le_of_ble_eq_true rfl) ?_
  intro p e s m below meth c ls E hr hlk hnm hM hl
  have hl : lv_has ls 1 [(0, .ref y)] := hl
  have hx := E.1.1
  have hb := E.1.2.1
  refine lv_iconst (v := 0) hx hb dX3_alarmOrNone_0 (by decide) ?_
  exact bx_reti E hr hlk hM () rfl (rfl) dX3_alarmOrNone_1

set_option maxHeartbeats 4000000 in
set_option maxRecDepth 100000 in
theorem bX0_strokesSoFar (l : Launch) (D : va_G) (t : bx_T) (A : Nat → Prop) (h : Nat) (a : Nat → Nat) (B : bl_S) (Z : va_W) (y : Nat) (hy : y ∈ bL B) (hk : ¬ bK B y = 3) : bx_Ci l yX0_strokesSoFar wsX0_strokesSoFar ({ frames := 0, cells := 0, slots := 0, locals := 0 }) D t A [.ref y] (bl_w t h a B Z) (fun (r : Int32) (_ : Unit) => r = bV B 1 y) (fun _ => bl_w t h a B Z) 0 0 := by
  refine bx_enter (cc := cX0_strokesSoFar) (maxL := 1) (ret := some .int) (by decide) rfl (Nat.le_of_ble_eq_true rfl) ?_
  intro p e s m below meth c ls E hr hlk hnm hM hl
  have hl : lv_has ls 1 [(0, .ref y)] := hl
  have hx := E.1.1
  have hb := E.1.2.1
  have h0 : ∀ w ∈ wsX00, w ∈ wsX0_strokesSoFar := by decide +kernel
  have h2 : ∀ w ∈ wsX20, w ∈ wsX0_strokesSoFar := by decide +kernel
  refine lv_aload_n hx hb dX0_strokesSoFar_0 rfl (lv_at hl 0 rfl) ?_
  refine bl_gS E h0 h2 hM hy hk (by decide +kernel) (fun _ h9 => h9) dX0_strokesSoFar_1 ?_
  exact bx_reti E hr hlk hM () rfl (rfl) dX0_strokesSoFar_4

set_option maxHeartbeats 4000000 in
set_option maxRecDepth 100000 in
theorem bX0_alarmOrNone (l : Launch) (D : va_G) (t : bx_T) (A : Nat → Prop) (h : Nat) (a : Nat → Nat) (B : bl_S) (Z : va_W) (y : Nat) (hy : y ∈ bL B) (hk : ¬ bK B y = 3) : bx_Ci l yX0_alarmOrNone wsX0_alarmOrNone ({ frames := 0, cells := 0, slots := 0, locals := 0 }) D t A [.ref y] (bl_w t h a B Z) (fun (r : Int32) (_ : Unit) => r = bV B 2 y) (fun _ => bl_w t h a B Z) 0 0 := by
  refine bx_enter (cc := cX0_alarmOrNone) (maxL := 1) (ret := some .int) (by decide) rfl (Nat.le_of_ble_eq_true rfl) ?_
  intro p e s m below meth c ls E hr hlk hnm hM hl
  have hl : lv_has ls 1 [(0, .ref y)] := hl
  have hx := E.1.1
  have hb := E.1.2.1
  have h0 : ∀ w ∈ wsX00, w ∈ wsX0_alarmOrNone := by decide +kernel
  have h2 : ∀ w ∈ wsX20, w ∈ wsX0_alarmOrNone := by decide +kernel
  refine lv_aload_n hx hb dX0_alarmOrNone_0 rfl (lv_at hl 0 rfl) ?_
  refine bl_gA E h0 h2 hM hy hk (by decide +kernel) (fun _ h9 => h9) dX0_alarmOrNone_1 ?_
  exact bx_reti E hr hlk hM () rfl (rfl) dX0_alarmOrNone_4

set_option maxHeartbeats 4000000 in
set_option maxRecDepth 100000 in
theorem bX0_wearSoFar (l : Launch) (D : va_G) (t : bx_T) (A : Nat → Prop) (h : Nat) (a : Nat → Nat) (B : bl_S) (Z : va_W) (y : Nat) (hI : bl_I B) (hy : y ∈ bL B) (hk : ¬ bK B y = 3) : bx_Ci l yX0_wearSoFar wsX0_wearSoFar ({ frames := 0, cells := 0, slots := 0, locals := 0 }) D t A [.ref y] (bl_w t h a B Z) (fun (r : Int32) (_ : Unit) => r = bf_wear B y) (fun _ => bl_w t h a B Z) 0 0 := by
  refine bx_enter (cc := cX0_wearSoFar) (maxL := 1) (ret := some .int) (by decide) rfl (Nat.le_of_ble_eq_true rfl) ?_
  intro p e s m below meth c ls E hr hlk hnm hM hl
  have hl : lv_has ls 1 [(0, .ref y)] := hl
  have hx := E.1.1
  have hb := E.1.2.1
  have h0 : ∀ w ∈ wsX00, w ∈ wsX0_wearSoFar := by decide +kernel
  have h1 : ∀ w ∈ wsX10, w ∈ wsX0_wearSoFar := by decide +kernel
  have h2 : ∀ w ∈ wsX20, w ∈ wsX0_wearSoFar := by decide +kernel
  refine lv_aload_n hx hb dX0_wearSoFar_0 rfl (lv_at hl 0 rfl) ?_
  refine bl_gC E h0 h2 hM hy hk (by decide +kernel) (fun _ h9 => h9) dX0_wearSoFar_1 (fun hc_1 => ?_) (fun z_1 hc_1 => ?_)
  · have hc_1 := hc_1
    refine lv_ifnonnullN hx hb dX0_wearSoFar_4 ?_
    refine lv_iconst (v := 0) hx hb dX0_wearSoFar_7 (by decide) ?_
    refine lv_goto (tgt := 18) hx hb dX0_wearSoFar_8 (by decide) ?_
    exact bx_reti E hr hlk hM () rfl (by simp [bf_wear, hk, hc_1]) dX0_wearSoFar_18
  · have hm_z_1 := hI.2.2 y hy z_1 hc_1
    refine lv_ifnonnull (tgt := 11) hx hb dX0_wearSoFar_4 (by decide) ?_
    refine lv_aload_n hx hb dX0_wearSoFar_11 rfl (lv_at hl 0 rfl) ?_
    refine bl_gC E h0 h2 hM hy hk (by decide +kernel) (fun _ h9 => h9) dX0_wearSoFar_12 (fun hn => absurd (hc_1.symm.trans hn) (by simp)) (fun z2 hz2 => ?_)
    obtain rfl := Option.some.inj (hc_1.symm.trans hz2)
    refine bl_gR E h1 hM hm_z_1.1 hm_z_1.2 (by decide +kernel) (fun _ h9 => h9) dX0_wearSoFar_15 ?_
    exact bx_reti E hr hlk hM () rfl (by simp [bf_wear, hk, hc_1]) dX0_wearSoFar_18

set_option maxHeartbeats 4000000 in
set_option maxRecDepth 100000 in
theorem bX1_wearSoFar (l : Launch) (D : va_G) (t : bx_T) (A : Nat → Prop) (h : Nat) (a : Nat → Nat) (B : bl_S) (Z : va_W) (y : Nat) (hy : y ∈ bL B) (hk : bK B y = 3) : bx_Ci l yX1_wearSoFar wsX1_wearSoFar ({ frames := 0, cells := 0, slots := 0, locals := 0 }) D t A [.ref y] (bl_w t h a B Z) (fun (r : Int32) (_ : Unit) => r = bV B 4 y) (fun _ => bl_w t h a B Z) 0 0 := by
  refine bx_enter (cc := cX1_wearSoFar) (maxL := 1) (ret := some .int) (by decide) rfl (Nat.le_of_ble_eq_true rfl) ?_
  intro p e s m below meth c ls E hr hlk hnm hM hl
  have hl : lv_has ls 1 [(0, .ref y)] := hl
  have hx := E.1.1
  have hb := E.1.2.1
  have h1 : ∀ w ∈ wsX10, w ∈ wsX1_wearSoFar := by decide +kernel
  refine lv_aload_n hx hb dX1_wearSoFar_0 rfl (lv_at hl 0 rfl) ?_
  refine bl_gR E h1 hM hy hk (by decide +kernel) (fun _ h9 => h9) dX1_wearSoFar_1 ?_
  exact bx_reti E hr hlk hM () rfl (rfl) dX1_wearSoFar_4

set_option maxHeartbeats 4000000 in
set_option maxRecDepth 100000 in
theorem bX2_humOrNone (l : Launch) (D : va_G) (t : bx_T) (A : Nat → Prop) (h : Nat) (a : Nat → Nat) (B : bl_S) (Z : va_W) (y : Nat) (hy : y ∈ bL B) (hk : bK B y = 2) : bx_Ci l yX2_humOrNone wsX2_humOrNone ({ frames := 0, cells := 0, slots := 0, locals := 0 }) D t A [.ref y] (bl_w t h a B Z) (fun (r : Int32) (_ : Unit) => r = bV B 3 y) (fun _ => bl_w t h a B Z) 0 0 := by
  refine bx_enter (cc := cX2_humOrNone) (maxL := 1) (ret := some .int) (by decide) rfl (Nat.le_of_ble_eq_true rfl) ?_
  intro p e s m below meth c ls E hr hlk hnm hM hl
  have hl : lv_has ls 1 [(0, .ref y)] := hl
  have hx := E.1.1
  have hb := E.1.2.1
  have h2 : ∀ w ∈ wsX20, w ∈ wsX2_humOrNone := by decide +kernel
  refine lv_aload_n hx hb dX2_humOrNone_0 rfl (lv_at hl 0 rfl) ?_
  refine bl_gH E h2 hM hy hk (by decide +kernel) (fun _ h9 => h9) dX2_humOrNone_1 ?_
  exact bx_reti E hr hlk hM () rfl (rfl) dX2_humOrNone_4

set_option maxHeartbeats 4000000 in
set_option maxRecDepth 100000 in
theorem bX4_tell (l : Launch) (D : va_G) (t : bx_T) (A : Nat → Prop) (h : Nat) (a : Nat → Nat) (B : bl_S) (Z : va_W) (p0 : Int32) : bx_Ci l yX4_tell wsX4_tell ({ frames := 1, cells := 0, slots := 0, locals := 22 }) D t A [.ref h, .int p0] (bl_w t h a B Z) (fun (r : Int32) (u : bl_S) => r = -10 - p0 ∧ u = bf_tell B p0) (fun u => bl_w t h a u Z) 0 0 := by
  refine bx_enter (cc := cX4_tell) (maxL := 2) (ret := some .int) (by decide) rfl (Nat.le_of_ble_eq_true rfl) ?_
  intro p e s m below meth c ls E hr hlk hnm hM hl
  have hl : lv_has ls 2 [(0, .ref h), (1, .int p0)] := hl
  have hx := E.1.1
  have hb := E.1.2.1
  have hin : ∀ w ∈ wsX40, w ∈ wsX4_tell := by decide +kernel
  refine lv_iload_n hx hb dX4_tell_0 rfl (lv_at hl 1 rfl) ?_
  refine lv_iconst (v := 1) hx hb dX4_tell_1 (by decide) ?_
  refine lv_bipush (v := 6) hx hb dX4_tell_2 (by decide) ?_
  refine bx_goi hM (bx_runS (As := [.int p0, .int 1, .int 6]) (rest := []) E hM (bX4_isWithin l D t A (bl_w t h a B Z) p0 1 6) 3 gX4_tell_X4_isWithin rfl rfl rfl (by decide +kernel) ⟨Nat.le_of_ble_eq_true rfl, Nat.le_of_ble_eq_true rfl⟩ rfl hl.1 rfl (Nat.le_of_ble_eq_true rfl) dX4_tell_4 ⟨Nat.le_of_ble_eq_true rfl, Nat.le_of_ble_eq_true rfl⟩) (fun r u H locs hp hM => ?_)
  rcases hp with ⟨rfl, hp_4⟩ | ⟨rfl, hp_4⟩
  · have hM : bx_M D A s (bl_w t h a B Z) H locs := hM
    refine lv_if_eq (tgt := 20) hx hb dX4_tell_7 (by decide) (fun c => absurd c (by decide)) (fun _ => ?_)
    refine lv_aload_n hx hb dX4_tell_10 rfl (lv_at hl 0 rfl) ?_
    refine bl_get E hin hM 9 (by decide) (by decide +kernel) rfl dX4_tell_11 ?_
    refine lv_iload_n hx hb dX4_tell_14 rfl (lv_at hl 1 rfl) ?_
    refine lv_dup2_11 hx hb dX4_tell_15 rfl rfl ?_
    refine bl_ald E hM 2 (by decide) (vp_in16 hp_4) dX4_tell_16 ?_
    refine lv_iconst (v := 1) hx hb dX4_tell_17 (by decide) ?_
    refine lv_iadd hx hb dX4_tell_18 ?_
    refine bl_ast E hM 2 (by decide) (vp_in16 hp_4) dX4_tell_19 (fun H locs hM => ?_)
    have hM : bx_M D A s (bl_w t h a (bl_ai B 2 p0.toNatClampNeg ((B.1 2 p0.toNatClampNeg) + 1)) Z) H locs := hM
    refine lv_bipush (v := (-10)) hx hb dX4_tell_20 (by decide) ?_
    refine lv_iload_n hx hb dX4_tell_22 rfl (lv_at hl 1 rfl) ?_
    refine lv_isub hx hb dX4_tell_23 ?_
    exact bx_reti E hr hlk hM (bl_ai B 2 p0.toNatClampNeg ((B.1 2 p0.toNatClampNeg) + 1)) rfl (by simp [bf_tell, hp_4]) dX4_tell_24
  · have hM : bx_M D A s (bl_w t h a B Z) H locs := hM
    refine lv_if_eq (tgt := 20) hx hb dX4_tell_7 (by decide) (fun _ => ?_) (fun c => absurd c (by decide))
    refine lv_bipush (v := (-10)) hx hb dX4_tell_20 (by decide) ?_
    refine lv_iload_n hx hb dX4_tell_22 rfl (lv_at hl 1 rfl) ?_
    refine lv_isub hx hb dX4_tell_23 ?_
    exact bx_reti E hr hlk hM B rfl (by simp [bf_tell, hp_4]) dX4_tell_24

set_option maxHeartbeats 4000000 in
set_option maxRecDepth 100000 in
theorem bX4_tellWhyNotN (l : Launch) (D : va_G) (t : bx_T) (A : Nat → Prop) (h : Nat) (a : Nat → Nat) (B : bl_S) (Z : va_W) : bx_Ci l yX4_tellWhyNot wsX4_tellWhyNot ({ frames := 2, cells := 0, slots := 0, locals := 43 }) D t A [.ref h, .null] (bl_w t h a B Z) (fun (r : Int32) (u : bl_S) => r = -10 - 1 ∧ u = bf_tell B 1) (fun u => bl_w t h a u Z) 0 0 := by
  refine bx_enter (cc := cX4_tellWhyNot) (maxL := 2) (ret := some .int) (by decide) rfl (Nat.le_of_ble_eq_true rfl) ?_
  intro p e s m below meth c ls E hr hlk hnm hM hl
  have hl : lv_has ls 2 [(0, .ref h), (1, .null)] := hl
  have hx := E.1.1
  have hb := E.1.2.1
  have hin : ∀ w ∈ wsX40, w ∈ wsX4_tellWhyNot := by decide +kernel
  refine lv_aload_n hx hb dX4_tellWhyNot_0 rfl (lv_at hl 0 rfl) ?_
  refine lv_aload_nN hx hb dX4_tellWhyNot_1 rfl (lv_at hl 1 rfl) ?_
  refine lv_ifnonnullN hx hb dX4_tellWhyNot_2 ?_
  refine lv_iconst (v := 1) hx hb dX4_tellWhyNot_5 (by decide) ?_
  refine lv_goto (tgt := 10) hx hb dX4_tellWhyNot_6 (by decide) ?_
  refine bx_goi hM (bx_runV (As := [.int 1]) (rest := []) E hM (bX4_tell l D t A h a B Z 1) (bl_recv E hM) 1 gX4_tellWhyNot_X4_tell rfl rfl rfl (by decide +kernel) ⟨Nat.le_of_ble_eq_true rfl, Nat.le_of_ble_eq_true rfl⟩ rfl hl.1 rfl (Nat.le_of_ble_eq_true rfl) dX4_tellWhyNot_10 ⟨Nat.le_of_ble_eq_true rfl, Nat.le_of_ble_eq_true rfl⟩) (fun r u H locs hp hM => ?_)
  obtain ⟨rfl, rfl⟩ := hp
  have hM : bx_M D A s (bl_w t h a (bf_tell B 1) Z) H locs := hM
  exact bx_reti E hr hlk hM (bf_tell B 1) rfl (⟨rfl, rfl⟩) dX4_tellWhyNot_13

set_option maxHeartbeats 4000000 in
set_option maxRecDepth 100000 in
theorem bX4_tellWhyNotS (l : Launch) (D : va_G) (t : bx_T) (A : Nat → Prop) (h : Nat) (a : Nat → Nat) (B : bl_S) (Z : va_W) (y : Nat) : bx_Ci l yX4_tellWhyNot wsX4_tellWhyNot ({ frames := 2, cells := 0, slots := 0, locals := 43 }) D t A [.ref h, .ref y] (bl_w t h a B Z) (fun (r : Int32) (u : bl_S) => r = -10 - 2 ∧ u = bf_tell B 2) (fun u => bl_w t h a u Z) 0 0 := by
  refine bx_enter (cc := cX4_tellWhyNot) (maxL := 2) (ret := some .int) (by decide) rfl (Nat.le_of_ble_eq_true rfl) ?_
  intro p e s m below meth c ls E hr hlk hnm hM hl
  have hl : lv_has ls 2 [(0, .ref h), (1, .ref y)] := hl
  have hx := E.1.1
  have hb := E.1.2.1
  have hin : ∀ w ∈ wsX40, w ∈ wsX4_tellWhyNot := by decide +kernel
  refine lv_aload_n hx hb dX4_tellWhyNot_0 rfl (lv_at hl 0 rfl) ?_
  refine lv_aload_n hx hb dX4_tellWhyNot_1 rfl (lv_at hl 1 rfl) ?_
  refine lv_ifnonnull (tgt := 9) hx hb dX4_tellWhyNot_2 (by decide) ?_
  refine lv_iconst (v := 2) hx hb dX4_tellWhyNot_9 (by decide) ?_
  refine bx_goi hM (bx_runV (As := [.int 2]) (rest := []) E hM (bX4_tell l D t A h a B Z 2) (bl_recv E hM) 1 gX4_tellWhyNot_X4_tell rfl rfl rfl (by decide +kernel) ⟨Nat.le_of_ble_eq_true rfl, Nat.le_of_ble_eq_true rfl⟩ rfl hl.1 rfl (Nat.le_of_ble_eq_true rfl) dX4_tellWhyNot_10 ⟨Nat.le_of_ble_eq_true rfl, Nat.le_of_ble_eq_true rfl⟩) (fun r u H locs hp hM => ?_)
  obtain ⟨rfl, rfl⟩ := hp
  have hM : bx_M D A s (bl_w t h a (bf_tell B 2) Z) H locs := hM
  exact bx_reti E hr hlk hM (bf_tell B 2) rfl (⟨rfl, rfl⟩) dX4_tellWhyNot_13

set_option maxHeartbeats 4000000 in
set_option maxRecDepth 100000 in
theorem bX4_goOff (l : Launch) (D : va_G) (t : bx_T) (A : Nat → Prop) (h : Nat) (a : Nat → Nat) (B : bl_S) (Z : va_W) (y : Nat) (hy : y ∈ bL B) (hk : ¬ bK B y = 3) : bx_Ci l yX4_goOff wsX4_goOff ({ frames := 2, cells := 0, slots := 0, locals := 43 }) D t A [.ref h, .ref y] (bl_w t h a B Z) (fun (r : Int32) (u : bl_S) => r = (bf_goOff B y).1 ∧ u = (bf_goOff B y).2) (fun u => bl_w t h a u Z) 0 0 := by
  refine bx_enter (cc := cX4_goOff) (maxL := 2) (ret := some .int) (by decide) rfl (Nat.le_of_ble_eq_true rfl) ?_
  intro p e s m below meth c ls E hr hlk hnm hM hl
  have hl : lv_has ls 2 [(0, .ref h), (1, .ref y)] := hl
  have hx := E.1.1
  have hb := E.1.2.1
  have hin : ∀ w ∈ wsX40, w ∈ wsX4_goOff := by decide +kernel
  have h0 : ∀ w ∈ wsX00, w ∈ wsX4_goOff := by decide +kernel
  have h2 : ∀ w ∈ wsX20, w ∈ wsX4_goOff := by decide +kernel
  refine lv_aload_n hx hb dX4_goOff_0 rfl (lv_at hl 1 rfl) ?_
  refine bl_gA E h0 h2 hM hy hk (by decide +kernel) (fun _ h9 => h9) dX4_goOff_1 ?_
  refine lv_if_ne (tgt := 13) hx hb dX4_goOff_4 (by decide) (fun c_4 => ?_) (fun c_4 => ?_)
  · refine lv_aload_n hx hb dX4_goOff_13 rfl (lv_at hl 0 rfl) ?_
    refine lv_aload_n hx hb dX4_goOff_14 rfl (lv_at hl 1 rfl) ?_
    refine bl_gA E h0 h2 hM hy hk (by decide +kernel) (fun _ h9 => h9) dX4_goOff_15 ?_
    refine bl_put (B' := bl_s B 5 (bV B 2 y)) E hin hM 10 (by decide) (by decide +kernel) rfl rfl rfl rfl dX4_goOff_18 (fun H locs hM => ?_)
    have hM : bx_M D A s (bl_w t h a (bl_s B 5 (bV B 2 y)) Z) H locs := hM
    refine lv_aload_n hx hb dX4_goOff_21 rfl (lv_at hl 0 rfl) ?_
    refine lv_bipush (v := 6) hx hb dX4_goOff_22 (by decide) ?_
    refine bx_goi hM (bx_runV (As := [.int 6]) (rest := []) E hM (bX4_tell l D t A h a (bl_s B 5 (bV B 2 y)) Z 6) (bl_recv E hM) 1 gX4_goOff_X4_tell rfl rfl rfl (by decide +kernel) ⟨Nat.le_of_ble_eq_true rfl, Nat.le_of_ble_eq_true rfl⟩ rfl hl.1 rfl (Nat.le_of_ble_eq_true rfl) dX4_goOff_24 ⟨Nat.le_of_ble_eq_true rfl, Nat.le_of_ble_eq_true rfl⟩) (fun r u H locs hp hM => ?_)
    obtain ⟨rfl, rfl⟩ := hp
    have hM : bx_M D A s (bl_w t h a (bf_tell (bl_s B 5 (bV B 2 y)) 6) Z) H locs := hM
    exact bx_reti E hr hlk hM (bf_tell (bl_s B 5 (bV B 2 y)) 6) rfl (by simp [bf_goOff, c_4]) dX4_goOff_27
  · refine lv_aload_n hx hb dX4_goOff_7 rfl (lv_at hl 0 rfl) ?_
    refine lv_iconst (v := 1) hx hb dX4_goOff_8 (by decide) ?_
    refine bx_goi hM (bx_runV (As := [.int 1]) (rest := []) E hM (bX4_tell l D t A h a B Z 1) (bl_recv E hM) 1 gX4_goOff_X4_tell rfl rfl rfl (by decide +kernel) ⟨Nat.le_of_ble_eq_true rfl, Nat.le_of_ble_eq_true rfl⟩ rfl hl.1 rfl (Nat.le_of_ble_eq_true rfl) dX4_goOff_9 ⟨Nat.le_of_ble_eq_true rfl, Nat.le_of_ble_eq_true rfl⟩) (fun r u H locs hp hM => ?_)
    obtain ⟨rfl, rfl⟩ := hp
    have hM : bx_M D A s (bl_w t h a (bf_tell B 1) Z) H locs := hM
    exact bx_reti E hr hlk hM (bf_tell B 1) rfl (by simp [bf_goOff, c_4]) dX4_goOff_12

set_option maxHeartbeats 4000000 in
set_option maxRecDepth 100000 in
theorem bX4_sound (l : Launch) (D : va_G) (t : bx_T) (A : Nat → Prop) (h : Nat) (a : Nat → Nat) (B : bl_S) (Z : va_W) (y : Nat) (hI : bl_I B) (hy : y ∈ bL B) (hk : ¬ bK B y = 3) : bx_Ci l yX4_sound wsX4_sound ({ frames := 3, cells := 0, slots := 0, locals := 64 }) D t A [.ref h, .ref y] (bl_w t h a B Z) (fun (r : Int32) (u : bl_S) => r = (bf_sound B y).1 ∧ u = (bf_sound B y).2) (fun u => bl_w t h a u Z) 0 0 := by
  refine bx_enter (cc := cX4_sound) (maxL := 3) (ret := some .int) (by decide) rfl (Nat.le_of_ble_eq_true rfl) ?_
  intro p e s m below meth c ls E hr hlk hnm hM hl
  have hl : lv_has ls 3 [(0, .ref h), (1, .ref y)] := hl
  have hx := E.1.1
  have hb := E.1.2.1
  have hin : ∀ w ∈ wsX40, w ∈ wsX4_sound := by decide +kernel
  have h0 : ∀ w ∈ wsX00, w ∈ wsX4_sound := by decide +kernel
  have h1 : ∀ w ∈ wsX10, w ∈ wsX4_sound := by decide +kernel
  have h2 : ∀ w ∈ wsX20, w ∈ wsX4_sound := by decide +kernel
  refine lv_aload_n hx hb dX4_sound_0 rfl (lv_at hl 1 rfl) ?_
  refine lv_dup hx hb dX4_sound_1 rfl ?_
  refine bl_gS E h0 h2 hM hy hk (by decide +kernel) (fun _ h9 => h9) dX4_sound_2 ?_
  refine lv_iconst (v := 1) hx hb dX4_sound_5 (by decide) ?_
  refine lv_iadd hx hb dX4_sound_6 ?_
  refine bl_pS E h0 h2 hM hy hk ((bV B 1 y) + 1) (by decide +kernel) (fun _ h9 => h9) dX4_sound_7 (fun H locs hM => ?_)
  have hM : bx_M D A s (bl_w t h a (bl_v B 1 y ((bV B 1 y) + 1)) Z) H locs := hM
  refine lv_aload_n hx hb dX4_sound_10 rfl (lv_at hl 1 rfl) ?_
  refine bl_gS E h0 h2 hM hy hk (by decide +kernel) (fun _ h9 => h9) dX4_sound_11 ?_
  refine lv_iconst (v := 5) hx hb dX4_sound_14 (by decide) ?_
  refine lv_icmp_le (tgt := 24) hx hb dX4_sound_15 (by decide) (fun c_15 => ?_) (fun c_15 => ?_)
  · have c_15 := Int32.not_lt.mpr c_15
    refine lv_aload_n hx hb dX4_sound_24 rfl (lv_at hl 1 rfl) ?_
    refine bl_gC E h0 h2 hM hy hk (by decide +kernel) (fun _ h9 => h9) dX4_sound_25 (fun hc_25 => ?_) (fun z_25 hc_25 => ?_)
    · have hc_25 := hc_25
      refine lv_astore_nN (lv' := [(2, .null), (0, .ref h), (1, .ref y)]) hx hb dX4_sound_28 rfl hl (by decide) rfl (fun ls hl => ?_)
      refine lv_aload_nN hx hb dX4_sound_29 rfl (lv_at hl 0 rfl) ?_
      refine lv_ifnonnullN hx hb dX4_sound_30 ?_
      refine lv_aload_n hx hb dX4_sound_33 rfl (lv_at hl 1 rfl) ?_
      refine lv_iconst (v := 1) hx hb dX4_sound_34 (by decide) ?_
      refine bx_goi hM (bx_runV (As := [.int 1]) (rest := []) E hM (bX4_tell l D t A h a (bl_v B 1 y ((bV B 1 y) + 1)) Z 1) (bl_recv E hM) 1 gX4_sound_X4_tell rfl rfl rfl (by decide +kernel) ⟨Nat.le_of_ble_eq_true rfl, Nat.le_of_ble_eq_true rfl⟩ rfl hl.1 rfl (Nat.le_of_ble_eq_true rfl) dX4_sound_35 ⟨Nat.le_of_ble_eq_true rfl, Nat.le_of_ble_eq_true rfl⟩) (fun r u H locs hp hM => ?_)
      obtain ⟨rfl, rfl⟩ := hp
      have hM : bx_M D A s (bl_w t h a (bf_tell (bl_v B 1 y ((bV B 1 y) + 1)) 1) Z) H locs := hM
      exact bx_reti E hr hlk hM (bf_tell (bl_v B 1 y ((bV B 1 y) + 1)) 1) rfl (by simp [bf_sound, c_15, hc_25]) dX4_sound_38
    · have hm_z_25 := hI.2.2 y hy z_25 hc_25
      refine lv_astore_n (lv' := [(2, .ref z_25), (0, .ref h), (1, .ref y)]) hx hb dX4_sound_28 rfl hl (by decide) rfl (fun ls hl => ?_)
      refine lv_aload_n hx hb dX4_sound_29 rfl (lv_at hl 0 rfl) ?_
      refine lv_ifnonnull (tgt := 39) hx hb dX4_sound_30 (by decide) ?_
      refine lv_aload_n hx hb dX4_sound_39 rfl (lv_at hl 0 rfl) ?_
      refine lv_dup hx hb dX4_sound_40 rfl ?_
      refine bl_gR E h1 hM hm_z_25.1 hm_z_25.2 (by decide +kernel) (fun _ h9 => h9) dX4_sound_41 ?_
      refine lv_iconst (v := 1) hx hb dX4_sound_44 (by decide) ?_
      refine lv_iadd hx hb dX4_sound_45 ?_
      refine bl_pR E h1 hM hm_z_25.1 hm_z_25.2 ((bV (bl_v B 1 y ((bV B 1 y) + 1)) 4 z_25) + 1) (by decide +kernel) (fun _ h9 => h9) dX4_sound_46 (fun H locs hM => ?_)
      have hM : bx_M D A s (bl_w t h a (bl_v (bl_v B 1 y ((bV B 1 y) + 1)) 4 z_25 ((bV (bl_v B 1 y ((bV B 1 y) + 1)) 4 z_25) + 1)) Z) H locs := hM
      refine lv_aload_n hx hb dX4_sound_49 rfl (lv_at hl 2 rfl) ?_
      refine bl_gWb E h0 h2 hM hy hk (by decide +kernel) (fun x h9 => u_same (E.1.2.2.2.2 (.sameField "BellLoft$Bell" "BellLoft$Thing" "weight" "I") (by decide +kernel)) x h9) dX4_sound_50 ?_
      refine lv_aload_n hx hb dX4_sound_53 rfl (lv_at hl 0 rfl) ?_
      refine bl_gWc E h1 hM hm_z_25.1 hm_z_25.2 (by decide +kernel) (fun x h9 => u_same (E.1.2.2.2.2 (.sameField "BellLoft$Clapper" "BellLoft$Thing" "weight" "I") (by decide +kernel)) x h9) dX4_sound_54 ?_
      refine lv_iadd hx hb dX4_sound_57 ?_
      refine lv_aload_n hx hb dX4_sound_58 rfl (lv_at hl 2 rfl) ?_
      by_cases hk2_59 : bK (bl_v (bl_v B 1 y ((bV B 1 y) + 1)) 4 z_25 ((bV (bl_v B 1 y ((bV B 1 y) + 1)) 4 z_25) + 1)) y = 2
      · refine bx_goi hM (bx_runU (As := []) (rest := [.int ((bV (bl_v (bl_v B 1 y ((bV B 1 y) + 1)) 4 z_25 ((bV (bl_v B 1 y ((bV B 1 y) + 1)) 4 z_25) + 1)) 0 y) + (bV (bl_v (bl_v B 1 y ((bV B 1 y) + 1)) 4 z_25 ((bV (bl_v B 1 y ((bV B 1 y) + 1)) 4 z_25) + 1)) 0 z_25))]) E hM (bX2_humOrNone l D t A h a (bl_v (bl_v B 1 y ((bV B 1 y) + 1)) 4 z_25 ((bV (bl_v B 1 y ((bV B 1 y) + 1)) 4 z_25) + 1)) Z y hy hk2_59) (bl_recv2 E hM hy hk2_59) (va_cwO 0 E.1.2.2.2.2 gX4_sound_X2_humOrNone_u154X2 rfl rfl rfl (show Cond.code yX3_humOrNone cX3_humOrNone 1 (some .int) ∈ wsX4_sound by decide +kernel) (by decide +kernel) ⟨Nat.le_of_ble_eq_true rfl, Nat.le_of_ble_eq_true rfl⟩) rfl hl.1 rfl (Nat.le_of_ble_eq_true rfl) dX4_sound_59 ⟨Nat.le_of_ble_eq_true rfl, Nat.le_of_ble_eq_true rfl⟩) (fun r u H locs hp hM => ?_)
        subst hp
        have hM : bx_M D A s (bl_w t h a (bl_v (bl_v B 1 y ((bV B 1 y) + 1)) 4 z_25 ((bV (bl_v B 1 y ((bV B 1 y) + 1)) 4 z_25) + 1)) Z) H locs := hM
        refine lv_iadd hx hb dX4_sound_62 ?_
        exact bx_reti E hr hlk hM (bl_v (bl_v B 1 y ((bV B 1 y) + 1)) 4 z_25 ((bV (bl_v B 1 y ((bV B 1 y) + 1)) 4 z_25) + 1)) rfl (by simp [bf_sound, c_15, hc_25, hk2_59]) dX4_sound_63
      · refine bx_goi hM (bx_runU (As := []) (rest := [.int ((bV (bl_v (bl_v B 1 y ((bV B 1 y) + 1)) 4 z_25 ((bV (bl_v B 1 y ((bV B 1 y) + 1)) 4 z_25) + 1)) 0 y) + (bV (bl_v (bl_v B 1 y ((bV B 1 y) + 1)) 4 z_25 ((bV (bl_v B 1 y ((bV B 1 y) + 1)) 4 z_25) + 1)) 0 z_25))]) E hM (bX3_humOrNone l D t A (bl_w t h a (bl_v (bl_v B 1 y ((bV B 1 y) + 1)) 4 z_25 ((bV (bl_v B 1 y ((bV B 1 y) + 1)) 4 z_25) + 1)) Z) y) (bl_recv1 E hM hy hk hk2_59) (va_cwU 0 E.1.2.2.2.2 gX4_sound_X3_humOrNone_u154X0 rfl rfl rfl rfl (by decide +kernel) ⟨Nat.le_of_ble_eq_true rfl, Nat.le_of_ble_eq_true rfl⟩) rfl hl.1 rfl (Nat.le_of_ble_eq_true rfl) dX4_sound_59 ⟨Nat.le_of_ble_eq_true rfl, Nat.le_of_ble_eq_true rfl⟩) (fun r u H locs hp hM => ?_)
        subst hp
        have hM : bx_M D A s (bl_w t h a (bl_v (bl_v B 1 y ((bV B 1 y) + 1)) 4 z_25 ((bV (bl_v B 1 y ((bV B 1 y) + 1)) 4 z_25) + 1)) Z) H locs := hM
        refine lv_iadd hx hb dX4_sound_62 ?_
        exact bx_reti E hr hlk hM (bl_v (bl_v B 1 y ((bV B 1 y) + 1)) 4 z_25 ((bV (bl_v B 1 y ((bV B 1 y) + 1)) 4 z_25) + 1)) rfl (by simp [bf_sound, c_15, hc_25, hk2_59]) dX4_sound_63
  · have c_15 := Int32.not_le.mp c_15
    refine lv_aload_n hx hb dX4_sound_18 rfl (lv_at hl 0 rfl) ?_
    refine lv_aload_n hx hb dX4_sound_19 rfl (lv_at hl 1 rfl) ?_
    refine bx_goi hM (bx_runV (As := [.ref y]) (rest := []) E hM (bX4_goOff l D t A h a (bl_v B 1 y ((bV B 1 y) + 1)) Z y hy hk) (bl_recv E hM) 1 gX4_sound_X4_goOff rfl rfl rfl (by decide +kernel) ⟨Nat.le_of_ble_eq_true rfl, Nat.le_of_ble_eq_true rfl⟩ rfl hl.1 rfl (Nat.le_of_ble_eq_true rfl) dX4_sound_20 ⟨Nat.le_of_ble_eq_true rfl, Nat.le_of_ble_eq_true rfl⟩) (fun r u H locs hp hM => ?_)
    obtain ⟨rfl, rfl⟩ := hp
    have hM : bx_M D A s (bl_w t h a ((bf_goOff (bl_v B 1 y ((bV B 1 y) + 1)) y).2) Z) H locs := hM
    exact bx_reti E hr hlk hM ((bf_goOff (bl_v B 1 y ((bV B 1 y) + 1)) y).2) rfl (by simp [bf_sound, c_15]) dX4_sound_23

set_option maxHeartbeats 4000000 in
set_option maxRecDepth 100000 in
theorem bX4_isPlace (l : Launch) (D : va_G) (t : bx_T) (A : Nat → Prop) (h : Nat) (a : Nat → Nat) (B : bl_S) (Z : va_W) (p0 : Int32) : bx_Ci l yX4_isPlace wsX4_isPlace ({ frames := 0, cells := 0, slots := 0, locals := 0 }) D t A [.ref h, .int p0] (bl_w t h a B Z) (fun (r : Int32) (u : Unit) => (r = 1 ∧ bf_isPlace B p0 = true) ∨ (r = 0 ∧ bf_isPlace B p0 = false)) (fun _ => bl_w t h a B Z) 0 0 := by
  refine bx_enter (cc := cX4_isPlace) (maxL := 2) (ret := some .boolean) (by decide) rfl (Nat.le_of_ble_eq_true rfl) ?_
  intro p e s m below meth c ls E hr hlk hnm hM hl
  have hl : lv_has ls 2 [(0, .ref h), (1, .int p0)] := hl
  have hx := E.1.1
  have hb := E.1.2.1
  have hin : ∀ w ∈ wsX40, w ∈ wsX4_isPlace := by decide +kernel
  refine lv_iload_n hx hb dX4_isPlace_0 rfl (lv_at hl 1 rfl) ?_
  refine lv_if_lt (tgt := 25) hx hb dX4_isPlace_1 (by decide) (fun c_1 => ?_) (fun c_1 => ?_)
  · refine lv_iconst (v := 0) hx hb dX4_isPlace_25 (by decide) ?_
    exact bx_retz E hr hlk hM () rfl (by first | exact Or.inl ⟨rfl, by simp [bf_isPlace, c_1]⟩ | exact Or.inr ⟨rfl, by simp [bf_isPlace, c_1]⟩) (by first | exact Or.inl rfl | exact Or.inr rfl | assumption | (split <;> simp)) dX4_isPlace_26
  · refine lv_iload_n hx hb dX4_isPlace_4 rfl (lv_at hl 1 rfl) ?_
    refine lv_aload_n hx hb dX4_isPlace_5 rfl (lv_at hl 0 rfl) ?_
    refine bl_get E hin hM 2 (by decide) (by decide +kernel) rfl dX4_isPlace_6 ?_
    refine lv_icmp_ge (tgt := 25) hx hb dX4_isPlace_9 (by decide) (fun c_9 => ?_) (fun c_9 => ?_)
    · have c_9 := Int32.not_lt.mpr c_9
      refine lv_iconst (v := 0) hx hb dX4_isPlace_25 (by decide) ?_
      exact bx_retz E hr hlk hM () rfl (by first | exact Or.inl ⟨rfl, by simp [bf_isPlace, c_1, c_9]⟩ | exact Or.inr ⟨rfl, by simp [bf_isPlace, c_1, c_9]⟩) (by first | exact Or.inl rfl | exact Or.inr rfl | assumption | (split <;> simp)) dX4_isPlace_26
    · have c_9 := Int32.not_le.mp c_9
      refine lv_iload_n hx hb dX4_isPlace_12 rfl (lv_at hl 1 rfl) ?_
      refine lv_aload_n hx hb dX4_isPlace_13 rfl (lv_at hl 0 rfl) ?_
      refine bl_get E hin hM 1 (by decide) (by decide +kernel) rfl dX4_isPlace_14 ?_
      refine bl_len1 E hM dX4_isPlace_17 ?_
      refine lv_icmp_ge (tgt := 25) hx hb dX4_isPlace_18 (by decide) (fun c_18 => ?_) (fun c_18 => ?_)
      · have c_18 := Int32.not_lt.mpr c_18
        refine lv_iconst (v := 0) hx hb dX4_isPlace_25 (by decide) ?_
        exact bx_retz E hr hlk hM () rfl (by first | exact Or.inl ⟨rfl, by simp [bf_isPlace, c_1, c_9, c_18]⟩ | exact Or.inr ⟨rfl, by simp [bf_isPlace, c_1, c_9, c_18]⟩) (by first | exact Or.inl rfl | exact Or.inr rfl | assumption | (split <;> simp)) dX4_isPlace_26
      · have c_18 := Int32.not_le.mp c_18
        refine lv_iconst (v := 1) hx hb dX4_isPlace_21 (by decide) ?_
        refine lv_goto (tgt := 26) hx hb dX4_isPlace_22 (by decide) ?_
        exact bx_retz E hr hlk hM () rfl (by first | exact Or.inl ⟨rfl, by simp [bf_isPlace, c_1, c_9, c_18]⟩ | exact Or.inr ⟨rfl, by simp [bf_isPlace, c_1, c_9, c_18]⟩) (by first | exact Or.inl rfl | exact Or.inr rfl | assumption | (split <;> simp)) dX4_isPlace_26

set_option maxHeartbeats 4000000 in
set_option maxRecDepth 100000 in
theorem bX4_isNumber (l : Launch) (D : va_G) (t : bx_T) (A : Nat → Prop) (h : Nat) (a : Nat → Nat) (B : bl_S) (Z : va_W) (p0 : Int32) : bx_Ci l yX4_isNumber wsX4_isNumber ({ frames := 0, cells := 0, slots := 0, locals := 0 }) D t A [.ref h, .int p0] (bl_w t h a B Z) (fun (r : Int32) (u : Unit) => (r = 1 ∧ bf_isNumber B p0 = true) ∨ (r = 0 ∧ bf_isNumber B p0 = false)) (fun _ => bl_w t h a B Z) 0 0 := by
  refine bx_enter (cc := cX4_isNumber) (maxL := 2) (ret := some .boolean) (by decide) rfl (Nat.le_of_ble_eq_true rfl) ?_
  intro p e s m below meth c ls E hr hlk hnm hM hl
  have hl : lv_has ls 2 [(0, .ref h), (1, .int p0)] := hl
  have hx := E.1.1
  have hb := E.1.2.1
  have hin : ∀ w ∈ wsX40, w ∈ wsX4_isNumber := by decide +kernel
  refine lv_iload_n hx hb dX4_isNumber_0 rfl (lv_at hl 1 rfl) ?_
  refine lv_if_lt (tgt := 25) hx hb dX4_isNumber_1 (by decide) (fun c_1 => ?_) (fun c_1 => ?_)
  · refine lv_iconst (v := 0) hx hb dX4_isNumber_25 (by decide) ?_
    exact bx_retz E hr hlk hM () rfl (by first | exact Or.inl ⟨rfl, by simp [bf_isNumber, c_1]⟩ | exact Or.inr ⟨rfl, by simp [bf_isNumber, c_1]⟩) (by first | exact Or.inl rfl | exact Or.inr rfl | assumption | (split <;> simp)) dX4_isNumber_26
  · refine lv_iload_n hx hb dX4_isNumber_4 rfl (lv_at hl 1 rfl) ?_
    refine lv_aload_n hx hb dX4_isNumber_5 rfl (lv_at hl 0 rfl) ?_
    refine bl_get E hin hM 5 (by decide) (by decide +kernel) rfl dX4_isNumber_6 ?_
    refine lv_icmp_ge (tgt := 25) hx hb dX4_isNumber_9 (by decide) (fun c_9 => ?_) (fun c_9 => ?_)
    · have c_9 := Int32.not_lt.mpr c_9
      refine lv_iconst (v := 0) hx hb dX4_isNumber_25 (by decide) ?_
      exact bx_retz E hr hlk hM () rfl (by first | exact Or.inl ⟨rfl, by simp [bf_isNumber, c_1, c_9]⟩ | exact Or.inr ⟨rfl, by simp [bf_isNumber, c_1, c_9]⟩) (by first | exact Or.inl rfl | exact Or.inr rfl | assumption | (split <;> simp)) dX4_isNumber_26
    · have c_9 := Int32.not_le.mp c_9
      refine lv_iload_n hx hb dX4_isNumber_12 rfl (lv_at hl 1 rfl) ?_
      refine lv_aload_n hx hb dX4_isNumber_13 rfl (lv_at hl 0 rfl) ?_
      refine bl_get E hin hM 4 (by decide) (by decide +kernel) rfl dX4_isNumber_14 ?_
      refine bl_len0 E hM 0 (by decide) (v := 12) rfl dX4_isNumber_17 ?_
      refine lv_icmp_ge (tgt := 25) hx hb dX4_isNumber_18 (by decide) (fun c_18 => ?_) (fun c_18 => ?_)
      · have c_18 := Int32.not_lt.mpr c_18
        refine lv_iconst (v := 0) hx hb dX4_isNumber_25 (by decide) ?_
        exact bx_retz E hr hlk hM () rfl (by first | exact Or.inl ⟨rfl, by simp [bf_isNumber, c_1, c_9, c_18]⟩ | exact Or.inr ⟨rfl, by simp [bf_isNumber, c_1, c_9, c_18]⟩) (by first | exact Or.inl rfl | exact Or.inr rfl | assumption | (split <;> simp)) dX4_isNumber_26
      · have c_18 := Int32.not_le.mp c_18
        refine lv_iconst (v := 1) hx hb dX4_isNumber_21 (by decide) ?_
        refine lv_goto (tgt := 26) hx hb dX4_isNumber_22 (by decide) ?_
        exact bx_retz E hr hlk hM () rfl (by first | exact Or.inl ⟨rfl, by simp [bf_isNumber, c_1, c_9, c_18]⟩ | exact Or.inr ⟨rfl, by simp [bf_isNumber, c_1, c_9, c_18]⟩) (by first | exact Or.inl rfl | exact Or.inr rfl | assumption | (split <;> simp)) dX4_isNumber_26

set_option maxHeartbeats 4000000 in
set_option maxRecDepth 100000 in
theorem bX4_isMark (l : Launch) (D : va_G) (t : bx_T) (A : Nat → Prop) (h : Nat) (a : Nat → Nat) (B : bl_S) (Z : va_W) (p0 : Int32) (p1 : Int32) : bx_Ci l yX4_isMark wsX4_isMark ({ frames := 0, cells := 0, slots := 0, locals := 0 }) D t A [.ref h, .int p0, .int p1] (bl_w t h a B Z) (fun (r : Int32) (u : Unit) => (r = 1 ∧ bf_isMark B p0 p1 = true) ∨ (r = 0 ∧ bf_isMark B p0 p1 = false)) (fun _ => bl_w t h a B Z) 0 0 := by
  refine bx_enter (cc := cX4_isMark) (maxL := 3) (ret := some .boolean) (by decide) rfl (Nat.le_of_ble_eq_true rfl) ?_
  intro p e s m below meth c ls E hr hlk hnm hM hl
  have hl : lv_has ls 3 [(0, .ref h), (1, .int p0), (2, .int p1)] := hl
  have hx := E.1.1
  have hb := E.1.2.1
  have hin : ∀ w ∈ wsX40, w ∈ wsX4_isMark := by decide +kernel
  refine lv_iload_n hx hb dX4_isMark_0 rfl (lv_at hl 1 rfl) ?_
  refine lv_if_lt (tgt := 40) hx hb dX4_isMark_1 (by decide) (fun c_1 => ?_) (fun c_1 => ?_)
  · refine lv_iconst (v := 0) hx hb dX4_isMark_40 (by decide) ?_
    exact bx_retz E hr hlk hM () rfl (by first | exact Or.inl ⟨rfl, by simp [bf_isMark, c_1]⟩ | exact Or.inr ⟨rfl, by simp [bf_isMark, c_1]⟩) (by first | exact Or.inl rfl | exact Or.inr rfl | assumption | (split <;> simp)) dX4_isMark_41
  · refine lv_iload_n hx hb dX4_isMark_4 rfl (lv_at hl 1 rfl) ?_
    refine lv_aload_n hx hb dX4_isMark_5 rfl (lv_at hl 0 rfl) ?_
    refine bl_get E hin hM 7 (by decide) (by decide +kernel) rfl dX4_isMark_6 ?_
    refine lv_icmp_ge (tgt := 40) hx hb dX4_isMark_9 (by decide) (fun c_9 => ?_) (fun c_9 => ?_)
    · have c_9 := Int32.not_lt.mpr c_9
      refine lv_iconst (v := 0) hx hb dX4_isMark_40 (by decide) ?_
      exact bx_retz E hr hlk hM () rfl (by first | exact Or.inl ⟨rfl, by simp [bf_isMark, c_1, c_9]⟩ | exact Or.inr ⟨rfl, by simp [bf_isMark, c_1, c_9]⟩) (by first | exact Or.inl rfl | exact Or.inr rfl | assumption | (split <;> simp)) dX4_isMark_41
    · have c_9 := Int32.not_le.mp c_9
      refine lv_iload_n hx hb dX4_isMark_12 rfl (lv_at hl 1 rfl) ?_
      refine lv_bipush (v := 12) hx hb dX4_isMark_13 (by decide) ?_
      refine lv_icmp_ge (tgt := 40) hx hb dX4_isMark_15 (by decide) (fun c_15 => ?_) (fun c_15 => ?_)
      · have c_15 := Int32.not_lt.mpr c_15
        refine lv_iconst (v := 0) hx hb dX4_isMark_40 (by decide) ?_
        exact bx_retz E hr hlk hM () rfl (by first | exact Or.inl ⟨rfl, by simp [bf_isMark, c_1, c_9, c_15]⟩ | exact Or.inr ⟨rfl, by simp [bf_isMark, c_1, c_9, c_15]⟩) (by first | exact Or.inl rfl | exact Or.inr rfl | assumption | (split <;> simp)) dX4_isMark_41
      · have c_15 := Int32.not_le.mp c_15
        refine lv_iload_n hx hb dX4_isMark_18 rfl (lv_at hl 2 rfl) ?_
        refine lv_if_lt (tgt := 40) hx hb dX4_isMark_19 (by decide) (fun c_19 => ?_) (fun c_19 => ?_)
        · refine lv_iconst (v := 0) hx hb dX4_isMark_40 (by decide) ?_
          exact bx_retz E hr hlk hM () rfl (by first | exact Or.inl ⟨rfl, by simp [bf_isMark, c_1, c_9, c_15, c_19]⟩ | exact Or.inr ⟨rfl, by simp [bf_isMark, c_1, c_9, c_15, c_19]⟩) (by first | exact Or.inl rfl | exact Or.inr rfl | assumption | (split <;> simp)) dX4_isMark_41
        · refine lv_iload_n hx hb dX4_isMark_22 rfl (lv_at hl 2 rfl) ?_
          refine lv_aload_n hx hb dX4_isMark_23 rfl (lv_at hl 0 rfl) ?_
          refine bl_get E hin hM 8 (by decide) (by decide +kernel) rfl dX4_isMark_24 ?_
          refine lv_icmp_ge (tgt := 40) hx hb dX4_isMark_27 (by decide) (fun c_27 => ?_) (fun c_27 => ?_)
          · have c_27 := Int32.not_lt.mpr c_27
            refine lv_iconst (v := 0) hx hb dX4_isMark_40 (by decide) ?_
            exact bx_retz E hr hlk hM () rfl (by first | exact Or.inl ⟨rfl, by simp [bf_isMark, c_1, c_9, c_15, c_19, c_27]⟩ | exact Or.inr ⟨rfl, by simp [bf_isMark, c_1, c_9, c_15, c_19, c_27]⟩) (by first | exact Or.inl rfl | exact Or.inr rfl | assumption | (split <;> simp)) dX4_isMark_41
          · have c_27 := Int32.not_le.mp c_27
            refine lv_iload_n hx hb dX4_isMark_30 rfl (lv_at hl 2 rfl) ?_
            refine lv_bipush (v := 12) hx hb dX4_isMark_31 (by decide) ?_
            refine lv_icmp_ge (tgt := 40) hx hb dX4_isMark_33 (by decide) (fun c_33 => ?_) (fun c_33 => ?_)
            · have c_33 := Int32.not_lt.mpr c_33
              refine lv_iconst (v := 0) hx hb dX4_isMark_40 (by decide) ?_
              exact bx_retz E hr hlk hM () rfl (by first | exact Or.inl ⟨rfl, by simp [bf_isMark, c_1, c_9, c_15, c_19, c_27, c_33]⟩ | exact Or.inr ⟨rfl, by simp [bf_isMark, c_1, c_9, c_15, c_19, c_27, c_33]⟩) (by first | exact Or.inl rfl | exact Or.inr rfl | assumption | (split <;> simp)) dX4_isMark_41
            · have c_33 := Int32.not_le.mp c_33
              refine lv_iconst (v := 1) hx hb dX4_isMark_36 (by decide) ?_
              refine lv_goto (tgt := 41) hx hb dX4_isMark_37 (by decide) ?_
              exact bx_retz E hr hlk hM () rfl (by first | exact Or.inl ⟨rfl, by simp [bf_isMark, c_1, c_9, c_15, c_19, c_27, c_33]⟩ | exact Or.inr ⟨rfl, by simp [bf_isMark, c_1, c_9, c_15, c_19, c_27, c_33]⟩) (by first | exact Or.inl rfl | exact Or.inr rfl | assumption | (split <;> simp)) dX4_isMark_41
