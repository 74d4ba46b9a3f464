set_option maxHeartbeats 4000000 in
set_option maxRecDepth 100000 in
theorem cX5c_in (l : Launch) (D : va_G) (t : bx_T) (A : Nat → Prop) (w : va_W) (v lo hi : Int32) : bx_Ci l yX5_in wsX5_in ({ frames := 0, cells := 0, slots := 0, locals := 0 }) D t A [.int v, .int lo, .int hi] w (fun (r : Int32) (u : Unit) => (r = 1 ∧ inB v lo hi = true) ∨ (r = 0 ∧ inB v lo hi = false)) (fun _ => w) 0 0 := by
  refine bx_enter (cc := cX5_in) (maxL := 3) (ret := some .boolean) (by decide) rfl (Nat.le_of_ble_eq_true rfl) ?_
  intro p e s m below meth c ls E hr hlk hnm hM hl
  have hl : lv_has ls 3 [(0, .int v), (1, .int lo), (2, .int hi)] := hl
  have hx := E.1.1
  have hb := E.1.2.1
  refine lv_iload_n hx hb dX5_in_0 rfl (lv_at hl 0 rfl) ?_
  refine lv_iload_n hx hb dX5_in_1 rfl (lv_at hl 1 rfl) ?_
  refine lv_icmp_lt (tgt := 14) hx hb dX5_in_2 (by decide) (fun c_2 => ?_) (fun c_2 => ?_)
  · refine lv_iconst (v := 0) hx hb dX5_in_14 (by decide) ?_
    exact bx_retz E hr hlk hM () rfl (by first | exact Or.inl ⟨rfl, inB_in c_2 c_7⟩ | exact Or.inr ⟨rfl, inB_lt c_2⟩ | exact Or.inr ⟨rfl, inB_gt c_7⟩) (by first | exact Or.inl rfl | exact Or.inr rfl | assumption | (split <;> simp)) dX5_in_15
  · refine lv_iload_n hx hb dX5_in_5 rfl (lv_at hl 0 rfl) ?_
    refine lv_iload_n hx hb dX5_in_6 rfl (lv_at hl 2 rfl) ?_
    refine lv_icmp_gt (tgt := 14) hx hb dX5_in_7 (by decide) (fun c_7 => ?_) (fun c_7 => ?_)
    · refine lv_iconst (v := 0) hx hb dX5_in_14 (by decide) ?_
      exact bx_retz E hr hlk hM () rfl (by first | exact Or.inl ⟨rfl, inB_in c_2 c_7⟩ | exact Or.inr ⟨rfl, inB_lt c_2⟩ | exact Or.inr ⟨rfl, inB_gt c_7⟩) (by first | exact Or.inl rfl | exact Or.inr rfl | assumption | (split <;> simp)) dX5_in_15
    · refine lv_iconst (v := 1) hx hb dX5_in_10 (by decide) ?_
      refine lv_goto (tgt := 15) hx hb dX5_in_11 (by decide) ?_
      exact bx_retz E hr hlk hM () rfl (by first | exact Or.inl ⟨rfl, inB_in c_2 c_7⟩ | exact Or.inr ⟨rfl, inB_lt c_2⟩ | exact Or.inr ⟨rfl, inB_gt c_7⟩) (by first | exact Or.inl rfl | exact Or.inr rfl | assumption | (split <;> simp)) dX5_in_15

set_option maxHeartbeats 4000000 in
set_option maxRecDepth 100000 in
theorem cX5c_isHook (l : Launch) (D : va_G) (t : bx_T) (A : Nat → Prop) (w : va_W) (v : Int32) : bx_Ci l yX5_isHook wsX5_isHook ({ frames := 1, cells := 0, slots := 0, locals := 22 }) D t A [.int v] w (fun (r : Int32) (u : Unit) => (r = 1 ∧ inB v 0 9 = true) ∨ (r = 0 ∧ inB v 0 9 = false)) (fun _ => w) 0 0 := by
  refine bx_enter (cc := cX5_isHook) (maxL := 1) (ret := some .boolean) (by decide) rfl (Nat.le_of_ble_eq_true rfl) ?_
  intro p e s m below meth c ls E hr hlk hnm hM hl
  have hl : lv_has ls 1 [(0, .int v)] := hl
  have hx := E.1.1
  have hb := E.1.2.1
  refine lv_iload_n hx hb dX5_isHook_0 rfl (lv_at hl 0 rfl) ?_
  refine lv_iconst (v := 0) hx hb dX5_isHook_1 (by decide) ?_
  refine lv_bipush (v := 9) hx hb dX5_isHook_2 (by decide) ?_
  refine bx_goi hM (bx_runS (As := [.int v, .int 0, .int 9]) (rest := []) E hM (cX5c_in l D t A (w) v 0 9) 3 gX5_isHook_X5_in rfl rfl rfl (by decide +kernel) ⟨Nat.le_of_ble_eq_true rfl, Nat.le_of_ble_eq_true rfl⟩ rfl hl.1 rfl (Nat.le_of_ble_eq_true rfl) dX5_isHook_4 ⟨Nat.le_of_ble_eq_true rfl, Nat.le_of_ble_eq_true rfl⟩) (fun r u H locs hp hM => ?_)
  rcases hp with ⟨rfl, hp_4⟩ | ⟨rfl, hp_4⟩
  · have hM : bx_M D A s (w) H locs := hM
    exact bx_retz E hr hlk hM () rfl (by first | exact Or.inl ⟨rfl, hp_4⟩ | exact Or.inr ⟨rfl, hp_4⟩) (by first | exact Or.inl rfl | exact Or.inr rfl | assumption | (split <;> simp)) dX5_isHook_7
  · have hM : bx_M D A s (w) H locs := hM
    exact bx_retz E hr hlk hM () rfl (by first | exact Or.inl ⟨rfl, hp_4⟩ | exact Or.inr ⟨rfl, hp_4⟩) (by first | exact Or.inl rfl | exact Or.inr rfl | assumption | (split <;> simp)) dX5_isHook_7

theorem md_ag {S : md_S} {h g : Int32} (k : ¬ 0 < mf_against S h g) : ¬ S.1 7 h.toNatClampNeg = -1 := fun q => k (by
  simp only [mf_against, mf_sortAt, if_pos q, if_true]
  decide)
theorem md_agv {S : md_S} {h g : Int32} (k : 0 < mf_against S h g) : vp_in (mf_against S h g) 7 := by
  revert k
  unfold mf_against
  split
  · exact fun _ => vp_in_iff.mpr (by decide)
  split
  · exact fun _ => vp_in_iff.mpr (by decide)
  split
  · exact fun k => absurd k (by decide)
  split
  · exact fun k => absurd k (by decide)
  · exact fun _ => vp_in_iff.mpr (by decide)

set_option maxHeartbeats 4000000 in
set_option maxRecDepth 100000 in
theorem cX5c_no (l : Launch) (D : va_G) (t : bx_T) (A : Nat → Prop) (h : Nat) (a : Nat → Nat) (S : md_S) (Z : va_W) (p0 : Int32) (hv : vp_in p0 7) : bx_Ci l yX5_no wsX5_no ({ frames := 0, cells := 0, slots := 0, locals := 0 }) D t A [.ref h, .int p0] (md_w t.1 h a S ++ Z) (fun (r : Int32) (u : md_S) => r = -10 - p0 ∧ u = mf_no S p0) (fun u => md_w t.1 h a u ++ Z) 0 0 := by
  refine bx_enter (cc := cX5_no) (maxL := 2) (ret := some .int) (by decide) rfl (Nat.le_of_ble_eq_true rfl) ?_
  intro p e s m below meth c ls E hr hlk hnm hM hl
  have hl : lv_has ls 2 [(0, .ref h), (1, .int p0)] := hl
  have hx := E.1.1
  have hb := E.1.2.1
  have hin : ∀ w ∈ wsX50, w ∈ wsX5_no := by decide +kernel
  refine lv_aload_n hx hb dX5_no_0 rfl (lv_at hl 0 rfl) ?_
  refine md_get E hin hM 17 (by decide) (by decide +kernel) rfl dX5_no_1 ?_
  refine lv_iload_n hx hb dX5_no_4 rfl (lv_at hl 1 rfl) ?_
  refine lv_dup2_11 hx hb dX5_no_5 rfl rfl ?_
  refine md_ald E hM 11 (by decide) (hv) dX5_no_6 ?_
  refine lv_iconst (v := 1) hx hb dX5_no_7 (by decide) ?_
  refine lv_iadd hx hb dX5_no_8 ?_
  refine md_ast E hM 11 (by decide) (hv) dX5_no_9 (fun H locs hM => ?_)
  have hM : bx_M D A s (md_w t.1 h a (md_ai S 11 p0.toNatClampNeg ((S.1 11 p0.toNatClampNeg) + 1)) ++ Z) H locs := hM
  refine lv_bipush (v := (-10)) hx hb dX5_no_10 (by decide) ?_
  refine lv_iload_n hx hb dX5_no_12 rfl (lv_at hl 1 rfl) ?_
  refine lv_isub hx hb dX5_no_13 ?_
  exact bx_reti E hr hlk hM (md_ai S 11 p0.toNatClampNeg ((S.1 11 p0.toNatClampNeg) + 1)) rfl (⟨rfl, rfl⟩) dX5_no_14

set_option maxHeartbeats 4000000 in
set_option maxRecDepth 100000 in
theorem cX5c_sortAt (l : Launch) (D : va_G) (t : bx_T) (A : Nat → Prop) (h : Nat) (a : Nat → Nat) (S : md_S) (Z : va_W) (p0 : Int32) (hI : md_I S) (hv : inB p0 0 9 = true) : bx_Ci l yX5_sortAt wsX5_sortAt ({ frames := 0, cells := 0, slots := 0, locals := 0 }) D t A [.ref h, .int p0] (md_w t.1 h a S ++ Z) (fun (r : Int32) (_ : Unit) => r = mf_sortAt S p0) (fun _ => md_w t.1 h a S ++ Z) 0 0 := by
  refine bx_enter (cc := cX5_sortAt) (maxL := 2) (ret := some .int) (by decide) rfl (Nat.le_of_ble_eq_true rfl) ?_
  intro p e s m below meth c ls E hr hlk hnm hM hl
  have hl : lv_has ls 2 [(0, .ref h), (1, .int p0)] := hl
  have hx := E.1.1
  have hb := E.1.2.1
  have hin : ∀ w ∈ wsX50, w ∈ wsX5_sortAt := by decide +kernel
  refine lv_aload_n hx hb dX5_sortAt_0 rfl (lv_at hl 0 rfl) ?_
  refine md_get E hin hM 7 (by decide) (by decide +kernel) rfl dX5_sortAt_1 ?_
  refine lv_iload_n hx hb dX5_sortAt_4 rfl (lv_at hl 1 rfl) ?_
  refine md_ald E hM 7 (by decide) (md_hk hv) dX5_sortAt_5 ?_
  refine lv_iconst (v := (-1)) hx hb dX5_sortAt_6 (by decide) ?_
  refine lv_icmp_ne (tgt := 14) hx hb dX5_sortAt_7 (by decide) (fun c_7 => ?_) (fun c_7 => ?_)
  · refine lv_aload_n hx hb dX5_sortAt_14 rfl (lv_at hl 0 rfl) ?_
    refine md_get E hin hM 0 (by decide) (by decide +kernel) rfl dX5_sortAt_15 ?_
    refine lv_aload_n hx hb dX5_sortAt_18 rfl (lv_at hl 0 rfl) ?_
    refine md_get E hin hM 7 (by decide) (by decide +kernel) rfl dX5_sortAt_19 ?_
    refine lv_iload_n hx hb dX5_sortAt_22 rfl (lv_at hl 1 rfl) ?_
    refine md_ald E hM 7 (by decide) (md_hk hv) dX5_sortAt_23 ?_
    refine md_ald E hM 0 (by decide) (hI.hook hv c_7) dX5_sortAt_24 ?_
    exact bx_reti E hr hlk hM () rfl (by simp [mf_sortAt, c_7]) dX5_sortAt_25
  · refine lv_iconst (v := 0) hx hb dX5_sortAt_10 (by decide) ?_
    refine lv_goto (tgt := 25) hx hb dX5_sortAt_11 (by decide) ?_
    exact bx_reti E hr hlk hM () rfl (by simp [mf_sortAt, c_7]) dX5_sortAt_25

set_option maxHeartbeats 4000000 in
set_option maxRecDepth 100000 in
theorem cX5c_isBellAt (l : Launch) (D : va_G) (t : bx_T) (A : Nat → Prop) (h : Nat) (a : Nat → Nat) (S : md_S) (Z : va_W) (p0 : Int32) (hI : md_I S) (hv : inB p0 0 9 = true) : bx_Ci l yX5_isBellAt wsX5_isBellAt ({ frames := 1, cells := 0, slots := 0, locals := 22 }) D t A [.ref h, .int p0] (md_w t.1 h a S ++ Z) (fun (r : Int32) (u : Unit) => (r = 1 ∧ inB (mf_sortAt S p0) 1 2 = true) ∨ (r = 0 ∧ inB (mf_sortAt S p0) 1 2 = false)) (fun _ => md_w t.1 h a S ++ Z) 0 0 := by
  refine bx_enter (cc := cX5_isBellAt) (maxL := 2) (ret := some .boolean) (by decide) rfl (Nat.le_of_ble_eq_true rfl) ?_
  intro p e s m below meth c ls E hr hlk hnm hM hl
  have hl : lv_has ls 2 [(0, .ref h), (1, .int p0)] := hl
  have hx := E.1.1
  have hb := E.1.2.1
  have hin : ∀ w ∈ wsX50, w ∈ wsX5_isBellAt := by decide +kernel
  refine lv_aload_n hx hb dX5_isBellAt_0 rfl (lv_at hl 0 rfl) ?_
  refine lv_iload_n hx hb dX5_isBellAt_1 rfl (lv_at hl 1 rfl) ?_
  refine bx_goi hM (bx_runV (As := [.int p0]) (rest := []) E hM (cX5c_sortAt l D t A h a S Z p0 hI hv) (md_recv E hM) 1 gX5_isBellAt_X5_sortAt rfl rfl rfl (by decide +kernel) ⟨Nat.le_of_ble_eq_true rfl, Nat.le_of_ble_eq_true rfl⟩ rfl hl.1 rfl (Nat.le_of_ble_eq_true rfl) dX5_isBellAt_2 ⟨Nat.le_of_ble_eq_true rfl, Nat.le_of_ble_eq_true rfl⟩) (fun r u H locs hp hM => ?_)
  subst hp
  have hM : bx_M D A s (md_w t.1 h a S ++ Z) H locs := hM
  refine lv_iconst (v := 1) hx hb dX5_isBellAt_5 (by decide) ?_
  refine lv_iconst (v := 2) hx hb dX5_isBellAt_6 (by decide) ?_
  refine bx_goi hM (bx_runS (As := [.int (mf_sortAt S p0), .int 1, .int 2]) (rest := []) E hM (cX5c_in l D t A (md_w t.1 h a S ++ Z) (mf_sortAt S p0) 1 2) 3 gX5_isBellAt_X5_in rfl rfl rfl (by decide +kernel) ⟨Nat.le_of_ble_eq_true rfl, Nat.le_of_ble_eq_true rfl⟩ rfl hl.1 rfl (Nat.le_of_ble_eq_true rfl) dX5_isBellAt_7 ⟨Nat.le_of_ble_eq_true rfl, Nat.le_of_ble_eq_true rfl⟩) (fun r u H locs hp hM => ?_)
  rcases hp with ⟨rfl, hp_7⟩ | ⟨rfl, hp_7⟩
  · have hM : bx_M D A s (md_w t.1 h a S ++ Z) H locs := hM
    exact bx_retz E hr hlk hM () rfl (by first | exact Or.inl ⟨rfl, hp_7⟩ | exact Or.inr ⟨rfl, hp_7⟩) (by first | exact Or.inl rfl | exact Or.inr rfl | assumption | (split <;> simp)) dX5_isBellAt_10
  · have hM : bx_M D A s (md_w t.1 h a S ++ Z) H locs := hM
    exact bx_retz E hr hlk hM () rfl (by first | exact Or.inl ⟨rfl, hp_7⟩ | exact Or.inr ⟨rfl, hp_7⟩) (by first | exact Or.inl rfl | exact Or.inr rfl | assumption | (split <;> simp)) dX5_isBellAt_10

set_option maxHeartbeats 4000000 in
set_option maxRecDepth 100000 in
theorem cX5c_against (l : Launch) (D : va_G) (t : bx_T) (A : Nat → Prop) (h : Nat) (a : Nat → Nat) (S : md_S) (Z : va_W) (p0 p1 : Int32) (hI : md_I S) (hv : inB p0 0 9 = true) : bx_Ci l yX5_against wsX5_against ({ frames := 1, cells := 0, slots := 0, locals := 21 }) D t A [.ref h, .int p0, .int p1] (md_w t.1 h a S ++ Z) (fun (r : Int32) (_ : Unit) => r = mf_against S p0 p1) (fun _ => md_w t.1 h a S ++ Z) 0 0 := by
  refine bx_enter (cc := cX5_against) (maxL := 4) (ret := some .int) (by decide) rfl (Nat.le_of_ble_eq_true rfl) ?_
  intro p e s m below meth c ls E hr hlk hnm hM hl
  have hl : lv_has ls 4 [(0, .ref h), (1, .int p0), (2, .int p1)] := hl
  have hx := E.1.1
  have hb := E.1.2.1
  have hin : ∀ w ∈ wsX50, w ∈ wsX5_against := by decide +kernel
  refine lv_aload_n hx hb dX5_against_0 rfl (lv_at hl 0 rfl) ?_
  refine lv_iload_n hx hb dX5_against_1 rfl (lv_at hl 1 rfl) ?_
  refine bx_goi hM (bx_runV (As := [.int p0]) (rest := []) E hM (cX5c_sortAt l D t A h a S Z p0 hI hv) (md_recv E hM) 1 gX5_against_X5_sortAt rfl rfl rfl (by decide +kernel) ⟨Nat.le_of_ble_eq_true rfl, Nat.le_of_ble_eq_true rfl⟩ rfl hl.1 rfl (Nat.le_of_ble_eq_true rfl) dX5_against_2 ⟨Nat.le_of_ble_eq_true rfl, Nat.le_of_ble_eq_true rfl⟩) (fun r u H locs hp hM => ?_)
  subst hp
  have hM : bx_M D A s (md_w t.1 h a S ++ Z) H locs := hM
  refine lv_istore_n (lv' := [(3, .int (mf_sortAt S p0)), (0, .ref h), (1, .int p0), (2, .int p1)]) hx hb dX5_against_5 rfl hl (by decide) rfl (fun ls hl => ?_)
  refine lv_iload_n hx hb dX5_against_6 rfl (lv_at hl 0 rfl) ?_
  refine lv_if_ne (tgt := 14) hx hb dX5_against_7 (by decide) (fun c_7 => ?_) (fun c_7 => ?_)
  · refine lv_iload_n hx hb dX5_against_14 rfl (lv_at hl 0 rfl) ?_
    refine lv_iconst (v := 3) hx hb dX5_against_15 (by decide) ?_
    refine lv_icmp_eq (tgt := 28) hx hb dX5_against_16 (by decide) (fun c_16 => ?_) (fun c_16 => ?_)
    · refine lv_iconst (v := 2) hx hb dX5_against_28 (by decide) ?_
      refine lv_goto (tgt := 33) hx hb dX5_against_29 (by decide) ?_
      exact bx_reti E hr hlk hM () rfl (by simp [mf_against, c_7, c_16]) dX5_against_33
    · refine lv_iload_n hx hb dX5_against_19 rfl (lv_at hl 3 rfl) ?_
      refine lv_if_eq (tgt := 32) hx hb dX5_against_20 (by decide) (fun c_20 => ?_) (fun c_20 => ?_)
      · refine lv_iconst (v := 0) hx hb dX5_against_32 (by decide) ?_
        exact bx_reti E hr hlk hM () rfl (by simp [mf_against, c_7, c_16, c_20]) dX5_against_33
      · refine lv_iload_n hx hb dX5_against_23 rfl (lv_at hl 0 rfl) ?_
        refine lv_iconst (v := 2) hx hb dX5_against_24 (by decide) ?_
        refine lv_icmp_eq (tgt := 32) hx hb dX5_against_25 (by decide) (fun c_25 => ?_) (fun c_25 => ?_)
        · refine lv_iconst (v := 0) hx hb dX5_against_32 (by decide) ?_
          exact bx_reti E hr hlk hM () rfl (by simp [mf_against, c_7, c_16, c_20, c_25]) dX5_against_33
        · refine lv_iconst (v := 2) hx hb dX5_against_28 (by decide) ?_
          refine lv_goto (tgt := 33) hx hb dX5_against_29 (by decide) ?_
          exact bx_reti E hr hlk hM () rfl (by simp [mf_against, c_7, c_16, c_20, c_25]) dX5_against_33
  · refine lv_iconst (v := 1) hx hb dX5_against_10 (by decide) ?_
    refine lv_goto (tgt := 33) hx hb dX5_against_11 (by decide) ?_
    exact bx_reti E hr hlk hM () rfl (by simp [mf_against, c_7]) dX5_against_33

set_option maxHeartbeats 4000000 in
set_option maxRecDepth 100000 in
theorem cX5c_weigh (l : Launch) (D : va_G) (t : bx_T) (A : Nat → Prop) (h : Nat) (a : Nat → Nat) (S : md_S) (Z : va_W) (p0 : Int32) (hI : md_I S) : bx_Ci l yX5_weigh wsX5_weigh ({ frames := 2, cells := 0, slots := 0, locals := 42 }) D t A [.ref h, .int p0] (md_w t.1 h a S ++ Z) (fun (r : Int32) (u : md_S) => r = (mf_weigh S p0).1 ∧ u = (mf_weigh S p0).2) (fun u => md_w t.1 h a u ++ Z) 0 0 := by
  refine bx_enter (cc := cX5_weigh) (maxL := 2) (ret := some .int) (by decide) rfl (Nat.le_of_ble_eq_true rfl) ?_
  intro p e s m below meth c ls E hr hlk hnm hM hl
  have hl : lv_has ls 2 [(0, .ref h), (1, .int p0)] := hl
  have hx := E.1.1
  have hb := E.1.2.1
  have hin : ∀ w ∈ wsX50, w ∈ wsX5_weigh := by decide +kernel
  refine lv_iload_n hx hb dX5_weigh_0 rfl (lv_at hl 1 rfl) ?_
  refine bx_goi hM (bx_runS (As := [.int p0]) (rest := []) E hM (cX5c_isHook l D t A (md_w t.1 h a S ++ Z) p0) 1 gX5_weigh_X5_isHook rfl rfl rfl (by decide +kernel) ⟨Nat.le_of_ble_eq_true rfl, Nat.le_of_ble_eq_true rfl⟩ rfl hl.1 rfl (Nat.le_of_ble_eq_true rfl) dX5_weigh_1 ⟨Nat.le_of_ble_eq_true rfl, Nat.le_of_ble_eq_true rfl⟩) (fun r u H locs hp hM => ?_)
  rcases hp with ⟨rfl, hp_1⟩ | ⟨rfl, hp_1⟩
  · have hM : bx_M D A s (md_w t.1 h a S ++ Z) H locs := hM
    refine lv_if_ne (tgt := 9) hx hb dX5_weigh_4 (by decide) (fun _ => ?_) (fun c => absurd c (by decide))
    refine lv_aload_n hx hb dX5_weigh_9 rfl (lv_at hl 0 rfl) ?_
    refine md_get E hin hM 7 (by decide) (by decide +kernel) rfl dX5_weigh_10 ?_
    refine lv_iload_n hx hb dX5_weigh_13 rfl (lv_at hl 1 rfl) ?_
    refine md_ald E hM 7 (by decide) (md_hk hp_1) dX5_weigh_14 ?_
    refine lv_iconst (v := (-1)) hx hb dX5_weigh_15 (by decide) ?_
    refine lv_icmp_ne (tgt := 27) hx hb dX5_weigh_16 (by decide) (fun c_16 => ?_) (fun c_16 => ?_)
    · refine lv_aload_n hx hb dX5_weigh_27 rfl (lv_at hl 0 rfl) ?_
      refine md_get E hin hM 1 (by decide) (by decide +kernel) rfl dX5_weigh_28 ?_
      refine lv_aload_n hx hb dX5_weigh_31 rfl (lv_at hl 0 rfl) ?_
      refine md_get E hin hM 7 (by decide) (by decide +kernel) rfl dX5_weigh_32 ?_
      refine lv_iload_n hx hb dX5_weigh_35 rfl (lv_at hl 1 rfl) ?_
      refine md_ald E hM 7 (by decide) (md_hk hp_1) dX5_weigh_36 ?_
      refine md_ald E hM 1 (by decide) (hI.hook hp_1 c_16) dX5_weigh_37 ?_
      exact bx_reti E hr hlk hM S rfl (by simp [mf_weigh, hp_1, c_16]) dX5_weigh_38
    · refine lv_aload_n hx hb dX5_weigh_19 rfl (lv_at hl 0 rfl) ?_
      refine lv_iconst (v := 1) hx hb dX5_weigh_20 (by decide) ?_
      refine bx_goi hM (bx_runV (As := [.int 1]) (rest := []) E hM (cX5c_no l D t A h a S Z 1 (vp_in_iff.mpr (by decide))) (md_recv E hM) 1 gX5_weigh_X5_no rfl rfl rfl (by decide +kernel) ⟨Nat.le_of_ble_eq_true rfl, Nat.le_of_ble_eq_true rfl⟩ rfl hl.1 rfl (Nat.le_of_ble_eq_true rfl) dX5_weigh_21 ⟨Nat.le_of_ble_eq_true rfl, Nat.le_of_ble_eq_true rfl⟩) (fun r u H locs hp hM => ?_)
      obtain ⟨rfl, rfl⟩ := hp
      have hM : bx_M D A s (md_w t.1 h a (mf_no S 1) ++ Z) H locs := hM
      refine lv_goto (tgt := 38) hx hb dX5_weigh_24 (by decide) ?_
      exact bx_reti E hr hlk hM (mf_no S 1) rfl (by simp [mf_weigh, hp_1, c_16]) dX5_weigh_38
  · have hM : bx_M D A s (md_w t.1 h a S ++ Z) H locs := hM
    refine lv_if_ne (tgt := 9) hx hb dX5_weigh_4 (by decide) (fun c => absurd c (by decide)) (fun _ => ?_)
    refine lv_iconst (v := (-1)) hx hb dX5_weigh_7 (by decide) ?_
    exact bx_reti E hr hlk hM S rfl (by simp [mf_weigh, hp_1]) dX5_weigh_8

set_option maxHeartbeats 4000000 in
set_option maxRecDepth 100000 in
theorem cX5c_hum (l : Launch) (D : va_G) (t : bx_T) (A : Nat → Prop) (h : Nat) (a : Nat → Nat) (S : md_S) (Z : va_W) (p0 : Int32) (hI : md_I S) : bx_Ci l yX5_hum wsX5_hum ({ frames := 2, cells := 0, slots := 0, locals := 44 }) D t A [.ref h, .int p0] (md_w t.1 h a S ++ Z) (fun (r : Int32) (u : md_S) => r = (mf_hum S p0).1 ∧ u = (mf_hum S p0).2) (fun u => md_w t.1 h a u ++ Z) 0 0 := by
  refine bx_enter (cc := cX5_hum) (maxL := 3) (ret := some .int) (by decide) rfl (Nat.le_of_ble_eq_true rfl) ?_
  intro p e s m below meth c ls E hr hlk hnm hM hl
  have hl : lv_has ls 3 [(0, .ref h), (1, .int p0)] := hl
  have hx := E.1.1
  have hb := E.1.2.1
  have hin : ∀ w ∈ wsX50, w ∈ wsX5_hum := by decide +kernel
  refine lv_iload_n hx hb dX5_hum_0 rfl (lv_at hl 1 rfl) ?_
  refine bx_goi hM (bx_runS (As := [.int p0]) (rest := []) E hM (cX5c_isHook l D t A (md_w t.1 h a S ++ Z) p0) 1 gX5_hum_X5_isHook rfl rfl rfl (by decide +kernel) ⟨Nat.le_of_ble_eq_true rfl, Nat.le_of_ble_eq_true rfl⟩ rfl hl.1 rfl (Nat.le_of_ble_eq_true rfl) dX5_hum_1 ⟨Nat.le_of_ble_eq_true rfl, Nat.le_of_ble_eq_true rfl⟩) (fun r u H locs hp hM => ?_)
  rcases hp with ⟨rfl, hp_1⟩ | ⟨rfl, hp_1⟩
  · have hM : bx_M D A s (md_w t.1 h a S ++ Z) H locs := hM
    refine lv_if_ne (tgt := 9) hx hb dX5_hum_4 (by decide) (fun _ => ?_) (fun c => absurd c (by decide))
    refine lv_aload_n hx hb dX5_hum_9 rfl (lv_at hl 0 rfl) ?_
    refine lv_iload_n hx hb dX5_hum_10 rfl (lv_at hl 1 rfl) ?_
    refine lv_iconst (v := 1) hx hb dX5_hum_11 (by decide) ?_
    refine bx_goi hM (bx_runV (As := [.int p0, .int 1]) (rest := []) E hM (cX5c_against l D t A h a S Z p0 1 hI hp_1) (md_recv E hM) 2 gX5_hum_X5_against rfl rfl rfl (by decide +kernel) ⟨Nat.le_of_ble_eq_true rfl, Nat.le_of_ble_eq_true rfl⟩ rfl hl.1 rfl (Nat.le_of_ble_eq_true rfl) dX5_hum_12 ⟨Nat.le_of_ble_eq_true rfl, Nat.le_of_ble_eq_true rfl⟩) (fun r u H locs hp hM => ?_)
    subst hp
    have hM : bx_M D A s (md_w t.1 h a S ++ Z) H locs := hM
    refine lv_istore_n (lv' := [(2, .int (mf_against S p0 1)), (0, .ref h), (1, .int p0)]) hx hb dX5_hum_15 rfl hl (by decide) rfl (fun ls hl => ?_)
    refine lv_iload_n hx hb dX5_hum_16 rfl (lv_at hl 0 rfl) ?_
    refine lv_if_le (tgt := 28) hx hb dX5_hum_17 (by decide) (fun c_17 => ?_) (fun c_17 => ?_)
    · have c_17 := Int32.not_lt.mpr c_17
      refine lv_aload_n hx hb dX5_hum_28 rfl (lv_at hl 1 rfl) ?_
      refine md_get E hin hM 5 (by decide) (by decide +kernel) rfl dX5_hum_29 ?_
      refine lv_aload_n hx hb dX5_hum_32 rfl (lv_at hl 1 rfl) ?_
      refine md_get E hin hM 7 (by decide) (by decide +kernel) rfl dX5_hum_33 ?_
      refine lv_iload_n hx hb dX5_hum_36 rfl (lv_at hl 2 rfl) ?_
      refine md_ald E hM 7 (by decide) (md_hk hp_1) dX5_hum_37 ?_
      refine md_ald E hM 5 (by decide) (hI.hook hp_1 (md_ag c_17)) dX5_hum_38 ?_
      exact bx_reti E hr hlk hM S rfl (by simp [mf_hum, hp_1, c_17]) dX5_hum_39
    · have c_17 := Int32.not_le.mp c_17
      refine lv_aload_n hx hb dX5_hum_20 rfl (lv_at hl 1 rfl) ?_
      refine lv_iload_n hx hb dX5_hum_21 rfl (lv_at hl 0 rfl) ?_
      refine bx_goi hM (bx_runV (As := [.int (mf_against S p0 1)]) (rest := []) E hM (cX5c_no l D t A h a S Z (mf_against S p0 1) (md_agv c_17)) (md_recv E hM) 1 gX5_hum_X5_no rfl rfl rfl (by decide +kernel) ⟨Nat.le_of_ble_eq_true rfl, Nat.le_of_ble_eq_true rfl⟩ rfl hl.1 rfl (Nat.le_of_ble_eq_true rfl) dX5_hum_22 ⟨Nat.le_of_ble_eq_true rfl, Nat.le_of_ble_eq_true rfl⟩) (fun r u H locs hp hM => ?_)
      obtain ⟨rfl, rfl⟩ := hp
      have hM : bx_M D A s (md_w t.1 h a (mf_no S (mf_against S p0 1)) ++ Z) H locs := hM
      refine lv_goto (tgt := 39) hx hb dX5_hum_25 (by decide) ?_
      exact bx_reti E hr hlk hM (mf_no S (mf_against S p0 1)) rfl (by simp [mf_hum, hp_1, c_17]) dX5_hum_39
  · have hM : bx_M D A s (md_w t.1 h a S ++ Z) H locs := hM
    refine lv_if_ne (tgt := 9) hx hb dX5_hum_4 (by decide) (fun c => absurd c (by decide)) (fun _ => ?_)
    refine lv_iconst (v := (-1)) hx hb dX5_hum_7 (by decide) ?_
    exact bx_reti E hr hlk hM S rfl (by simp [mf_hum, hp_1]) dX5_hum_8

set_option maxHeartbeats 4000000 in
set_option maxRecDepth 100000 in
theorem cX5c_tune (l : Launch) (D : va_G) (t : bx_T) (A : Nat → Prop) (h : Nat) (a : Nat → Nat) (S : md_S) (Z : va_W) (p0 p1 : Int32) (hI : md_I S) : bx_Ci l yX5_tune wsX5_tune ({ frames := 2, cells := 0, slots := 0, locals := 44 }) D t A [.ref h, .int p0, .int p1] (md_w t.1 h a S ++ Z) (fun (r : Int32) (u : md_S) => r = (mf_tune S p0 p1).1 ∧ u = (mf_tune S p0 p1).2) (fun u => md_w t.1 h a u ++ Z) 0 0 := by
  refine bx_enter (cc := cX5_tune) (maxL := 4) (ret := some .int) (by decide) rfl (Nat.le_of_ble_eq_true rfl) ?_
  intro p e s m below meth c ls E hr hlk hnm hM hl
  have hl : lv_has ls 4 [(0, .ref h), (1, .int p0), (2, .int p1)] := hl
  have hx := E.1.1
  have hb := E.1.2.1
  have hin : ∀ w ∈ wsX50, w ∈ wsX5_tune := by decide +kernel
  refine lv_iload_n hx hb dX5_tune_0 rfl (lv_at hl 1 rfl) ?_
  refine bx_goi hM (bx_runS (As := [.int p0]) (rest := []) E hM (cX5c_isHook l D t A (md_w t.1 h a S ++ Z) p0) 1 gX5_tune_X5_isHook rfl rfl rfl (by decide +kernel) ⟨Nat.le_of_ble_eq_true rfl, Nat.le_of_ble_eq_true rfl⟩ rfl hl.1 rfl (Nat.le_of_ble_eq_true rfl) dX5_tune_1 ⟨Nat.le_of_ble_eq_true rfl, Nat.le_of_ble_eq_true rfl⟩) (fun r u H locs hp hM => ?_)
  rcases hp with ⟨rfl, hp_1⟩ | ⟨rfl, hp_1⟩
  · have hM : bx_M D A s (md_w t.1 h a S ++ Z) H locs := hM
    refine lv_if_eq (tgt := 18) hx hb dX5_tune_4 (by decide) (fun c => absurd c (by decide)) (fun _ => ?_)
    refine lv_iload_n hx hb dX5_tune_7 rfl (lv_at hl 2 rfl) ?_
    refine lv_iconst (v := 0) hx hb dX5_tune_8 (by decide) ?_
    refine lv_sipush (v := 1000) hx hb dX5_tune_9 (by decide) ?_
    refine bx_goi hM (bx_runS (As := [.int p1, .int 0, .int 1000]) (rest := []) E hM (cX5c_in l D t A (md_w t.1 h a S ++ Z) p1 0 1000) 3 gX5_tune_X5_in rfl rfl rfl (by decide +kernel) ⟨Nat.le_of_ble_eq_true rfl, Nat.le_of_ble_eq_true rfl⟩ rfl hl.1 rfl (Nat.le_of_ble_eq_true rfl) dX5_tune_12 ⟨Nat.le_of_ble_eq_true rfl, Nat.le_of_ble_eq_true rfl⟩) (fun r u H locs hp hM => ?_)
    rcases hp with ⟨rfl, hp_12⟩ | ⟨rfl, hp_12⟩
    · have hM : bx_M D A s (md_w t.1 h a S ++ Z) H locs := hM
      refine lv_if_ne (tgt := 20) hx hb dX5_tune_15 (by decide) (fun _ => ?_) (fun c => absurd c (by decide))
      refine lv_aload_n hx hb dX5_tune_20 rfl (lv_at hl 0 rfl) ?_
      refine lv_iload_n hx hb dX5_tune_21 rfl (lv_at hl 1 rfl) ?_
      refine lv_iconst (v := 1) hx hb dX5_tune_22 (by decide) ?_
      refine bx_goi hM (bx_runV (As := [.int p0, .int 1]) (rest := []) E hM (cX5c_against l D t A h a S Z p0 1 hI hp_1) (md_recv E hM) 2 gX5_tune_X5_against rfl rfl rfl (by decide +kernel) ⟨Nat.le_of_ble_eq_true rfl, Nat.le_of_ble_eq_true rfl⟩ rfl hl.1 rfl (Nat.le_of_ble_eq_true rfl) dX5_tune_23 ⟨Nat.le_of_ble_eq_true rfl, Nat.le_of_ble_eq_true rfl⟩) (fun r u H locs hp hM => ?_)
      subst hp
      have hM : bx_M D A s (md_w t.1 h a S ++ Z) H locs := hM
      refine lv_istore_n (lv' := [(3, .int (mf_against S p0 1)), (0, .ref h), (1, .int p0), (2, .int p1)]) hx hb dX5_tune_26 rfl hl (by decide) rfl (fun ls hl => ?_)
      refine lv_iload_n hx hb dX5_tune_27 rfl (lv_at hl 0 rfl) ?_
      refine lv_if_le (tgt := 37) hx hb dX5_tune_28 (by decide) (fun c_28 => ?_) (fun c_28 => ?_)
      · have c_28 := Int32.not_lt.mpr c_28
        refine lv_aload_n hx hb dX5_tune_37 rfl (lv_at hl 1 rfl) ?_
        refine md_get E hin hM 5 (by decide) (by decide +kernel) rfl dX5_tune_38 ?_
        refine lv_aload_n hx hb dX5_tune_41 rfl (lv_at hl 1 rfl) ?_
        refine md_get E hin hM 7 (by decide) (by decide +kernel) rfl dX5_tune_42 ?_
        refine lv_iload_n hx hb dX5_tune_45 rfl (lv_at hl 2 rfl) ?_
        refine md_ald E hM 7 (by decide) (md_hk hp_1) dX5_tune_46 ?_
        refine lv_iload_n hx hb dX5_tune_47 rfl (lv_at hl 3 rfl) ?_
        refine md_ast E hM 5 (by decide) (hI.hook hp_1 (md_ag c_28)) dX5_tune_48 (fun H locs hM => ?_)
        have hM : bx_M D A s (md_w t.1 h a (md_ai S 5 (S.1 7 p0.toNatClampNeg).toNatClampNeg p1) ++ Z) H locs := hM
        refine lv_iload_n hx hb dX5_tune_49 rfl (lv_at hl 3 rfl) ?_
        exact bx_reti E hr hlk hM (md_ai S 5 (S.1 7 p0.toNatClampNeg).toNatClampNeg p1) rfl (by simp [mf_tune, hp_1, hp_12, c_28]) dX5_tune_50
      · have c_28 := Int32.not_le.mp c_28
        refine lv_aload_n hx hb dX5_tune_31 rfl (lv_at hl 1 rfl) ?_
        refine lv_iload_n hx hb dX5_tune_32 rfl (lv_at hl 0 rfl) ?_
        refine bx_goi hM (bx_runV (As := [.int (mf_against S p0 1)]) (rest := []) E hM (cX5c_no l D t A h a S Z (mf_against S p0 1) (md_agv c_28)) (md_recv E hM) 1 gX5_tune_X5_no rfl rfl rfl (by decide +kernel) ⟨Nat.le_of_ble_eq_true rfl, Nat.le_of_ble_eq_true rfl⟩ rfl hl.1 rfl (Nat.le_of_ble_eq_true rfl) dX5_tune_33 ⟨Nat.le_of_ble_eq_true rfl, Nat.le_of_ble_eq_true rfl⟩) (fun r u H locs hp hM => ?_)
        obtain ⟨rfl, rfl⟩ := hp
        have hM : bx_M D A s (md_w t.1 h a (mf_no S (mf_against S p0 1)) ++ Z) H locs := hM
        exact bx_reti E hr hlk hM (mf_no S (mf_against S p0 1)) rfl (by simp [mf_tune, hp_1, hp_12, c_28]) dX5_tune_36
    · have hM : bx_M D A s (md_w t.1 h a S ++ Z) H locs := hM
      refine lv_if_ne (tgt := 20) hx hb dX5_tune_15 (by decide) (fun c => absurd c (by decide)) (fun _ => ?_)
      refine lv_iconst (v := (-1)) hx hb dX5_tune_18 (by decide) ?_
      exact bx_reti E hr hlk hM S rfl (by simp [mf_tune, hp_1, hp_12]) dX5_tune_19
  · have hM : bx_M D A s (md_w t.1 h a S ++ Z) H locs := hM
    refine lv_if_eq (tgt := 18) hx hb dX5_tune_4 (by decide) (fun _ => ?_) (fun c => absurd c (by decide))
    refine lv_iconst (v := (-1)) hx hb dX5_tune_18 (by decide) ?_
    exact bx_reti E hr hlk hM S rfl (by simp [mf_tune, hp_1]) dX5_tune_19

set_option maxHeartbeats 4000000 in
set_option maxRecDepth 100000 in
theorem cX5c_alarm (l : Launch) (D : va_G) (t : bx_T) (A : Nat → Prop) (h : Nat) (a : Nat → Nat) (S : md_S) (Z : va_W) (p0 p1 : Int32) (hI : md_I S) : bx_Ci l yX5_alarm wsX5_alarm ({ frames := 2, cells := 0, slots := 0, locals := 44 }) D t A [.ref h, .int p0, .int p1] (md_w t.1 h a S ++ Z) (fun (r : Int32) (u : md_S) => r = (mf_alarm S p0 p1).1 ∧ u = (mf_alarm S p0 p1).2) (fun u => md_w t.1 h a u ++ Z) 0 0 := by
  refine bx_enter (cc := cX5_alarm) (maxL := 5) (ret := some .int) (by decide) rfl (Nat.le_of_ble_eq_true rfl) ?_
  intro p e s m below meth c ls E hr hlk hnm hM hl
  have hl : lv_has ls 5 [(0, .ref h), (1, .int p0), (2, .int p1)] := hl
  have hx := E.1.1
  have hb := E.1.2.1
  have hin : ∀ w ∈ wsX50, w ∈ wsX5_alarm := by decide +kernel
  refine lv_iload_n hx hb dX5_alarm_0 rfl (lv_at hl 1 rfl) ?_
  refine bx_goi hM (bx_runS (As := [.int p0]) (rest := []) E hM (cX5c_isHook l D t A (md_w t.1 h a S ++ Z) p0) 1 gX5_alarm_X5_isHook rfl rfl rfl (by decide +kernel) ⟨Nat.le_of_ble_eq_true rfl, Nat.le_of_ble_eq_true rfl⟩ rfl hl.1 rfl (Nat.le_of_ble_eq_true rfl) dX5_alarm_1 ⟨Nat.le_of_ble_eq_true rfl, Nat.le_of_ble_eq_true rfl⟩) (fun r u H locs hp hM => ?_)
  rcases hp with ⟨rfl, hp_1⟩ | ⟨rfl, hp_1⟩
  · have hM : bx_M D A s (md_w t.1 h a S ++ Z) H locs := hM
    refine lv_if_eq (tgt := 17) hx hb dX5_alarm_4 (by decide) (fun c => absurd c (by decide)) (fun _ => ?_)
    refine lv_iload_n hx hb dX5_alarm_7 rfl (lv_at hl 2 rfl) ?_
    refine lv_iconst (v := 0) hx hb dX5_alarm_8 (by decide) ?_
    refine lv_bipush (v := 9) hx hb dX5_alarm_9 (by decide) ?_
    refine bx_goi hM (bx_runS (As := [.int p1, .int 0, .int 9]) (rest := []) E hM (cX5c_in l D t A (md_w t.1 h a S ++ Z) p1 0 9) 3 gX5_alarm_X5_in rfl rfl rfl (by decide +kernel) ⟨Nat.le_of_ble_eq_true rfl, Nat.le_of_ble_eq_true rfl⟩ rfl hl.1 rfl (Nat.le_of_ble_eq_true rfl) dX5_alarm_11 ⟨Nat.le_of_ble_eq_true rfl, Nat.le_of_ble_eq_true rfl⟩) (fun r u H locs hp hM => ?_)
    rcases hp with ⟨rfl, hp_11⟩ | ⟨rfl, hp_11⟩
    · have hM : bx_M D A s (md_w t.1 h a S ++ Z) H locs := hM
      refine lv_if_ne (tgt := 19) hx hb dX5_alarm_14 (by decide) (fun _ => ?_) (fun c => absurd c (by decide))
      refine lv_aload_n hx hb dX5_alarm_19 rfl (lv_at hl 0 rfl) ?_
      refine lv_iload_n hx hb dX5_alarm_20 rfl (lv_at hl 1 rfl) ?_
      refine lv_iconst (v := 0) hx hb dX5_alarm_21 (by decide) ?_
      refine bx_goi hM (bx_runV (As := [.int p0, .int 0]) (rest := []) E hM (cX5c_against l D t A h a S Z p0 0 hI hp_1) (md_recv E hM) 2 gX5_alarm_X5_against rfl rfl rfl (by decide +kernel) ⟨Nat.le_of_ble_eq_true rfl, Nat.le_of_ble_eq_true rfl⟩ rfl hl.1 rfl (Nat.le_of_ble_eq_true rfl) dX5_alarm_22 ⟨Nat.le_of_ble_eq_true rfl, Nat.le_of_ble_eq_true rfl⟩) (fun r u H locs hp hM => ?_)
      subst hp
      have hM : bx_M D A s (md_w t.1 h a S ++ Z) H locs := hM
      refine lv_istore_n (lv' := [(3, .int (mf_against S p0 0)), (0, .ref h), (1, .int p0), (2, .int p1)]) hx hb dX5_alarm_25 rfl hl (by decide) rfl (fun ls hl => ?_)
      refine lv_iload_n hx hb dX5_alarm_26 rfl (lv_at hl 0 rfl) ?_
      refine lv_if_le (tgt := 36) hx hb dX5_alarm_27 (by decide) (fun c_27 => ?_) (fun c_27 => ?_)
      · have c_27 := Int32.not_lt.mpr c_27
        refine lv_aload_n hx hb dX5_alarm_36 rfl (lv_at hl 1 rfl) ?_
        refine md_get E hin hM 4 (by decide) (by decide +kernel) rfl dX5_alarm_37 ?_
        refine lv_aload_n hx hb dX5_alarm_40 rfl (lv_at hl 1 rfl) ?_
        refine md_get E hin hM 7 (by decide) (by decide +kernel) rfl dX5_alarm_41 ?_
        refine lv_iload_n hx hb dX5_alarm_44 rfl (lv_at hl 2 rfl) ?_
        refine md_ald E hM 7 (by decide) (md_hk hp_1) dX5_alarm_45 ?_
        refine md_ald E hM 4 (by decide) (hI.hook hp_1 (md_ag c_27)) dX5_alarm_46 ?_
        refine lv_istore (lv' := [(4, .int (S.1 4 (S.1 7 p0.toNatClampNeg).toNatClampNeg)), (3, .int (mf_against S p0 0)), (0, .ref h), (1, .int p0), (2, .int p1)]) hx hb dX5_alarm_47 hl (by decide) rfl (fun ls hl => ?_)
        refine lv_aload_n hx hb dX5_alarm_49 rfl (lv_at hl 2 rfl) ?_
        refine md_get E hin hM 4 (by decide) (by decide +kernel) rfl dX5_alarm_50 ?_
        refine lv_aload_n hx hb dX5_alarm_53 rfl (lv_at hl 2 rfl) ?_
        refine md_get E hin hM 7 (by decide) (by decide +kernel) rfl dX5_alarm_54 ?_
        refine lv_iload_n hx hb dX5_alarm_57 rfl (lv_at hl 3 rfl) ?_
        refine md_ald E hM 7 (by decide) (md_hk hp_1) dX5_alarm_58 ?_
        refine lv_iload_n hx hb dX5_alarm_59 rfl (lv_at hl 4 rfl) ?_
        refine md_ast E hM 4 (by decide) (hI.hook hp_1 (md_ag c_27)) dX5_alarm_60 (fun H locs hM => ?_)
        have hM : bx_M D A s (md_w t.1 h a (md_ai S 4 (S.1 7 p0.toNatClampNeg).toNatClampNeg p1) ++ Z) H locs := hM
        refine lv_iload hx hb dX5_alarm_61 (lv_at hl 0 rfl) ?_
        exact bx_reti E hr hlk hM (md_ai S 4 (S.1 7 p0.toNatClampNeg).toNatClampNeg p1) rfl (by simp [mf_alarm, hp_1, hp_11, c_27]) dX5_alarm_63
      · have c_27 := Int32.not_le.mp c_27
        refine lv_aload_n hx hb dX5_alarm_30 rfl (lv_at hl 1 rfl) ?_
        refine lv_iload_n hx hb dX5_alarm_31 rfl (lv_at hl 0 rfl) ?_
        refine bx_goi hM (bx_runV (As := [.int (mf_against S p0 0)]) (rest := []) E hM (cX5c_no l D t A h a S Z (mf_against S p0 0) (md_agv c_27)) (md_recv E hM) 1 gX5_alarm_X5_no rfl rfl rfl (by decide +kernel) ⟨Nat.le_of_ble_eq_true rfl, Nat.le_of_ble_eq_true rfl⟩ rfl hl.1 rfl (Nat.le_of_ble_eq_true rfl) dX5_alarm_32 ⟨Nat.le_of_ble_eq_true rfl, Nat.le_of_ble_eq_true rfl⟩) (fun r u H locs hp hM => ?_)
        obtain ⟨rfl, rfl⟩ := hp
        have hM : bx_M D A s (md_w t.1 h a (mf_no S (mf_against S p0 0)) ++ Z) H locs := hM
        exact bx_reti E hr hlk hM (mf_no S (mf_against S p0 0)) rfl (by simp [mf_alarm, hp_1, hp_11, c_27]) dX5_alarm_35
    · have hM : bx_M D A s (md_w t.1 h a S ++ Z) H locs := hM
      refine lv_if_ne (tgt := 19) hx hb dX5_alarm_14 (by decide) (fun c => absurd c (by decide)) (fun _ => ?_)
      refine lv_iconst (v := (-1)) hx hb dX5_alarm_17 (by decide) ?_
      exact bx_reti E hr hlk hM S rfl (by simp [mf_alarm, hp_1, hp_11]) dX5_alarm_18
  · have hM : bx_M D A s (md_w t.1 h a S ++ Z) H locs := hM
    refine lv_if_eq (tgt := 17) hx hb dX5_alarm_4 (by decide) (fun _ => ?_) (fun c => absurd c (by decide))
    refine lv_iconst (v := (-1)) hx hb dX5_alarm_17 (by decide) ?_
    exact bx_reti E hr hlk hM S rfl (by simp [mf_alarm, hp_1]) dX5_alarm_18

set_option maxHeartbeats 4000000 in
set_option maxRecDepth 100000 in
theorem cX5c_raise (l : Launch) (D : va_G) (t : bx_T) (A : Nat → Prop) (h : Nat) (a : Nat → Nat) (S : md_S) (Z : va_W) (p0 : Int32) (hI : md_I S) : bx_Ci l yX5_raise wsX5_raise ({ frames := 2, cells := 0, slots := 0, locals := 44 }) D t A [.ref h, .int p0] (md_w t.1 h a S ++ Z) (fun (r : Int32) (u : md_S) => r = (mf_raise S p0).1 ∧ u = (mf_raise S p0).2) (fun u => md_w t.1 h a u ++ Z) 0 0 := by
  refine bx_enter (cc := cX5_raise) (maxL := 3) (ret := some .int) (by decide) rfl (Nat.le_of_ble_eq_true rfl) ?_
  intro p e s m below meth c ls E hr hlk hnm hM hl
  have hl : lv_has ls 3 [(0, .ref h), (1, .int p0)] := hl
  have hx := E.1.1
  have hb := E.1.2.1
  have hin : ∀ w ∈ wsX50, w ∈ wsX5_raise := by decide +kernel
  refine lv_iload_n hx hb dX5_raise_0 rfl (lv_at hl 1 rfl) ?_
  refine bx_goi hM (bx_runS (As := [.int p0]) (rest := []) E hM (cX5c_isHook l D t A (md_w t.1 h a S ++ Z) p0) 1 gX5_raise_X5_isHook rfl rfl rfl (by decide +kernel) ⟨Nat.le_of_ble_eq_true rfl, Nat.le_of_ble_eq_true rfl⟩ rfl hl.1 rfl (Nat.le_of_ble_eq_true rfl) dX5_raise_1 ⟨Nat.le_of_ble_eq_true rfl, Nat.le_of_ble_eq_true rfl⟩) (fun r u H locs hp hM => ?_)
  rcases hp with ⟨rfl, hp_1⟩ | ⟨rfl, hp_1⟩
  · have hM : bx_M D A s (md_w t.1 h a S ++ Z) H locs := hM
    refine lv_if_ne (tgt := 9) hx hb dX5_raise_4 (by decide) (fun _ => ?_) (fun c => absurd c (by decide))
    refine lv_aload_n hx hb dX5_raise_9 rfl (lv_at hl 0 rfl) ?_
    refine lv_iload_n hx hb dX5_raise_10 rfl (lv_at hl 1 rfl) ?_
    refine lv_iconst (v := 0) hx hb dX5_raise_11 (by decide) ?_
    refine bx_goi hM (bx_runV (As := [.int p0, .int 0]) (rest := []) E hM (cX5c_against l D t A h a S Z p0 0 hI hp_1) (md_recv E hM) 2 gX5_raise_X5_against rfl rfl rfl (by decide +kernel) ⟨Nat.le_of_ble_eq_true rfl, Nat.le_of_ble_eq_true rfl⟩ rfl hl.1 rfl (Nat.le_of_ble_eq_true rfl) dX5_raise_12 ⟨Nat.le_of_ble_eq_true rfl, Nat.le_of_ble_eq_true rfl⟩) (fun r u H locs hp hM => ?_)
    subst hp
    have hM : bx_M D A s (md_w t.1 h a S ++ Z) H locs := hM
    refine lv_istore_n (lv' := [(2, .int (mf_against S p0 0)), (0, .ref h), (1, .int p0)]) hx hb dX5_raise_15 rfl hl (by decide) rfl (fun ls hl => ?_)
    refine lv_iload_n hx hb dX5_raise_16 rfl (lv_at hl 0 rfl) ?_
    refine lv_if_le (tgt := 26) hx hb dX5_raise_17 (by decide) (fun c_17 => ?_) (fun c_17 => ?_)
    · have c_17 := Int32.not_lt.mpr c_17
      refine lv_aload_n hx hb dX5_raise_26 rfl (lv_at hl 1 rfl) ?_
      refine md_get E hin hM 4 (by decide) (by decide +kernel) rfl dX5_raise_27 ?_
      refine lv_aload_n hx hb dX5_raise_30 rfl (lv_at hl 1 rfl) ?_
      refine md_get E hin hM 7 (by decide) (by decide +kernel) rfl dX5_raise_31 ?_
      refine lv_iload_n hx hb dX5_raise_34 rfl (lv_at hl 2 rfl) ?_
      refine md_ald E hM 7 (by decide) (md_hk hp_1) dX5_raise_35 ?_
      refine md_ald E hM 4 (by decide) (hI.hook hp_1 (md_ag c_17)) dX5_raise_36 ?_
      refine lv_if_ne (tgt := 46) hx hb dX5_raise_37 (by decide) (fun c_37 => ?_) (fun c_37 => ?_)
      · refine lv_aload_n hx hb dX5_raise_46 rfl (lv_at hl 1 rfl) ?_
        refine lv_aload_n hx hb dX5_raise_47 rfl (lv_at hl 1 rfl) ?_
        refine md_get E hin hM 4 (by decide) (by decide +kernel) rfl dX5_raise_48 ?_
        refine lv_aload_n hx hb dX5_raise_51 rfl (lv_at hl 1 rfl) ?_
        refine md_get E hin hM 7 (by decide) (by decide +kernel) rfl dX5_raise_52 ?_
        refine lv_iload_n hx hb dX5_raise_55 rfl (lv_at hl 2 rfl) ?_
        refine md_ald E hM 7 (by decide) (md_hk hp_1) dX5_raise_56 ?_
        refine md_ald E hM 4 (by decide) (hI.hook hp_1 (md_ag c_17)) dX5_raise_57 ?_
        refine md_put (S' := md_s S 5 (S.1 4 (S.1 7 p0.toNatClampNeg).toNatClampNeg)) E hin hM 16 (by decide) (by decide +kernel) rfl rfl rfl rfl dX5_raise_58 (fun H locs hM => ?_)
        have hM : bx_M D A s (md_w t.1 h a (md_s S 5 (S.1 4 (S.1 7 p0.toNatClampNeg).toNatClampNeg)) ++ Z) H locs := hM
        refine lv_aload_n hx hb dX5_raise_61 rfl (lv_at hl 1 rfl) ?_
        refine lv_bipush (v := 6) hx hb dX5_raise_62 (by decide) ?_
        refine bx_goi hM (bx_runV (As := [.int 6]) (rest := []) E hM (cX5c_no l D t A h a (md_s S 5 (S.1 4 (S.1 7 p0.toNatClampNeg).toNatClampNeg)) Z 6 (vp_in_iff.mpr (by decide))) (md_recv E hM) 1 gX5_raise_X5_no rfl rfl rfl (by decide +kernel) ⟨Nat.le_of_ble_eq_true rfl, Nat.le_of_ble_eq_true rfl⟩ rfl hl.1 rfl (Nat.le_of_ble_eq_true rfl) dX5_raise_64 ⟨Nat.le_of_ble_eq_true rfl, Nat.le_of_ble_eq_true rfl⟩) (fun r u H locs hp hM => ?_)
        obtain ⟨rfl, rfl⟩ := hp
        have hM : bx_M D A s (md_w t.1 h a (mf_no (md_s S 5 (S.1 4 (S.1 7 p0.toNatClampNeg).toNatClampNeg)) 6) ++ Z) H locs := hM
        exact bx_reti E hr hlk hM (mf_no (md_s S 5 (S.1 4 (S.1 7 p0.toNatClampNeg).toNatClampNeg)) 6) rfl (by simp [mf_raise, hp_1, c_17, c_37]) dX5_raise_67
      · refine lv_aload_n hx hb dX5_raise_40 rfl (lv_at hl 1 rfl) ?_
        refine lv_iconst (v := 1) hx hb dX5_raise_41 (by decide) ?_
        refine bx_goi hM (bx_runV (As := [.int 1]) (rest := []) E hM (cX5c_no l D t A h a S Z 1 (vp_in_iff.mpr (by decide))) (md_recv E hM) 1 gX5_raise_X5_no rfl rfl rfl (by decide +kernel) ⟨Nat.le_of_ble_eq_true rfl, Nat.le_of_ble_eq_true rfl⟩ rfl hl.1 rfl (Nat.le_of_ble_eq_true rfl) dX5_raise_42 ⟨Nat.le_of_ble_eq_true rfl, Nat.le_of_ble_eq_true rfl⟩) (fun r u H locs hp hM => ?_)
        obtain ⟨rfl, rfl⟩ := hp
        have hM : bx_M D A s (md_w t.1 h a (mf_no S 1) ++ Z) H locs := hM
        exact bx_reti E hr hlk hM (mf_no S 1) rfl (by simp [mf_raise, hp_1, c_17, c_37]) dX5_raise_45
    · have c_17 := Int32.not_le.mp c_17
      refine lv_aload_n hx hb dX5_raise_20 rfl (lv_at hl 1 rfl) ?_
      refine lv_iload_n hx hb dX5_raise_21 rfl (lv_at hl 0 rfl) ?_
      refine bx_goi hM (bx_runV (As := [.int (mf_against S p0 0)]) (rest := []) E hM (cX5c_no l D t A h a S Z (mf_against S p0 0) (md_agv c_17)) (md_recv E hM) 1 gX5_raise_X5_no rfl rfl rfl (by decide +kernel) ⟨Nat.le_of_ble_eq_true rfl, Nat.le_of_ble_eq_true rfl⟩ rfl hl.1 rfl (Nat.le_of_ble_eq_true rfl) dX5_raise_22 ⟨Nat.le_of_ble_eq_true rfl, Nat.le_of_ble_eq_true rfl⟩) (fun r u H locs hp hM => ?_)
      obtain ⟨rfl, rfl⟩ := hp
      have hM : bx_M D A s (md_w t.1 h a (mf_no S (mf_against S p0 0)) ++ Z) H locs := hM
      exact bx_reti E hr hlk hM (mf_no S (mf_against S p0 0)) rfl (by simp [mf_raise, hp_1, c_17]) dX5_raise_25
  · have hM : bx_M D A s (md_w t.1 h a S ++ Z) H locs := hM
    refine lv_if_ne (tgt := 9) hx hb dX5_raise_4 (by decide) (fun c => absurd c (by decide)) (fun _ => ?_)
    refine lv_iconst (v := (-1)) hx hb dX5_raise_7 (by decide) ?_
    exact bx_reti E hr hlk hM S rfl (by simp [mf_raise, hp_1]) dX5_raise_8

set_option maxHeartbeats 4000000 in
set_option maxRecDepth 100000 in
theorem cX5c_level (l : Launch) (D : va_G) (t : bx_T) (A : Nat → Prop) (h : Nat) (a : Nat → Nat) (S : md_S) (Z : va_W) : bx_Ci l yX5_level wsX5_level ({ frames := 0, cells := 0, slots := 0, locals := 0 }) D t A [.ref h] (md_w t.1 h a S ++ Z) (fun (r : Int32) (u : md_S) => r = (mf_level S).1 ∧ u = (mf_level S).2) (fun u => md_w t.1 h a u ++ Z) 0 0 := by
  refine bx_enter (cc := cX5_level) (maxL := 1) (ret := some .int) (by decide) rfl (Nat.le_of_ble_eq_true rfl) ?_
  intro p e s m below meth c ls E hr hlk hnm hM hl
  have hl : lv_has ls 1 [(0, .ref h)] := hl
  have hx := E.1.1
  have hb := E.1.2.1
  have hin : ∀ w ∈ wsX50, w ∈ wsX5_level := by decide +kernel
  refine lv_aload_n hx hb dX5_level_0 rfl (lv_at hl 0 rfl) ?_
  refine md_get E hin hM 16 (by decide) (by decide +kernel) rfl dX5_level_1 ?_
  exact bx_reti E hr hlk hM S rfl (⟨rfl, rfl⟩) dX5_level_4

set_option maxHeartbeats 4000000 in
set_option maxRecDepth 100000 in
theorem cX5c_size (l : Launch) (D : va_G) (t : bx_T) (A : Nat → Prop) (h : Nat) (a : Nat → Nat) (S : md_S) (Z : va_W) : bx_Ci l yX5_size wsX5_size ({ frames := 1, cells := 0, slots := 0, locals := 21 }) D t A [.ref h] (md_w t.1 h a S ++ Z) (fun (r : Int32) (u : md_S) => r = (mf_size S).1 ∧ u = (mf_size S).2) (fun u => md_w t.1 h a u ++ Z) 0 0 := by
  refine bx_enter (cc := cX5_size) (maxL := 1) (ret := some .int) (by decide) rfl (Nat.le_of_ble_eq_true rfl) ?_
  intro p e s m below meth c ls E hr hlk hnm hM hl
  have hl : lv_has ls 1 [(0, .ref h)] := hl
  have hx := E.1.1
  have hb := E.1.2.1
  have hin : ∀ w ∈ wsX50, w ∈ wsX5_size := by decide +kernel
  refine lv_aload_n hx hb dX5_size_0 rfl (lv_at hl 0 rfl) ?_
  refine md_get E hin hM 8 (by decide) (by decide +kernel) rfl dX5_size_1 ?_
  refine lv_iconst (v := (-1)) hx hb dX5_size_4 (by decide) ?_
  refine lv_icmp_ne (tgt := 16) hx hb dX5_size_5 (by decide) (fun c_5 => ?_) (fun c_5 => ?_)
  · refine lv_aload_n hx hb dX5_size_16 rfl (lv_at hl 0 rfl) ?_
    refine md_get E hin hM 8 (by decide) (by decide +kernel) rfl dX5_size_17 ?_
    exact bx_reti E hr hlk hM S rfl (by simp [mf_size, c_5]) dX5_size_20
  · refine lv_aload_n hx hb dX5_size_8 rfl (lv_at hl 0 rfl) ?_
    refine lv_iconst (v := 1) hx hb dX5_size_9 (by decide) ?_
    refine bx_goi hM (bx_runV (As := [.int 1]) (rest := []) E hM (cX5c_no l D t A h a S Z 1 (vp_in_iff.mpr (by decide))) (md_recv E hM) 1 gX5_size_X5_no rfl rfl rfl (by decide +kernel) ⟨Nat.le_of_ble_eq_true rfl, Nat.le_of_ble_eq_true rfl⟩ rfl hl.1 rfl (Nat.le_of_ble_eq_true rfl) dX5_size_10 ⟨Nat.le_of_ble_eq_true rfl, Nat.le_of_ble_eq_true rfl⟩) (fun r u H locs hp hM => ?_)
    obtain ⟨rfl, rfl⟩ := hp
    have hM : bx_M D A s (md_w t.1 h a (mf_no S 1) ++ Z) H locs := hM
    refine lv_goto (tgt := 20) hx hb dX5_size_13 (by decide) ?_
    exact bx_reti E hr hlk hM (mf_no S 1) rfl (by simp [mf_size, c_5]) dX5_size_20
