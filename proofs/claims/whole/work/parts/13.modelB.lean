set_option maxHeartbeats 4000000 in
set_option maxRecDepth 100000 in
theorem cX5c_rings (l : Launch) (D : va_G) (t : bx_T) (A : Nat → Prop) (h : Nat) (a : Nat → Nat) (S : md_S) (Z : va_W) (p0 : Int32) (hI : md_I S) (hv : vp_in p0 64) : bx_Ci l yX5_rings wsX5_rings ({ frames := 0, cells := 0, slots := 0, locals := 0 }) D t A [.ref h, .int p0] (md_w t.1 h a S ++ Z) (fun (r : Int32) (u : md_S) => r = (mf_rings S p0).1 ∧ u = (mf_rings S p0).2) (fun u => md_w t.1 h a u ++ Z) 0 0 := by
  refine bx_enter (cc := cX5_rings) (maxL := 3) (ret := some .int) (by decide) rfl (Nat.le_of_ble_eq_true rfl) ?_
  intro p e s m below meth c ls E hr hlk hnm hM hl
  have hl : lv_has ls 3 [(0, .ref h), (1, .int p0)] := hl
  have hx := E.1.1
  have hb := E.1.2.1
  have hin : ∀ w ∈ wsX50, w ∈ wsX5_rings := by decide +kernel
  refine lv_aload_n hx hb dX5_rings_0 rfl (lv_at hl 0 rfl) ?_
  refine md_get E hin hM 2 (by decide) (by decide +kernel) rfl dX5_rings_1 ?_
  refine lv_iload_n hx hb dX5_rings_4 rfl (lv_at hl 1 rfl) ?_
  refine lv_dup2_11 hx hb dX5_rings_5 rfl rfl ?_
  refine md_ald E hM 2 (by decide) (hv) dX5_rings_6 ?_
  refine lv_iconst (v := 1) hx hb dX5_rings_7 (by decide) ?_
  refine lv_iadd hx hb dX5_rings_8 ?_
  refine md_ast E hM 2 (by decide) (hv) dX5_rings_9 (fun H locs hM => ?_)
  have hM : bx_M D A s (md_w t.1 h a (md_ai S 2 p0.toNatClampNeg ((S.1 2 p0.toNatClampNeg) + 1)) ++ Z) H locs := hM
  refine lv_aload_n hx hb dX5_rings_10 rfl (lv_at hl 0 rfl) ?_
  refine md_get E hin hM 2 (by decide) (by decide +kernel) rfl dX5_rings_11 ?_
  refine lv_iload_n hx hb dX5_rings_14 rfl (lv_at hl 1 rfl) ?_
  refine md_ald E hM 2 (by decide) (hv) dX5_rings_15 ?_
  refine lv_iconst (v := 5) hx hb dX5_rings_16 (by decide) ?_
  refine lv_icmp_le (tgt := 44) hx hb dX5_rings_17 (by decide) (fun c_17 => ?_) (fun c_17 => ?_)
  · have c_17 := Int32.not_lt.mpr c_17
    refine lv_aload_n hx hb dX5_rings_44 rfl (lv_at hl 0 rfl) ?_
    refine md_get E hin hM 3 (by decide) (by decide +kernel) rfl dX5_rings_45 ?_
    refine lv_iload_n hx hb dX5_rings_48 rfl (lv_at hl 1 rfl) ?_
    refine md_ald E hM 3 (by decide) (hv) dX5_rings_49 ?_
    refine lv_istore_n (lv' := [(2, .int ((md_ai S 2 p0.toNatClampNeg ((S.1 2 p0.toNatClampNeg) + 1)).1 3 p0.toNatClampNeg)), (0, .ref h), (1, .int p0)]) hx hb dX5_rings_50 rfl hl (by decide) rfl (fun ls hl => ?_)
    refine lv_iload_n hx hb dX5_rings_51 rfl (lv_at hl 0 rfl) ?_
    refine lv_iconst (v := (-1)) hx hb dX5_rings_52 (by decide) ?_
    refine lv_icmp_ne (tgt := 58) hx hb dX5_rings_53 (by decide) (fun c_53 => ?_) (fun c_53 => ?_)
    · refine lv_aload_n hx hb dX5_rings_58 rfl (lv_at hl 1 rfl) ?_
      refine md_get E hin hM 6 (by decide) (by decide +kernel) rfl dX5_rings_59 ?_
      refine lv_iload_n hx hb dX5_rings_62 rfl (lv_at hl 0 rfl) ?_
      refine lv_dup2_11 hx hb dX5_rings_63 rfl rfl ?_
      refine md_ald E hM 6 (by decide) (hI.clap (S := S) hv c_53) dX5_rings_64 ?_
      refine lv_iconst (v := 1) hx hb dX5_rings_65 (by decide) ?_
      refine lv_iadd hx hb dX5_rings_66 ?_
      refine md_ast E hM 6 (by decide) (hI.clap (S := S) hv c_53) dX5_rings_67 (fun H locs hM => ?_)
      have hM : bx_M D A s (md_w t.1 h a (md_ai (md_ai S 2 p0.toNatClampNeg ((S.1 2 p0.toNatClampNeg) + 1)) 6 ((md_ai S 2 p0.toNatClampNeg ((S.1 2 p0.toNatClampNeg) + 1)).1 3 p0.toNatClampNeg).toNatClampNeg (((md_ai S 2 p0.toNatClampNeg ((S.1 2 p0.toNatClampNeg) + 1)).1 6 ((md_ai S 2 p0.toNatClampNeg ((S.1 2 p0.toNatClampNeg) + 1)).1 3 p0.toNatClampNeg).toNatClampNeg) + 1)) ++ Z) H locs := hM
      refine lv_aload_n hx hb dX5_rings_68 rfl (lv_at hl 1 rfl) ?_
      refine md_get E hin hM 1 (by decide) (by decide +kernel) rfl dX5_rings_69 ?_
      refine lv_iload_n hx hb dX5_rings_72 rfl (lv_at hl 2 rfl) ?_
      refine md_ald E hM 1 (by decide) (hv) dX5_rings_73 ?_
      refine lv_aload_n hx hb dX5_rings_74 rfl (lv_at hl 1 rfl) ?_
      refine md_get E hin hM 1 (by decide) (by decide +kernel) rfl dX5_rings_75 ?_
      refine lv_iload_n hx hb dX5_rings_78 rfl (lv_at hl 0 rfl) ?_
      refine md_ald E hM 1 (by decide) (hI.clap (S := S) hv c_53) dX5_rings_79 ?_
      refine lv_iadd hx hb dX5_rings_80 ?_
      refine lv_aload_n hx hb dX5_rings_81 rfl (lv_at hl 1 rfl) ?_
      refine md_get E hin hM 0 (by decide) (by decide +kernel) rfl dX5_rings_82 ?_
      refine lv_iload_n hx hb dX5_rings_85 rfl (lv_at hl 2 rfl) ?_
      refine md_ald E hM 0 (by decide) (hv) dX5_rings_86 ?_
      refine lv_iconst (v := 2) hx hb dX5_rings_87 (by decide) ?_
      refine lv_icmp_ne (tgt := 100) hx hb dX5_rings_88 (by decide) (fun c_88 => ?_) (fun c_88 => ?_)
      · refine lv_iconst (v := 0) hx hb dX5_rings_100 (by decide) ?_
        refine lv_iadd hx hb dX5_rings_101 ?_
        exact bx_reti E hr hlk hM (md_ai (md_ai S 2 p0.toNatClampNeg ((S.1 2 p0.toNatClampNeg) + 1)) 6 ((md_ai S 2 p0.toNatClampNeg ((S.1 2 p0.toNatClampNeg) + 1)).1 3 p0.toNatClampNeg).toNatClampNeg (((md_ai S 2 p0.toNatClampNeg ((S.1 2 p0.toNatClampNeg) + 1)).1 6 ((md_ai S 2 p0.toNatClampNeg ((S.1 2 p0.toNatClampNeg) + 1)).1 3 p0.toNatClampNeg).toNatClampNeg) + 1)) rfl (by first | (simp [mf_rings, c_17, c_53, c_88]; done) | (simp [mf_rings, c_17, c_53, c_88]; rfl) | (simp [mf_rings, md_s, va_up, c_17, c_53, c_88]; done)) dX5_rings_102
      · refine lv_aload_n hx hb dX5_rings_91 rfl (lv_at hl 1 rfl) ?_
        refine md_get E hin hM 5 (by decide) (by decide +kernel) rfl dX5_rings_92 ?_
        refine lv_iload_n hx hb dX5_rings_95 rfl (lv_at hl 2 rfl) ?_
        refine md_ald E hM 5 (by decide) (hv) dX5_rings_96 ?_
        refine lv_goto (tgt := 101) hx hb dX5_rings_97 (by decide) ?_
        refine lv_iadd hx hb dX5_rings_101 ?_
        exact bx_reti E hr hlk hM (md_ai (md_ai S 2 p0.toNatClampNeg ((S.1 2 p0.toNatClampNeg) + 1)) 6 ((md_ai S 2 p0.toNatClampNeg ((S.1 2 p0.toNatClampNeg) + 1)).1 3 p0.toNatClampNeg).toNatClampNeg (((md_ai S 2 p0.toNatClampNeg ((S.1 2 p0.toNatClampNeg) + 1)).1 6 ((md_ai S 2 p0.toNatClampNeg ((S.1 2 p0.toNatClampNeg) + 1)).1 3 p0.toNatClampNeg).toNatClampNeg) + 1)) rfl (by first | (simp [mf_rings, c_17, c_53, c_88]; done) | (simp [mf_rings, c_17, c_53, c_88]; rfl) | (simp [mf_rings, md_s, va_up, c_17, c_53, c_88]; done)) dX5_rings_102
    · refine lv_iconst (v := (-1)) hx hb dX5_rings_56 (by decide) ?_
      exact bx_reti E hr hlk hM (md_ai S 2 p0.toNatClampNeg ((S.1 2 p0.toNatClampNeg) + 1)) rfl (by first | (simp [mf_rings, c_17, c_53]; done) | (simp [mf_rings, c_17, c_53]; rfl) | (simp [mf_rings, md_s, va_up, c_17, c_53]; done)) dX5_rings_57
  · have c_17 := Int32.not_le.mp c_17
    refine lv_aload_n hx hb dX5_rings_20 rfl (lv_at hl 0 rfl) ?_
    refine md_get E hin hM 4 (by decide) (by decide +kernel) rfl dX5_rings_21 ?_
    refine lv_iload_n hx hb dX5_rings_24 rfl (lv_at hl 1 rfl) ?_
    refine md_ald E hM 4 (by decide) (hv) dX5_rings_25 ?_
    refine lv_if_ne (tgt := 31) hx hb dX5_rings_26 (by decide) (fun c_26 => ?_) (fun c_26 => ?_)
    · refine lv_aload_n hx hb dX5_rings_31 rfl (lv_at hl 0 rfl) ?_
      refine lv_aload_n hx hb dX5_rings_32 rfl (lv_at hl 0 rfl) ?_
      refine md_get E hin hM 4 (by decide) (by decide +kernel) rfl dX5_rings_33 ?_
      refine lv_iload_n hx hb dX5_rings_36 rfl (lv_at hl 1 rfl) ?_
      refine md_ald E hM 4 (by decide) (hv) dX5_rings_37 ?_
      refine md_put (S' := md_s (md_ai S 2 p0.toNatClampNeg ((S.1 2 p0.toNatClampNeg) + 1)) 5 ((md_ai S 2 p0.toNatClampNeg ((S.1 2 p0.toNatClampNeg) + 1)).1 4 p0.toNatClampNeg)) E hin hM 16 (by decide) (by decide +kernel) rfl rfl rfl rfl dX5_rings_38 (fun H locs hM => ?_)
      have hM : bx_M D A s (md_w t.1 h a (md_s (md_ai S 2 p0.toNatClampNeg ((S.1 2 p0.toNatClampNeg) + 1)) 5 ((md_ai S 2 p0.toNatClampNeg ((S.1 2 p0.toNatClampNeg) + 1)).1 4 p0.toNatClampNeg)) ++ Z) H locs := hM
      refine lv_bipush (v := (-6)) hx hb dX5_rings_41 (by decide) ?_
      exact bx_reti E hr hlk hM (md_s (md_ai S 2 p0.toNatClampNeg ((S.1 2 p0.toNatClampNeg) + 1)) 5 ((md_ai S 2 p0.toNatClampNeg ((S.1 2 p0.toNatClampNeg) + 1)).1 4 p0.toNatClampNeg)) rfl (by first | (simp [mf_rings, c_17, c_26]; done) | (simp [mf_rings, c_17, c_26]; rfl) | (simp [mf_rings, md_s, va_up, c_17, c_26]; done)) dX5_rings_43
    · refine lv_iconst (v := (-1)) hx hb dX5_rings_29 (by decide) ?_
      exact bx_reti E hr hlk hM (md_ai S 2 p0.toNatClampNeg ((S.1 2 p0.toNatClampNeg) + 1)) rfl (by first | (simp [mf_rings, c_17, c_26]; done) | (simp [mf_rings, c_17, c_26]; rfl) | (simp [mf_rings, md_s, va_up, c_17, c_26]; done)) dX5_rings_30

set_option maxHeartbeats 4000000 in
set_option maxRecDepth 100000 in
theorem cX5c_ring (l : Launch) (D : va_G) (t : bx_T) (A : Nat → Prop) (h : Nat) (a : Nat → Nat) (S : md_S) (Z : va_W) (p0 : Int32) (hI : md_I S) : bx_Ci l yX5_ring wsX5_ring ({ frames := 2, cells := 0, slots := 0, locals := 44 }) D t A [.ref h, .int p0] (md_w t.1 h a S ++ Z) (fun (r : Int32) (u : md_S) => r = (mf_ring S p0).1 ∧ u = (mf_ring S p0).2) (fun u => md_w t.1 h a u ++ Z) 0 0 := by
  refine bx_enter (cc := cX5_ring) (maxL := 4) (ret := some .int) (by decide) rfl (Nat.le_of_ble_eq_true rfl) ?_
  intro p e s m below meth c ls E hr hlk hnm hM hl
  have hl : lv_has ls 4 [(0, .ref h), (1, .int p0)] := hl
  have hx := E.1.1
  have hb := E.1.2.1
  have hin : ∀ w ∈ wsX50, w ∈ wsX5_ring := by decide +kernel
  refine lv_iload_n hx hb dX5_ring_0 rfl (lv_at hl 1 rfl) ?_
  refine bx_goi hM (bx_runS (As := [.int p0]) (rest := []) E hM (cX5c_isHook l D t A (md_w t.1 h a S ++ Z) p0) 1 gX5_ring_X5_isHook rfl rfl rfl (by decide +kernel) ⟨Nat.le_of_ble_eq_true rfl, Nat.le_of_ble_eq_true rfl⟩ rfl hl.1 rfl (Nat.le_of_ble_eq_true rfl) dX5_ring_1 ⟨Nat.le_of_ble_eq_true rfl, Nat.le_of_ble_eq_true rfl⟩) (fun r u H locs hp hM => ?_)
  rcases hp with ⟨rfl, hp_1⟩ | ⟨rfl, hp_1⟩
  · have hM : bx_M D A s (md_w t.1 h a S ++ Z) H locs := hM
    refine lv_if_ne (tgt := 9) hx hb dX5_ring_4 (by decide) (fun _ => ?_) (fun c => absurd c (by decide))
    refine lv_aload_n hx hb dX5_ring_9 rfl (lv_at hl 0 rfl) ?_
    refine lv_iload_n hx hb dX5_ring_10 rfl (lv_at hl 1 rfl) ?_
    refine lv_iconst (v := 0) hx hb dX5_ring_11 (by decide) ?_
    refine bx_goi hM (bx_runV (As := [.int p0, .int 0]) (rest := []) E hM (cX5c_against l D t A h a S Z p0 0 hI hp_1) (md_recv E hM) 2 gX5_ring_X5_against rfl rfl rfl (by decide +kernel) ⟨Nat.le_of_ble_eq_true rfl, Nat.le_of_ble_eq_true rfl⟩ rfl hl.1 rfl (Nat.le_of_ble_eq_true rfl) dX5_ring_12 ⟨Nat.le_of_ble_eq_true rfl, Nat.le_of_ble_eq_true rfl⟩) (fun r u H locs hp hM => ?_)
    subst hp
    have hM : bx_M D A s (md_w t.1 h a S ++ Z) H locs := hM
    refine lv_istore_n (lv' := [(2, .int (mf_against S p0 0)), (0, .ref h), (1, .int p0)]) hx hb dX5_ring_15 rfl hl (by decide) rfl (fun ls hl => ?_)
    refine lv_iload_n hx hb dX5_ring_16 rfl (lv_at hl 0 rfl) ?_
    refine lv_if_le (tgt := 26) hx hb dX5_ring_17 (by decide) (fun c_17 => ?_) (fun c_17 => ?_)
    · have c_17 := Int32.not_lt.mpr c_17
      refine lv_aload_n hx hb dX5_ring_26 rfl (lv_at hl 1 rfl) ?_
      refine lv_aload_n hx hb dX5_ring_27 rfl (lv_at hl 1 rfl) ?_
      refine md_get E hin hM 7 (by decide) (by decide +kernel) rfl dX5_ring_28 ?_
      refine lv_iload_n hx hb dX5_ring_31 rfl (lv_at hl 2 rfl) ?_
      refine md_ald E hM 7 (by decide) (md_hk hp_1) dX5_ring_32 ?_
      refine bx_goi hM (bx_runV (As := [.int (S.1 7 p0.toNatClampNeg)]) (rest := []) E hM (cX5c_rings l D t A h a S Z (S.1 7 p0.toNatClampNeg) hI (hI.hook hp_1 (md_ag c_17))) (md_recv E hM) 1 gX5_ring_X5_rings rfl rfl rfl (by decide +kernel) ⟨Nat.le_of_ble_eq_true rfl, Nat.le_of_ble_eq_true rfl⟩ rfl hl.1 rfl (Nat.le_of_ble_eq_true rfl) dX5_ring_33 ⟨Nat.le_of_ble_eq_true rfl, Nat.le_of_ble_eq_true rfl⟩) (fun r u H locs hp hM => ?_)
      obtain ⟨rfl, rfl⟩ := hp
      have hM : bx_M D A s (md_w t.1 h a ((mf_rings S (S.1 7 p0.toNatClampNeg)).2) ++ Z) H locs := hM
      refine lv_istore_n (lv' := [(3, .int ((mf_rings S (S.1 7 p0.toNatClampNeg)).1)), (2, .int (mf_against S p0 0)), (0, .ref h), (1, .int p0)]) hx hb dX5_ring_36 rfl hl (by decide) rfl (fun ls hl => ?_)
      refine lv_iload_n hx hb dX5_ring_37 rfl (lv_at hl 0 rfl) ?_
      refine lv_if_ge (tgt := 50) hx hb dX5_ring_38 (by decide) (fun c_38 => ?_) (fun c_38 => ?_)
      · have c_38 := Int32.not_lt.mpr c_38
        refine lv_iload_n hx hb dX5_ring_50 rfl (lv_at hl 0 rfl) ?_
        exact bx_reti E hr hlk hM ((mf_rings S (S.1 7 p0.toNatClampNeg)).2) rfl (by simp [mf_ring, mf_got, hp_1, c_17, c_38]) dX5_ring_51
      · have c_38 := Int32.not_le.mp c_38
        refine lv_aload_n hx hb dX5_ring_41 rfl (lv_at hl 2 rfl) ?_
        refine lv_iload_n hx hb dX5_ring_42 rfl (lv_at hl 0 rfl) ?_
        refine lv_ineg hx hb dX5_ring_43 ?_
        refine bx_goi hM (bx_runV (As := [.int (-((mf_rings S (S.1 7 p0.toNatClampNeg)).1))]) (rest := []) E hM (cX5c_no l D t A h a ((mf_rings S (S.1 7 p0.toNatClampNeg)).2) Z (-((mf_rings S (S.1 7 p0.toNatClampNeg)).1)) (mf_rings_vp hI (hI.hook hp_1 (md_ag c_17)) c_38)) (md_recv E hM) 1 gX5_ring_X5_no rfl rfl rfl (by decide +kernel) ⟨Nat.le_of_ble_eq_true rfl, Nat.le_of_ble_eq_true rfl⟩ rfl hl.1 rfl (Nat.le_of_ble_eq_true rfl) dX5_ring_44 ⟨Nat.le_of_ble_eq_true rfl, Nat.le_of_ble_eq_true rfl⟩) (fun r u H locs hp hM => ?_)
        obtain ⟨rfl, rfl⟩ := hp
        have hM : bx_M D A s (md_w t.1 h a (mf_no ((mf_rings S (S.1 7 p0.toNatClampNeg)).2) (-((mf_rings S (S.1 7 p0.toNatClampNeg)).1))) ++ Z) H locs := hM
        refine lv_goto (tgt := 51) hx hb dX5_ring_47 (by decide) ?_
        exact bx_reti E hr hlk hM (mf_no ((mf_rings S (S.1 7 p0.toNatClampNeg)).2) (-((mf_rings S (S.1 7 p0.toNatClampNeg)).1))) rfl (by simp [mf_ring, mf_got, hp_1, c_17, c_38]) dX5_ring_51
    · have c_17 := Int32.not_le.mp c_17
      refine lv_aload_n hx hb dX5_ring_20 rfl (lv_at hl 1 rfl) ?_
      refine lv_iload_n hx hb dX5_ring_21 rfl (lv_at hl 0 rfl) ?_
      refine bx_goi hM (bx_runV (As := [.int (mf_against S p0 0)]) (rest := []) E hM (cX5c_no l D t A h a S Z (mf_against S p0 0) (md_agv c_17)) (md_recv E hM) 1 gX5_ring_X5_no rfl rfl rfl (by decide +kernel) ⟨Nat.le_of_ble_eq_true rfl, Nat.le_of_ble_eq_true rfl⟩ rfl hl.1 rfl (Nat.le_of_ble_eq_true rfl) dX5_ring_22 ⟨Nat.le_of_ble_eq_true rfl, Nat.le_of_ble_eq_true rfl⟩) (fun r u H locs hp hM => ?_)
      obtain ⟨rfl, rfl⟩ := hp
      have hM : bx_M D A s (md_w t.1 h a (mf_no S (mf_against S p0 0)) ++ Z) H locs := hM
      exact bx_reti E hr hlk hM (mf_no S (mf_against S p0 0)) rfl (by simp [mf_ring, mf_got, hp_1, c_17]) dX5_ring_25
  · have hM : bx_M D A s (md_w t.1 h a S ++ Z) H locs := hM
    refine lv_if_ne (tgt := 9) hx hb dX5_ring_4 (by decide) (fun c => absurd c (by decide)) (fun _ => ?_)
    refine lv_iconst (v := (-1)) hx hb dX5_ring_7 (by decide) ?_
    exact bx_reti E hr hlk hM S rfl (by simp [mf_ring, mf_got, hp_1]) dX5_ring_8

set_option maxHeartbeats 4000000 in
set_option maxRecDepth 100000 in
theorem cX5c_fit (l : Launch) (D : va_G) (t : bx_T) (A : Nat → Prop) (h : Nat) (a : Nat → Nat) (S : md_S) (Z : va_W) (p0 p1 : Int32) (hI : md_I S) : bx_Ci l yX5_fit wsX5_fit ({ frames := 2, cells := 0, slots := 0, locals := 43 }) D t A [.ref h, .int p0, .int p1] (md_w t.1 h a S ++ Z) (fun (r : Int32) (u : md_S) => r = (mf_fit S p0 p1).1 ∧ u = (mf_fit S p0 p1).2) (fun u => md_w t.1 h a u ++ Z) 0 0 := by
  refine bx_enter (cc := cX5_fit) (maxL := 3) (ret := some .int) (by decide) rfl (Nat.le_of_ble_eq_true rfl) ?_
  intro p e s m below meth c ls E hr hlk hnm hM hl
  have hl : lv_has ls 3 [(0, .ref h), (1, .int p0), (2, .int p1)] := hl
  have hx := E.1.1
  have hb := E.1.2.1
  have hin : ∀ w ∈ wsX50, w ∈ wsX5_fit := by decide +kernel
  refine lv_iload_n hx hb dX5_fit_0 rfl (lv_at hl 1 rfl) ?_
  refine bx_goi hM (bx_runS (As := [.int p0]) (rest := []) E hM (cX5c_isHook l D t A (md_w t.1 h a S ++ Z) p0) 1 gX5_fit_X5_isHook rfl rfl rfl (by decide +kernel) ⟨Nat.le_of_ble_eq_true rfl, Nat.le_of_ble_eq_true rfl⟩ rfl hl.1 rfl (Nat.le_of_ble_eq_true rfl) dX5_fit_1 ⟨Nat.le_of_ble_eq_true rfl, Nat.le_of_ble_eq_true rfl⟩) (fun r u H locs hp hM => ?_)
  rcases hp with ⟨rfl, hp_1⟩ | ⟨rfl, hp_1⟩
  · have hM : bx_M D A s (md_w t.1 h a S ++ Z) H locs := hM
    refine lv_if_eq (tgt := 14) hx hb dX5_fit_4 (by decide) (fun c => absurd c (by decide)) (fun _ => ?_)
    refine lv_iload_n hx hb dX5_fit_7 rfl (lv_at hl 2 rfl) ?_
    refine bx_goi hM (bx_runS (As := [.int p1]) (rest := []) E hM (cX5c_isHook l D t A (md_w t.1 h a S ++ Z) p1) 1 gX5_fit_X5_isHook rfl rfl rfl (by decide +kernel) ⟨Nat.le_of_ble_eq_true rfl, Nat.le_of_ble_eq_true rfl⟩ rfl hl.1 rfl (Nat.le_of_ble_eq_true rfl) dX5_fit_8 ⟨Nat.le_of_ble_eq_true rfl, Nat.le_of_ble_eq_true rfl⟩) (fun r u H locs hp hM => ?_)
    rcases hp with ⟨rfl, hp_8⟩ | ⟨rfl, hp_8⟩
    · have hM : bx_M D A s (md_w t.1 h a S ++ Z) H locs := hM
      refine lv_if_ne (tgt := 16) hx hb dX5_fit_11 (by decide) (fun _ => ?_) (fun c => absurd c (by decide))
      refine lv_aload_n hx hb dX5_fit_16 rfl (lv_at hl 0 rfl) ?_
      refine lv_iload_n hx hb dX5_fit_17 rfl (lv_at hl 1 rfl) ?_
      refine bx_goi hM (bx_runV (As := [.int p0]) (rest := []) E hM (cX5c_sortAt l D t A h a S Z p0 hI hp_1) (md_recv E hM) 1 gX5_fit_X5_sortAt rfl rfl rfl (by decide +kernel) ⟨Nat.le_of_ble_eq_true rfl, Nat.le_of_ble_eq_true rfl⟩ rfl hl.1 rfl (Nat.le_of_ble_eq_true rfl) dX5_fit_18 ⟨Nat.le_of_ble_eq_true rfl, Nat.le_of_ble_eq_true rfl⟩) (fun r u H locs hp hM => ?_)
      subst hp
      have hM : bx_M D A s (md_w t.1 h a S ++ Z) H locs := hM
      refine lv_iconst (v := 3) hx hb dX5_fit_21 (by decide) ?_
      refine lv_icmp_eq (tgt := 33) hx hb dX5_fit_22 (by decide) (fun c_22 => ?_) (fun c_22 => ?_)
      · refine lv_aload_n hx hb dX5_fit_33 rfl (lv_at hl 0 rfl) ?_
        refine lv_iconst (v := 2) hx hb dX5_fit_34 (by decide) ?_
        refine bx_goi hM (bx_runV (As := [.int 2]) (rest := []) E hM (cX5c_no l D t A h a S Z 2 (vp_in_iff.mpr (by decide))) (md_recv E hM) 1 gX5_fit_X5_no rfl rfl rfl (by decide +kernel) ⟨Nat.le_of_ble_eq_true rfl, Nat.le_of_ble_eq_true rfl⟩ rfl hl.1 rfl (Nat.le_of_ble_eq_true rfl) dX5_fit_35 ⟨Nat.le_of_ble_eq_true rfl, Nat.le_of_ble_eq_true rfl⟩) (fun r u H locs hp hM => ?_)
        obtain ⟨rfl, rfl⟩ := hp
        have hM : bx_M D A s (md_w t.1 h a (mf_no S 2) ++ Z) H locs := hM
        exact bx_reti E hr hlk hM (mf_no S 2) rfl (by first | (simp [mf_fit, hp_1, hp_8, c_22]; done) | (simp [mf_fit, hp_1, hp_8, c_22]; rfl) | (simp [mf_fit, md_s, va_up, hp_1, hp_8, c_22]; done)) dX5_fit_38
      · refine lv_aload_n hx hb dX5_fit_25 rfl (lv_at hl 0 rfl) ?_
        refine lv_iload_n hx hb dX5_fit_26 rfl (lv_at hl 2 rfl) ?_
        refine bx_goi hM (bx_runV (As := [.int p1]) (rest := []) E hM (cX5c_isBellAt l D t A h a S Z p1 hI hp_8) (md_recv E hM) 1 gX5_fit_X5_isBellAt rfl rfl rfl (by decide +kernel) ⟨Nat.le_of_ble_eq_true rfl, Nat.le_of_ble_eq_true rfl⟩ rfl hl.1 rfl (Nat.le_of_ble_eq_true rfl) dX5_fit_27 ⟨Nat.le_of_ble_eq_true rfl, Nat.le_of_ble_eq_true rfl⟩) (fun r u H locs hp hM => ?_)
        rcases hp with ⟨rfl, hp_27⟩ | ⟨rfl, hp_27⟩
        · have hM : bx_M D A s (md_w t.1 h a S ++ Z) H locs := hM
          refine lv_if_eq (tgt := 39) hx hb dX5_fit_30 (by decide) (fun c => absurd c (by decide)) (fun _ => ?_)
          refine lv_aload_n hx hb dX5_fit_33 rfl (lv_at hl 0 rfl) ?_
          refine lv_iconst (v := 2) hx hb dX5_fit_34 (by decide) ?_
          refine bx_goi hM (bx_runV (As := [.int 2]) (rest := []) E hM (cX5c_no l D t A h a S Z 2 (vp_in_iff.mpr (by decide))) (md_recv E hM) 1 gX5_fit_X5_no rfl rfl rfl (by decide +kernel) ⟨Nat.le_of_ble_eq_true rfl, Nat.le_of_ble_eq_true rfl⟩ rfl hl.1 rfl (Nat.le_of_ble_eq_true rfl) dX5_fit_35 ⟨Nat.le_of_ble_eq_true rfl, Nat.le_of_ble_eq_true rfl⟩) (fun r u H locs hp hM => ?_)
          obtain ⟨rfl, rfl⟩ := hp
          have hM : bx_M D A s (md_w t.1 h a (mf_no S 2) ++ Z) H locs := hM
          exact bx_reti E hr hlk hM (mf_no S 2) rfl (by first | (simp [mf_fit, hp_1, hp_8, c_22, hp_27]; done) | (simp [mf_fit, hp_1, hp_8, c_22, hp_27]; rfl) | (simp [mf_fit, md_s, va_up, hp_1, hp_8, c_22, hp_27]; done)) dX5_fit_38
        · have hM : bx_M D A s (md_w t.1 h a S ++ Z) H locs := hM
          refine lv_if_eq (tgt := 39) hx hb dX5_fit_30 (by decide) (fun _ => ?_) (fun c => absurd c (by decide))
          refine lv_aload_n hx hb dX5_fit_39 rfl (lv_at hl 0 rfl) ?_
          refine md_get E hin hM 7 (by decide) (by decide +kernel) rfl dX5_fit_40 ?_
          refine lv_iload_n hx hb dX5_fit_43 rfl (lv_at hl 1 rfl) ?_
          refine md_ald E hM 7 (by decide) (md_hk hp_1) dX5_fit_44 ?_
          refine lv_iconst (v := (-1)) hx hb dX5_fit_45 (by decide) ?_
          refine lv_icmp_ne (tgt := 55) hx hb dX5_fit_46 (by decide) (fun c_46 => ?_) (fun c_46 => ?_)
          · refine lv_aload_n hx hb dX5_fit_55 rfl (lv_at hl 0 rfl) ?_
            refine md_get E hin hM 3 (by decide) (by decide +kernel) rfl dX5_fit_56 ?_
            refine lv_aload_n hx hb dX5_fit_59 rfl (lv_at hl 0 rfl) ?_
            refine md_get E hin hM 7 (by decide) (by decide +kernel) rfl dX5_fit_60 ?_
            refine lv_iload_n hx hb dX5_fit_63 rfl (lv_at hl 1 rfl) ?_
            refine md_ald E hM 7 (by decide) (md_hk hp_1) dX5_fit_64 ?_
            refine lv_aload_n hx hb dX5_fit_65 rfl (lv_at hl 0 rfl) ?_
            refine md_get E hin hM 7 (by decide) (by decide +kernel) rfl dX5_fit_66 ?_
            refine lv_iload_n hx hb dX5_fit_69 rfl (lv_at hl 2 rfl) ?_
            refine md_ald E hM 7 (by decide) (md_hk hp_8) dX5_fit_70 ?_
            refine md_ast E hM 3 (by decide) (hI.hook hp_1 c_46) dX5_fit_71 (fun H locs hM => ?_)
            have hM : bx_M D A s (md_w t.1 h a (md_ai S 3 (S.1 7 p0.toNatClampNeg).toNatClampNeg (S.1 7 p1.toNatClampNeg)) ++ Z) H locs := hM
            refine lv_aload_n hx hb dX5_fit_72 rfl (lv_at hl 0 rfl) ?_
            refine md_get E hin hM 7 (by decide) (by decide +kernel) rfl dX5_fit_73 ?_
            refine lv_iload_n hx hb dX5_fit_76 rfl (lv_at hl 2 rfl) ?_
            refine lv_iconst (v := (-1)) hx hb dX5_fit_77 (by decide) ?_
            refine md_ast E hM 7 (by decide) (md_hk hp_8) dX5_fit_78 (fun H locs hM => ?_)
            have hM : bx_M D A s (md_w t.1 h a (md_ai (md_ai S 3 (S.1 7 p0.toNatClampNeg).toNatClampNeg (S.1 7 p1.toNatClampNeg)) 7 p1.toNatClampNeg (-1)) ++ Z) H locs := hM
            refine lv_aload_n hx hb dX5_fit_79 rfl (lv_at hl 0 rfl) ?_
            refine md_get E hin hM 3 (by decide) (by decide +kernel) rfl dX5_fit_80 ?_
            refine lv_aload_n hx hb dX5_fit_83 rfl (lv_at hl 0 rfl) ?_
            refine md_get E hin hM 7 (by decide) (by decide +kernel) rfl dX5_fit_84 ?_
            refine lv_iload_n hx hb dX5_fit_87 rfl (lv_at hl 1 rfl) ?_
            refine md_ald E hM 7 (by decide) (md_hk hp_1) dX5_fit_88 ?_
            refine md_ald E hM 3 (by decide) (md_fit_in hI hp_1 c_22 hp_27 c_46 _ _ _) dX5_fit_89 ?_
            refine lv_iconst (v := (-1)) hx hb dX5_fit_90 (by decide) ?_
            refine lv_icmp_ne (tgt := 98) hx hb dX5_fit_91 (by decide) (fun c_91 => ?_) (fun c_91 => ?_)
            · refine lv_iconst (v := 1) hx hb dX5_fit_98 (by decide) ?_
              exact bx_reti E hr hlk hM (md_ai (md_ai S 3 (S.1 7 p0.toNatClampNeg).toNatClampNeg (S.1 7 p1.toNatClampNeg)) 7 p1.toNatClampNeg (-1)) rfl (by first | (simp [mf_fit, hp_1, hp_8, c_22, hp_27, c_46, c_91]; done) | (simp [mf_fit, hp_1, hp_8, c_22, hp_27, c_46, c_91]; rfl) | (simp [mf_fit, md_s, va_up, hp_1, hp_8, c_22, hp_27, c_46, c_91]; done)) dX5_fit_99
            · refine lv_iconst (v := 0) hx hb dX5_fit_94 (by decide) ?_
              refine lv_goto (tgt := 99) hx hb dX5_fit_95 (by decide) ?_
              exact bx_reti E hr hlk hM (md_ai (md_ai S 3 (S.1 7 p0.toNatClampNeg).toNatClampNeg (S.1 7 p1.toNatClampNeg)) 7 p1.toNatClampNeg (-1)) rfl (by first | (simp [mf_fit, hp_1, hp_8, c_22, hp_27, c_46, c_91]; done) | (simp [mf_fit, hp_1, hp_8, c_22, hp_27, c_46, c_91]; rfl) | (simp [mf_fit, md_s, va_up, hp_1, hp_8, c_22, hp_27, c_46, c_91]; done)) dX5_fit_99
          · refine lv_aload_n hx hb dX5_fit_49 rfl (lv_at hl 0 rfl) ?_
            refine lv_iconst (v := 1) hx hb dX5_fit_50 (by decide) ?_
            refine bx_goi hM (bx_runV (As := [.int 1]) (rest := []) E hM (cX5c_no l D t A h a S Z 1 (vp_in_iff.mpr (by decide))) (md_recv E hM) 1 gX5_fit_X5_no rfl rfl rfl (by decide +kernel) ⟨Nat.le_of_ble_eq_true rfl, Nat.le_of_ble_eq_true rfl⟩ rfl hl.1 rfl (Nat.le_of_ble_eq_true rfl) dX5_fit_51 ⟨Nat.le_of_ble_eq_true rfl, Nat.le_of_ble_eq_true rfl⟩) (fun r u H locs hp hM => ?_)
            obtain ⟨rfl, rfl⟩ := hp
            have hM : bx_M D A s (md_w t.1 h a (mf_no S 1) ++ Z) H locs := hM
            exact bx_reti E hr hlk hM (mf_no S 1) rfl (by first | (simp [mf_fit, hp_1, hp_8, c_22, hp_27, c_46]; done) | (simp [mf_fit, hp_1, hp_8, c_22, hp_27, c_46]; rfl) | (simp [mf_fit, md_s, va_up, hp_1, hp_8, c_22, hp_27, c_46]; done)) dX5_fit_54
    · have hM : bx_M D A s (md_w t.1 h a S ++ Z) H locs := hM
      refine lv_if_ne (tgt := 16) hx hb dX5_fit_11 (by decide) (fun c => absurd c (by decide)) (fun _ => ?_)
      refine lv_iconst (v := (-1)) hx hb dX5_fit_14 (by decide) ?_
      exact bx_reti E hr hlk hM S rfl (by first | (simp [mf_fit, hp_1, hp_8]; done) | (simp [mf_fit, hp_1, hp_8]; rfl) | (simp [mf_fit, md_s, va_up, hp_1, hp_8]; done)) dX5_fit_15
  · have hM : bx_M D A s (md_w t.1 h a S ++ Z) H locs := hM
    refine lv_if_eq (tgt := 14) hx hb dX5_fit_4 (by decide) (fun _ => ?_) (fun c => absurd c (by decide))
    refine lv_iconst (v := (-1)) hx hb dX5_fit_14 (by decide) ?_
    exact bx_reti E hr hlk hM S rfl (by first | (simp [mf_fit, hp_1]; done) | (simp [mf_fit, hp_1]; rfl) | (simp [mf_fit, md_s, va_up, hp_1]; done)) dX5_fit_15

set_option maxHeartbeats 4000000 in
set_option maxRecDepth 100000 in
theorem cX5c_lay (l : Launch) (D : va_G) (t : bx_T) (A : Nat → Prop) (h : Nat) (a : Nat → Nat) (S : md_S) (Z : va_W) (p0 p1 : Int32) (hI : md_I S) : bx_Ci l yX5_lay wsX5_lay ({ frames := 2, cells := 0, slots := 0, locals := 42 }) D t A [.ref h, .int p0, .int p1] (md_w t.1 h a S ++ Z) (fun (r : Int32) (u : md_S) => r = (mf_lay S p0 p1).1 ∧ u = (mf_lay S p0 p1).2) (fun u => md_w t.1 h a u ++ Z) 0 0 := by
  refine bx_enter (cc := cX5_lay) (maxL := 3) (ret := some .int) (by decide) rfl (Nat.le_of_ble_eq_true rfl) ?_
  intro p e s m below meth c ls E hr hlk hnm hM hl
  have hl : lv_has ls 3 [(0, .ref h), (1, .int p0), (2, .int p1)] := hl
  have hx := E.1.1
  have hb := E.1.2.1
  have hin : ∀ w ∈ wsX50, w ∈ wsX5_lay := by decide +kernel
  refine lv_iload_n hx hb dX5_lay_0 rfl (lv_at hl 2 rfl) ?_
  refine bx_goi hM (bx_runS (As := [.int p1]) (rest := []) E hM (cX5c_isHook l D t A (md_w t.1 h a S ++ Z) p1) 1 gX5_lay_X5_isHook rfl rfl rfl (by decide +kernel) ⟨Nat.le_of_ble_eq_true rfl, Nat.le_of_ble_eq_true rfl⟩ rfl hl.1 rfl (Nat.le_of_ble_eq_true rfl) dX5_lay_1 ⟨Nat.le_of_ble_eq_true rfl, Nat.le_of_ble_eq_true rfl⟩) (fun r u H locs hp hM => ?_)
  rcases hp with ⟨rfl, hp_1⟩ | ⟨rfl, hp_1⟩
  · have hM : bx_M D A s (md_w t.1 h a S ++ Z) H locs := hM
    refine lv_if_ne (tgt := 9) hx hb dX5_lay_4 (by decide) (fun _ => ?_) (fun c => absurd c (by decide))
    refine lv_aload_n hx hb dX5_lay_9 rfl (lv_at hl 0 rfl) ?_
    refine lv_iload_n hx hb dX5_lay_10 rfl (lv_at hl 2 rfl) ?_
    refine bx_goi hM (bx_runV (As := [.int p1]) (rest := []) E hM (cX5c_sortAt l D t A h a S Z p1 hI hp_1) (md_recv E hM) 1 gX5_lay_X5_sortAt rfl rfl rfl (by decide +kernel) ⟨Nat.le_of_ble_eq_true rfl, Nat.le_of_ble_eq_true rfl⟩ rfl hl.1 rfl (Nat.le_of_ble_eq_true rfl) dX5_lay_11 ⟨Nat.le_of_ble_eq_true rfl, Nat.le_of_ble_eq_true rfl⟩) (fun r u H locs hp hM => ?_)
    subst hp
    have hM : bx_M D A s (md_w t.1 h a S ++ Z) H locs := hM
    refine lv_iconst (v := 3) hx hb dX5_lay_14 (by decide) ?_
    refine lv_icmp_ne (tgt := 24) hx hb dX5_lay_15 (by decide) (fun c_15 => ?_) (fun c_15 => ?_)
    · refine lv_aload_n hx hb dX5_lay_24 rfl (lv_at hl 0 rfl) ?_
      refine md_get E hin hM 8 (by decide) (by decide +kernel) rfl dX5_lay_25 ?_
      refine lv_iconst (v := (-1)) hx hb dX5_lay_28 (by decide) ?_
      refine lv_icmp_ne (tgt := 38) hx hb dX5_lay_29 (by decide) (fun c_29 => ?_) (fun c_29 => ?_)
      · refine lv_iload_n hx hb dX5_lay_38 rfl (lv_at hl 1 rfl) ?_
        refine lv_iconst (v := 0) hx hb dX5_lay_39 (by decide) ?_
        refine lv_aload_n hx hb dX5_lay_40 rfl (lv_at hl 0 rfl) ?_
        refine md_get E hin hM 8 (by decide) (by decide +kernel) rfl dX5_lay_41 ?_
        refine lv_iconst (v := 1) hx hb dX5_lay_44 (by decide) ?_
        refine lv_isub hx hb dX5_lay_45 ?_
        refine bx_goi hM (bx_runS (As := [.int p0, .int 0, .int ((S.2 0) - 1)]) (rest := []) E hM (cX5c_in l D t A (md_w t.1 h a S ++ Z) p0 0 ((S.2 0) - 1)) 3 gX5_lay_X5_in rfl rfl rfl (by decide +kernel) ⟨Nat.le_of_ble_eq_true rfl, Nat.le_of_ble_eq_true rfl⟩ rfl hl.1 rfl (Nat.le_of_ble_eq_true rfl) dX5_lay_46 ⟨Nat.le_of_ble_eq_true rfl, Nat.le_of_ble_eq_true rfl⟩) (fun r u H locs hp hM => ?_)
        rcases hp with ⟨rfl, hp_46⟩ | ⟨rfl, hp_46⟩
        · have hM : bx_M D A s (md_w t.1 h a S ++ Z) H locs := hM
          refine lv_if_ne (tgt := 58) hx hb dX5_lay_49 (by decide) (fun _ => ?_) (fun c => absurd c (by decide))
          refine lv_aload_n hx hb dX5_lay_58 rfl (lv_at hl 0 rfl) ?_
          refine md_get E hin hM 9 (by decide) (by decide +kernel) rfl dX5_lay_59 ?_
          refine lv_if_eq (tgt := 80) hx hb dX5_lay_62 (by decide) (fun c_62 => ?_) (fun c_62 => ?_)
          · refine lv_aload_n hx hb dX5_lay_80 rfl (lv_at hl 0 rfl) ?_
            refine md_get E hin hM 10 (by decide) (by decide +kernel) rfl dX5_lay_81 ?_
            refine lv_iload_n hx hb dX5_lay_84 rfl (lv_at hl 1 rfl) ?_
            refine lv_aload_n hx hb dX5_lay_85 rfl (lv_at hl 0 rfl) ?_
            refine md_get E hin hM 7 (by decide) (by decide +kernel) rfl dX5_lay_86 ?_
            refine lv_iload_n hx hb dX5_lay_89 rfl (lv_at hl 2 rfl) ?_
            refine md_ald E hM 7 (by decide) (md_hk hp_1) dX5_lay_90 ?_
            refine md_ast E hM 8 (by decide) ((md_ln.in hI.2.2.2.1 c_29 hp_46).1) dX5_lay_91 (fun H locs hM => ?_)
            have hM : bx_M D A s (md_w t.1 h a (md_ai S 8 p0.toNatClampNeg (S.1 7 p1.toNatClampNeg)) ++ Z) H locs := hM
            refine lv_aload_n hx hb dX5_lay_92 rfl (lv_at hl 0 rfl) ?_
            refine md_get E hin hM 7 (by decide) (by decide +kernel) rfl dX5_lay_93 ?_
            refine lv_iload_n hx hb dX5_lay_96 rfl (lv_at hl 2 rfl) ?_
            refine md_ald E hM 7 (by decide) (md_hk hp_1) dX5_lay_97 ?_
            refine lv_iconst (v := (-1)) hx hb dX5_lay_98 (by decide) ?_
            refine lv_icmp_ne (tgt := 106) hx hb dX5_lay_99 (by decide) (fun c_99 => ?_) (fun c_99 => ?_)
            · refine lv_iconst (v := 1) hx hb dX5_lay_106 (by decide) ?_
              exact bx_reti E hr hlk hM (md_ai S 8 p0.toNatClampNeg (S.1 7 p1.toNatClampNeg)) rfl (by first | (simp [mf_lay, hp_1, c_15, c_29, hp_46, c_62, c_99]; done) | (simp [mf_lay, hp_1, c_15, c_29, hp_46, c_62, c_99]; rfl) | (simp [mf_lay, md_s, va_up, hp_1, c_15, c_29, hp_46, c_62, c_99]; done)) dX5_lay_107
            · refine lv_iconst (v := 0) hx hb dX5_lay_102 (by decide) ?_
              refine lv_goto (tgt := 107) hx hb dX5_lay_103 (by decide) ?_
              exact bx_reti E hr hlk hM (md_ai S 8 p0.toNatClampNeg (S.1 7 p1.toNatClampNeg)) rfl (by first | (simp [mf_lay, hp_1, c_15, c_29, hp_46, c_62, c_99]; done) | (simp [mf_lay, hp_1, c_15, c_29, hp_46, c_62, c_99]; rfl) | (simp [mf_lay, md_s, va_up, hp_1, c_15, c_29, hp_46, c_62, c_99]; done)) dX5_lay_107
          · refine lv_aload_n hx hb dX5_lay_65 rfl (lv_at hl 0 rfl) ?_
            refine lv_iload_n hx hb dX5_lay_66 rfl (lv_at hl 2 rfl) ?_
            refine bx_goi hM (bx_runV (As := [.int p1]) (rest := []) E hM (cX5c_sortAt l D t A h a S Z p1 hI hp_1) (md_recv E hM) 1 gX5_lay_X5_sortAt rfl rfl rfl (by decide +kernel) ⟨Nat.le_of_ble_eq_true rfl, Nat.le_of_ble_eq_true rfl⟩ rfl hl.1 rfl (Nat.le_of_ble_eq_true rfl) dX5_lay_67 ⟨Nat.le_of_ble_eq_true rfl, Nat.le_of_ble_eq_true rfl⟩) (fun r u H locs hp hM => ?_)
            subst hp
            have hM : bx_M D A s (md_w t.1 h a S ++ Z) H locs := hM
            refine lv_iconst (v := 1) hx hb dX5_lay_70 (by decide) ?_
            refine lv_icmp_ne (tgt := 80) hx hb dX5_lay_71 (by decide) (fun c_71 => ?_) (fun c_71 => ?_)
            · refine lv_aload_n hx hb dX5_lay_80 rfl (lv_at hl 0 rfl) ?_
              refine md_get E hin hM 10 (by decide) (by decide +kernel) rfl dX5_lay_81 ?_
              refine lv_iload_n hx hb dX5_lay_84 rfl (lv_at hl 1 rfl) ?_
              refine lv_aload_n hx hb dX5_lay_85 rfl (lv_at hl 0 rfl) ?_
              refine md_get E hin hM 7 (by decide) (by decide +kernel) rfl dX5_lay_86 ?_
              refine lv_iload_n hx hb dX5_lay_89 rfl (lv_at hl 2 rfl) ?_
              refine md_ald E hM 7 (by decide) (md_hk hp_1) dX5_lay_90 ?_
              refine md_ast E hM 8 (by decide) ((md_ln.in hI.2.2.2.1 c_29 hp_46).1) dX5_lay_91 (fun H locs hM => ?_)
              have hM : bx_M D A s (md_w t.1 h a (md_ai S 8 p0.toNatClampNeg (S.1 7 p1.toNatClampNeg)) ++ Z) H locs := hM
              refine lv_aload_n hx hb dX5_lay_92 rfl (lv_at hl 0 rfl) ?_
              refine md_get E hin hM 7 (by decide) (by decide +kernel) rfl dX5_lay_93 ?_
              refine lv_iload_n hx hb dX5_lay_96 rfl (lv_at hl 2 rfl) ?_
              refine md_ald E hM 7 (by decide) (md_hk hp_1) dX5_lay_97 ?_
              refine lv_iconst (v := (-1)) hx hb dX5_lay_98 (by decide) ?_
              refine lv_icmp_ne (tgt := 106) hx hb dX5_lay_99 (by decide) (fun c_99 => ?_) (fun c_99 => ?_)
              · refine lv_iconst (v := 1) hx hb dX5_lay_106 (by decide) ?_
                exact bx_reti E hr hlk hM (md_ai S 8 p0.toNatClampNeg (S.1 7 p1.toNatClampNeg)) rfl (by first | (simp [mf_lay, hp_1, c_15, c_29, hp_46, c_62, c_71, c_99]; done) | (simp [mf_lay, hp_1, c_15, c_29, hp_46, c_62, c_71, c_99]; rfl) | (simp [mf_lay, md_s, va_up, hp_1, c_15, c_29, hp_46, c_62, c_71, c_99]; done)) dX5_lay_107
              · refine lv_iconst (v := 0) hx hb dX5_lay_102 (by decide) ?_
                refine lv_goto (tgt := 107) hx hb dX5_lay_103 (by decide) ?_
                exact bx_reti E hr hlk hM (md_ai S 8 p0.toNatClampNeg (S.1 7 p1.toNatClampNeg)) rfl (by first | (simp [mf_lay, hp_1, c_15, c_29, hp_46, c_62, c_71, c_99]; done) | (simp [mf_lay, hp_1, c_15, c_29, hp_46, c_62, c_71, c_99]; rfl) | (simp [mf_lay, md_s, va_up, hp_1, c_15, c_29, hp_46, c_62, c_71, c_99]; done)) dX5_lay_107
            · refine lv_aload_n hx hb dX5_lay_74 rfl (lv_at hl 0 rfl) ?_
              refine lv_iconst (v := 3) hx hb dX5_lay_75 (by decide) ?_
              refine bx_goi hM (bx_runV (As := [.int 3]) (rest := []) E hM (cX5c_no l D t A h a S Z 3 (vp_in_iff.mpr (by decide))) (md_recv E hM) 1 gX5_lay_X5_no rfl rfl rfl (by decide +kernel) ⟨Nat.le_of_ble_eq_true rfl, Nat.le_of_ble_eq_true rfl⟩ rfl hl.1 rfl (Nat.le_of_ble_eq_true rfl) dX5_lay_76 ⟨Nat.le_of_ble_eq_true rfl, Nat.le_of_ble_eq_true rfl⟩) (fun r u H locs hp hM => ?_)
              obtain ⟨rfl, rfl⟩ := hp
              have hM : bx_M D A s (md_w t.1 h a (mf_no S 3) ++ Z) H locs := hM
              exact bx_reti E hr hlk hM (mf_no S 3) rfl (by first | (simp [mf_lay, hp_1, c_15, c_29, hp_46, c_62, c_71]; done) | (simp [mf_lay, hp_1, c_15, c_29, hp_46, c_62, c_71]; rfl) | (simp [mf_lay, md_s, va_up, hp_1, c_15, c_29, hp_46, c_62, c_71]; done)) dX5_lay_79
        · have hM : bx_M D A s (md_w t.1 h a S ++ Z) H locs := hM
          refine lv_if_ne (tgt := 58) hx hb dX5_lay_49 (by decide) (fun c => absurd c (by decide)) (fun _ => ?_)
          refine lv_aload_n hx hb dX5_lay_52 rfl (lv_at hl 0 rfl) ?_
          refine lv_iconst (v := 5) hx hb dX5_lay_53 (by decide) ?_
          refine bx_goi hM (bx_runV (As := [.int 5]) (rest := []) E hM (cX5c_no l D t A h a S Z 5 (vp_in_iff.mpr (by decide))) (md_recv E hM) 1 gX5_lay_X5_no rfl rfl rfl (by decide +kernel) ⟨Nat.le_of_ble_eq_true rfl, Nat.le_of_ble_eq_true rfl⟩ rfl hl.1 rfl (Nat.le_of_ble_eq_true rfl) dX5_lay_54 ⟨Nat.le_of_ble_eq_true rfl, Nat.le_of_ble_eq_true rfl⟩) (fun r u H locs hp hM => ?_)
          obtain ⟨rfl, rfl⟩ := hp
          have hM : bx_M D A s (md_w t.1 h a (mf_no S 5) ++ Z) H locs := hM
          exact bx_reti E hr hlk hM (mf_no S 5) rfl (by first | (simp [mf_lay, hp_1, c_15, c_29, hp_46]; done) | (simp [mf_lay, hp_1, c_15, c_29, hp_46]; rfl) | (simp [mf_lay, md_s, va_up, hp_1, c_15, c_29, hp_46]; done)) dX5_lay_57
      · refine lv_aload_n hx hb dX5_lay_32 rfl (lv_at hl 0 rfl) ?_
        refine lv_iconst (v := 1) hx hb dX5_lay_33 (by decide) ?_
        refine bx_goi hM (bx_runV (As := [.int 1]) (rest := []) E hM (cX5c_no l D t A h a S Z 1 (vp_in_iff.mpr (by decide))) (md_recv E hM) 1 gX5_lay_X5_no rfl rfl rfl (by decide +kernel) ⟨Nat.le_of_ble_eq_true rfl, Nat.le_of_ble_eq_true rfl⟩ rfl hl.1 rfl (Nat.le_of_ble_eq_true rfl) dX5_lay_34 ⟨Nat.le_of_ble_eq_true rfl, Nat.le_of_ble_eq_true rfl⟩) (fun r u H locs hp hM => ?_)
        obtain ⟨rfl, rfl⟩ := hp
        have hM : bx_M D A s (md_w t.1 h a (mf_no S 1) ++ Z) H locs := hM
        exact bx_reti E hr hlk hM (mf_no S 1) rfl (by first | (simp [mf_lay, hp_1, c_15, c_29]; done) | (simp [mf_lay, hp_1, c_15, c_29]; rfl) | (simp [mf_lay, md_s, va_up, hp_1, c_15, c_29]; done)) dX5_lay_37
    · refine lv_aload_n hx hb dX5_lay_18 rfl (lv_at hl 0 rfl) ?_
      refine lv_iconst (v := 2) hx hb dX5_lay_19 (by decide) ?_
      refine bx_goi hM (bx_runV (As := [.int 2]) (rest := []) E hM (cX5c_no l D t A h a S Z 2 (vp_in_iff.mpr (by decide))) (md_recv E hM) 1 gX5_lay_X5_no rfl rfl rfl (by decide +kernel) ⟨Nat.le_of_ble_eq_true rfl, Nat.le_of_ble_eq_true rfl⟩ rfl hl.1 rfl (Nat.le_of_ble_eq_true rfl) dX5_lay_20 ⟨Nat.le_of_ble_eq_true rfl, Nat.le_of_ble_eq_true rfl⟩) (fun r u H locs hp hM => ?_)
      obtain ⟨rfl, rfl⟩ := hp
      have hM : bx_M D A s (md_w t.1 h a (mf_no S 2) ++ Z) H locs := hM
      exact bx_reti E hr hlk hM (mf_no S 2) rfl (by first | (simp [mf_lay, hp_1, c_15]; done) | (simp [mf_lay, hp_1, c_15]; rfl) | (simp [mf_lay, md_s, va_up, hp_1, c_15]; done)) dX5_lay_23
  · have hM : bx_M D A s (md_w t.1 h a S ++ Z) H locs := hM
    refine lv_if_ne (tgt := 9) hx hb dX5_lay_4 (by decide) (fun c => absurd c (by decide)) (fun _ => ?_)
    refine lv_iconst (v := (-1)) hx hb dX5_lay_7 (by decide) ?_
    exact bx_reti E hr hlk hM S rfl (by first | (simp [mf_lay, hp_1]; done) | (simp [mf_lay, hp_1]; rfl) | (simp [mf_lay, md_s, va_up, hp_1]; done)) dX5_lay_8

set_option maxHeartbeats 4000000 in
set_option maxRecDepth 100000 in
theorem cX5c_see (l : Launch) (D : va_G) (t : bx_T) (A : Nat → Prop) (h : Nat) (a : Nat → Nat) (S : md_S) (Z : va_W) (p0 : Int32) (hI : md_I S) : bx_Ci l yX5_see wsX5_see ({ frames := 1, cells := 0, slots := 0, locals := 22 }) D t A [.ref h, .int p0] (md_w t.1 h a S ++ Z) (fun (r : Int32) (u : md_S) => r = (mf_see S p0).1 ∧ u = (mf_see S p0).2) (fun u => md_w t.1 h a u ++ Z) 0 0 := by
  refine bx_enter (cc := cX5_see) (maxL := 2) (ret := some .int) (by decide) rfl (Nat.le_of_ble_eq_true rfl) ?_
  intro p e s m below meth c ls E hr hlk hnm hM hl
  have hl : lv_has ls 2 [(0, .ref h), (1, .int p0)] := hl
  have hx := E.1.1
  have hb := E.1.2.1
  have hin : ∀ w ∈ wsX50, w ∈ wsX5_see := by decide +kernel
  refine lv_aload_n hx hb dX5_see_0 rfl (lv_at hl 0 rfl) ?_
  refine md_get E hin hM 8 (by decide) (by decide +kernel) rfl dX5_see_1 ?_
  refine lv_iconst (v := (-1)) hx hb dX5_see_4 (by decide) ?_
  refine lv_icmp_ne (tgt := 14) hx hb dX5_see_5 (by decide) (fun c_5 => ?_) (fun c_5 => ?_)
  · refine lv_iload_n hx hb dX5_see_14 rfl (lv_at hl 1 rfl) ?_
    refine lv_iconst (v := 0) hx hb dX5_see_15 (by decide) ?_
    refine lv_aload_n hx hb dX5_see_16 rfl (lv_at hl 0 rfl) ?_
    refine md_get E hin hM 8 (by decide) (by decide +kernel) rfl dX5_see_17 ?_
    refine lv_iconst (v := 1) hx hb dX5_see_20 (by decide) ?_
    refine lv_isub hx hb dX5_see_21 ?_
    refine bx_goi hM (bx_runS (As := [.int p0, .int 0, .int ((S.2 0) - 1)]) (rest := []) E hM (cX5c_in l D t A (md_w t.1 h a S ++ Z) p0 0 ((S.2 0) - 1)) 3 gX5_see_X5_in rfl rfl rfl (by decide +kernel) ⟨Nat.le_of_ble_eq_true rfl, Nat.le_of_ble_eq_true rfl⟩ rfl hl.1 rfl (Nat.le_of_ble_eq_true rfl) dX5_see_22 ⟨Nat.le_of_ble_eq_true rfl, Nat.le_of_ble_eq_true rfl⟩) (fun r u H locs hp hM => ?_)
    rcases hp with ⟨rfl, hp_22⟩ | ⟨rfl, hp_22⟩
    · have hM : bx_M D A s (md_w t.1 h a S ++ Z) H locs := hM
      refine lv_if_ne (tgt := 34) hx hb dX5_see_25 (by decide) (fun _ => ?_) (fun c => absurd c (by decide))
      refine lv_aload_n hx hb dX5_see_34 rfl (lv_at hl 0 rfl) ?_
      refine md_get E hin hM 10 (by decide) (by decide +kernel) rfl dX5_see_35 ?_
      refine lv_iload_n hx hb dX5_see_38 rfl (lv_at hl 1 rfl) ?_
      refine md_ald E hM 8 (by decide) ((md_ln.in hI.2.2.2.1 c_5 hp_22).1) dX5_see_39 ?_
      refine lv_iconst (v := (-1)) hx hb dX5_see_40 (by decide) ?_
      refine lv_icmp_ne (tgt := 52) hx hb dX5_see_41 (by decide) (fun c_41 => ?_) (fun c_41 => ?_)
      · refine lv_aload_n hx hb dX5_see_52 rfl (lv_at hl 0 rfl) ?_
        refine md_get E hin hM 1 (by decide) (by decide +kernel) rfl dX5_see_53 ?_
        refine lv_aload_n hx hb dX5_see_56 rfl (lv_at hl 0 rfl) ?_
        refine md_get E hin hM 10 (by decide) (by decide +kernel) rfl dX5_see_57 ?_
        refine lv_iload_n hx hb dX5_see_60 rfl (lv_at hl 1 rfl) ?_
        refine md_ald E hM 8 (by decide) ((md_ln.in hI.2.2.2.1 c_5 hp_22).1) dX5_see_61 ?_
        refine md_ald E hM 1 (by decide) (hI.place (md_ln.in hI.2.2.2.1 c_5 hp_22).1 c_41) dX5_see_62 ?_
        exact bx_reti E hr hlk hM S rfl (by first | (simp [mf_see, c_5, hp_22, c_41]; done) | (simp [mf_see, c_5, hp_22, c_41]; rfl) | (simp [mf_see, md_s, va_up, c_5, hp_22, c_41]; done)) dX5_see_63
      · refine lv_aload_n hx hb dX5_see_44 rfl (lv_at hl 0 rfl) ?_
        refine lv_iconst (v := 1) hx hb dX5_see_45 (by decide) ?_
        refine bx_goi hM (bx_runV (As := [.int 1]) (rest := []) E hM (cX5c_no l D t A h a S Z 1 (vp_in_iff.mpr (by decide))) (md_recv E hM) 1 gX5_see_X5_no rfl rfl rfl (by decide +kernel) ⟨Nat.le_of_ble_eq_true rfl, Nat.le_of_ble_eq_true rfl⟩ rfl hl.1 rfl (Nat.le_of_ble_eq_true rfl) dX5_see_46 ⟨Nat.le_of_ble_eq_true rfl, Nat.le_of_ble_eq_true rfl⟩) (fun r u H locs hp hM => ?_)
        obtain ⟨rfl, rfl⟩ := hp
        have hM : bx_M D A s (md_w t.1 h a (mf_no S 1) ++ Z) H locs := hM
        refine lv_goto (tgt := 63) hx hb dX5_see_49 (by decide) ?_
        exact bx_reti E hr hlk hM (mf_no S 1) rfl (by first | (simp [mf_see, c_5, hp_22, c_41]; done) | (simp [mf_see, c_5, hp_22, c_41]; rfl) | (simp [mf_see, md_s, va_up, c_5, hp_22, c_41]; done)) dX5_see_63
    · have hM : bx_M D A s (md_w t.1 h a S ++ Z) H locs := hM
      refine lv_if_ne (tgt := 34) hx hb dX5_see_25 (by decide) (fun c => absurd c (by decide)) (fun _ => ?_)
      refine lv_aload_n hx hb dX5_see_28 rfl (lv_at hl 0 rfl) ?_
      refine lv_iconst (v := 5) hx hb dX5_see_29 (by decide) ?_
      refine bx_goi hM (bx_runV (As := [.int 5]) (rest := []) E hM (cX5c_no l D t A h a S Z 5 (vp_in_iff.mpr (by decide))) (md_recv E hM) 1 gX5_see_X5_no rfl rfl rfl (by decide +kernel) ⟨Nat.le_of_ble_eq_true rfl, Nat.le_of_ble_eq_true rfl⟩ rfl hl.1 rfl (Nat.le_of_ble_eq_true rfl) dX5_see_30 ⟨Nat.le_of_ble_eq_true rfl, Nat.le_of_ble_eq_true rfl⟩) (fun r u H locs hp hM => ?_)
      obtain ⟨rfl, rfl⟩ := hp
      have hM : bx_M D A s (md_w t.1 h a (mf_no S 5) ++ Z) H locs := hM
      exact bx_reti E hr hlk hM (mf_no S 5) rfl (by first | (simp [mf_see, c_5, hp_22]; done) | (simp [mf_see, c_5, hp_22]; rfl) | (simp [mf_see, md_s, va_up, c_5, hp_22]; done)) dX5_see_33
  · refine lv_aload_n hx hb dX5_see_8 rfl (lv_at hl 0 rfl) ?_
    refine lv_iconst (v := 1) hx hb dX5_see_9 (by decide) ?_
    refine bx_goi hM (bx_runV (As := [.int 1]) (rest := []) E hM (cX5c_no l D t A h a S Z 1 (vp_in_iff.mpr (by decide))) (md_recv E hM) 1 gX5_see_X5_no rfl rfl rfl (by decide +kernel) ⟨Nat.le_of_ble_eq_true rfl, Nat.le_of_ble_eq_true rfl⟩ rfl hl.1 rfl (Nat.le_of_ble_eq_true rfl) dX5_see_10 ⟨Nat.le_of_ble_eq_true rfl, Nat.le_of_ble_eq_true rfl⟩) (fun r u H locs hp hM => ?_)
    obtain ⟨rfl, rfl⟩ := hp
    have hM : bx_M D A s (md_w t.1 h a (mf_no S 1) ++ Z) H locs := hM
    exact bx_reti E hr hlk hM (mf_no S 1) rfl (by first | (simp [mf_see, c_5]; done) | (simp [mf_see, c_5]; rfl) | (simp [mf_see, md_s, va_up, c_5]; done)) dX5_see_13

set_option maxHeartbeats 4000000 in
set_option maxRecDepth 100000 in
theorem cX5c_call (l : Launch) (D : va_G) (t : bx_T) (A : Nat → Prop) (h : Nat) (a : Nat → Nat) (S : md_S) (Z : va_W) (p0 p1 : Int32) (hI : md_I S) : bx_Ci l yX5_call wsX5_call ({ frames := 1, cells := 0, slots := 0, locals := 22 }) D t A [.ref h, .int p0, .int p1] (md_w t.1 h a S ++ Z) (fun (r : Int32) (u : md_S) => r = (mf_call S p0 p1).1 ∧ u = (mf_call S p0 p1).2) (fun u => md_w t.1 h a u ++ Z) 0 0 := by
  refine bx_enter (cc := cX5_call) (maxL := 3) (ret := some .int) (by decide) rfl (Nat.le_of_ble_eq_true rfl) ?_
  intro p e s m below meth c ls E hr hlk hnm hM hl
  have hl : lv_has ls 3 [(0, .ref h), (1, .int p0), (2, .int p1)] := hl
  have hx := E.1.1
  have hb := E.1.2.1
  have hin : ∀ w ∈ wsX50, w ∈ wsX5_call := by decide +kernel
  refine lv_iload_n hx hb dX5_call_0 rfl (lv_at hl 2 rfl) ?_
  refine lv_iconst (v := 0) hx hb dX5_call_1 (by decide) ?_
  refine lv_bipush (v := 99) hx hb dX5_call_2 (by decide) ?_
  refine bx_goi hM (bx_runS (As := [.int p1, .int 0, .int 99]) (rest := []) E hM (cX5c_in l D t A (md_w t.1 h a S ++ Z) p1 0 99) 3 gX5_call_X5_in rfl rfl rfl (by decide +kernel) ⟨Nat.le_of_ble_eq_true rfl, Nat.le_of_ble_eq_true rfl⟩ rfl hl.1 rfl (Nat.le_of_ble_eq_true rfl) dX5_call_4 ⟨Nat.le_of_ble_eq_true rfl, Nat.le_of_ble_eq_true rfl⟩) (fun r u H locs hp hM => ?_)
  rcases hp with ⟨rfl, hp_4⟩ | ⟨rfl, hp_4⟩
  · have hM : bx_M D A s (md_w t.1 h a S ++ Z) H locs := hM
    refine lv_if_ne (tgt := 12) hx hb dX5_call_7 (by decide) (fun _ => ?_) (fun c => absurd c (by decide))
    refine lv_aload_n hx hb dX5_call_12 rfl (lv_at hl 0 rfl) ?_
    refine md_get E hin hM 11 (by decide) (by decide +kernel) rfl dX5_call_13 ?_
    refine lv_iconst (v := (-1)) hx hb dX5_call_16 (by decide) ?_
    refine lv_icmp_ne (tgt := 26) hx hb dX5_call_17 (by decide) (fun c_17 => ?_) (fun c_17 => ?_)
    · refine lv_iload_n hx hb dX5_call_26 rfl (lv_at hl 1 rfl) ?_
      refine lv_iconst (v := 0) hx hb dX5_call_27 (by decide) ?_
      refine lv_aload_n hx hb dX5_call_28 rfl (lv_at hl 0 rfl) ?_
      refine md_get E hin hM 11 (by decide) (by decide +kernel) rfl dX5_call_29 ?_
      refine lv_iconst (v := 1) hx hb dX5_call_32 (by decide) ?_
      refine lv_isub hx hb dX5_call_33 ?_
      refine bx_goi hM (bx_runS (As := [.int p0, .int 0, .int ((S.2 2) - 1)]) (rest := []) E hM (cX5c_in l D t A (md_w t.1 h a S ++ Z) p0 0 ((S.2 2) - 1)) 3 gX5_call_X5_in rfl rfl rfl (by decide +kernel) ⟨Nat.le_of_ble_eq_true rfl, Nat.le_of_ble_eq_true rfl⟩ rfl hl.1 rfl (Nat.le_of_ble_eq_true rfl) dX5_call_34 ⟨Nat.le_of_ble_eq_true rfl, Nat.le_of_ble_eq_true rfl⟩) (fun r u H locs hp hM => ?_)
      rcases hp with ⟨rfl, hp_34⟩ | ⟨rfl, hp_34⟩
      · have hM : bx_M D A s (md_w t.1 h a S ++ Z) H locs := hM
        refine lv_if_ne (tgt := 46) hx hb dX5_call_37 (by decide) (fun _ => ?_) (fun c => absurd c (by decide))
        refine lv_aload_n hx hb dX5_call_46 rfl (lv_at hl 0 rfl) ?_
        refine md_get E hin hM 12 (by decide) (by decide +kernel) rfl dX5_call_47 ?_
        refine lv_iload_n hx hb dX5_call_50 rfl (lv_at hl 1 rfl) ?_
        refine lv_iload_n hx hb dX5_call_51 rfl (lv_at hl 2 rfl) ?_
        refine md_ast E hM 9 (by decide) ((md_ln.in hI.2.2.2.2.1 c_17 hp_34).1) dX5_call_52 (fun H locs hM => ?_)
        have hM : bx_M D A s (md_w t.1 h a (md_ai S 9 p0.toNatClampNeg p1) ++ Z) H locs := hM
        refine lv_iload_n hx hb dX5_call_53 rfl (lv_at hl 2 rfl) ?_
        exact bx_reti E hr hlk hM (md_ai S 9 p0.toNatClampNeg p1) rfl (by first | (simp [mf_call, hp_4, c_17, hp_34]; done) | (simp [mf_call, hp_4, c_17, hp_34]; rfl) | (simp [mf_call, md_s, va_up, hp_4, c_17, hp_34]; done)) dX5_call_54
      · have hM : bx_M D A s (md_w t.1 h a S ++ Z) H locs := hM
        refine lv_if_ne (tgt := 46) hx hb dX5_call_37 (by decide) (fun c => absurd c (by decide)) (fun _ => ?_)
        refine lv_aload_n hx hb dX5_call_40 rfl (lv_at hl 0 rfl) ?_
        refine lv_iconst (v := 5) hx hb dX5_call_41 (by decide) ?_
        refine bx_goi hM (bx_runV (As := [.int 5]) (rest := []) E hM (cX5c_no l D t A h a S Z 5 (vp_in_iff.mpr (by decide))) (md_recv E hM) 1 gX5_call_X5_no rfl rfl rfl (by decide +kernel) ⟨Nat.le_of_ble_eq_true rfl, Nat.le_of_ble_eq_true rfl⟩ rfl hl.1 rfl (Nat.le_of_ble_eq_true rfl) dX5_call_42 ⟨Nat.le_of_ble_eq_true rfl, Nat.le_of_ble_eq_true rfl⟩) (fun r u H locs hp hM => ?_)
        obtain ⟨rfl, rfl⟩ := hp
        have hM : bx_M D A s (md_w t.1 h a (mf_no S 5) ++ Z) H locs := hM
        exact bx_reti E hr hlk hM (mf_no S 5) rfl (by first | (simp [mf_call, hp_4, c_17, hp_34]; done) | (simp [mf_call, hp_4, c_17, hp_34]; rfl) | (simp [mf_call, md_s, va_up, hp_4, c_17, hp_34]; done)) dX5_call_45
    · refine lv_aload_n hx hb dX5_call_20 rfl (lv_at hl 0 rfl) ?_
      refine lv_iconst (v := 1) hx hb dX5_call_21 (by decide) ?_
      refine bx_goi hM (bx_runV (As := [.int 1]) (rest := []) E hM (cX5c_no l D t A h a S Z 1 (vp_in_iff.mpr (by decide))) (md_recv E hM) 1 gX5_call_X5_no rfl rfl rfl (by decide +kernel) ⟨Nat.le_of_ble_eq_true rfl, Nat.le_of_ble_eq_true rfl⟩ rfl hl.1 rfl (Nat.le_of_ble_eq_true rfl) dX5_call_22 ⟨Nat.le_of_ble_eq_true rfl, Nat.le_of_ble_eq_true rfl⟩) (fun r u H locs hp hM => ?_)
      obtain ⟨rfl, rfl⟩ := hp
      have hM : bx_M D A s (md_w t.1 h a (mf_no S 1) ++ Z) H locs := hM
      exact bx_reti E hr hlk hM (mf_no S 1) rfl (by first | (simp [mf_call, hp_4, c_17]; done) | (simp [mf_call, hp_4, c_17]; rfl) | (simp [mf_call, md_s, va_up, hp_4, c_17]; done)) dX5_call_25
  · have hM : bx_M D A s (md_w t.1 h a S ++ Z) H locs := hM
    refine lv_if_ne (tgt := 12) hx hb dX5_call_7 (by decide) (fun c => absurd c (by decide)) (fun _ => ?_)
    refine lv_iconst (v := (-1)) hx hb dX5_call_10 (by decide) ?_
    exact bx_reti E hr hlk hM S rfl (by first | (simp [mf_call, hp_4]; done) | (simp [mf_call, hp_4]; rfl) | (simp [mf_call, md_s, va_up, hp_4]; done)) dX5_call_11

set_option maxHeartbeats 4000000 in
set_option maxRecDepth 100000 in
theorem cX5c_strike (l : Launch) (D : va_G) (t : bx_T) (A : Nat → Prop) (h : Nat) (a : Nat → Nat) (S : md_S) (Z : va_W) (p0 : Int32) (hI : md_I S) : bx_Ci l yX5_strike wsX5_strike ({ frames := 1, cells := 0, slots := 0, locals := 22 }) D t A [.ref h, .int p0] (md_w t.1 h a S ++ Z) (fun (r : Int32) (u : md_S) => r = (mf_strike S p0).1 ∧ u = (mf_strike S p0).2) (fun u => md_w t.1 h a u ++ Z) 0 0 := by
  refine bx_enter (cc := cX5_strike) (maxL := 4) (ret := some .int) (by decide) rfl (Nat.le_of_ble_eq_true rfl) ?_
  intro p e s m below meth c ls E hr hlk hnm hM hl
  have hl : lv_has ls 4 [(0, .ref h), (1, .int p0)] := hl
  have hx := E.1.1
  have hb := E.1.2.1
  have hin : ∀ w ∈ wsX50, w ∈ wsX5_strike := by decide +kernel
  refine lv_aload_n hx hb dX5_strike_0 rfl (lv_at hl 0 rfl) ?_
  refine md_get E hin hM 11 (by decide) (by decide +kernel) rfl dX5_strike_1 ?_
  refine lv_iconst (v := (-1)) hx hb dX5_strike_4 (by decide) ?_
  refine lv_icmp_ne (tgt := 14) hx hb dX5_strike_5 (by decide) (fun c_5 => ?_) (fun c_5 => ?_)
  · refine lv_iload_n hx hb dX5_strike_14 rfl (lv_at hl 1 rfl) ?_
    refine lv_iconst (v := 0) hx hb dX5_strike_15 (by decide) ?_
    refine lv_aload_n hx hb dX5_strike_16 rfl (lv_at hl 0 rfl) ?_
    refine md_get E hin hM 11 (by decide) (by decide +kernel) rfl dX5_strike_17 ?_
    refine lv_iconst (v := 1) hx hb dX5_strike_20 (by decide) ?_
    refine lv_isub hx hb dX5_strike_21 ?_
    refine bx_goi hM (bx_runS (As := [.int p0, .int 0, .int ((S.2 2) - 1)]) (rest := []) E hM (cX5c_in l D t A (md_w t.1 h a S ++ Z) p0 0 ((S.2 2) - 1)) 3 gX5_strike_X5_in rfl rfl rfl (by decide +kernel) ⟨Nat.le_of_ble_eq_true rfl, Nat.le_of_ble_eq_true rfl⟩ rfl hl.1 rfl (Nat.le_of_ble_eq_true rfl) dX5_strike_22 ⟨Nat.le_of_ble_eq_true rfl, Nat.le_of_ble_eq_true rfl⟩) (fun r u H locs hp hM => ?_)
    rcases hp with ⟨rfl, hp_22⟩ | ⟨rfl, hp_22⟩
    · have hM : bx_M D A s (md_w t.1 h a S ++ Z) H locs := hM
      refine lv_if_ne (tgt := 34) hx hb dX5_strike_25 (by decide) (fun _ => ?_) (fun c => absurd c (by decide))
      refine lv_aload_n hx hb dX5_strike_34 rfl (lv_at hl 0 rfl) ?_
      refine md_get E hin hM 8 (by decide) (by decide +kernel) rfl dX5_strike_35 ?_
      refine lv_iconst (v := (-1)) hx hb dX5_strike_38 (by decide) ?_
      refine lv_icmp_ne (tgt := 48) hx hb dX5_strike_39 (by decide) (fun c_39 => ?_) (fun c_39 => ?_)
      · refine lv_aload_n hx hb dX5_strike_48 rfl (lv_at hl 0 rfl) ?_
        refine md_get E hin hM 12 (by decide) (by decide +kernel) rfl dX5_strike_49 ?_
        refine lv_iload_n hx hb dX5_strike_52 rfl (lv_at hl 1 rfl) ?_
        refine md_ald E hM 9 (by decide) ((md_ln.in hI.2.2.2.2.1 c_5 hp_22).1) dX5_strike_53 ?_
        refine lv_istore_n (lv' := [(2, .int (S.1 9 p0.toNatClampNeg)), (0, .ref h), (1, .int p0)]) hx hb dX5_strike_54 rfl hl (by decide) rfl (fun ls hl => ?_)
        refine lv_iload_n hx hb dX5_strike_55 rfl (lv_at hl 0 rfl) ?_
        refine lv_iconst (v := 0) hx hb dX5_strike_56 (by decide) ?_
        refine lv_aload_n hx hb dX5_strike_57 rfl (lv_at hl 1 rfl) ?_
        refine md_get E hin hM 8 (by decide) (by decide +kernel) rfl dX5_strike_58 ?_
        refine lv_iconst (v := 1) hx hb dX5_strike_61 (by decide) ?_
        refine lv_isub hx hb dX5_strike_62 ?_
        refine bx_goi hM (bx_runS (As := [.int (S.1 9 p0.toNatClampNeg), .int 0, .int ((S.2 0) - 1)]) (rest := []) E hM (cX5c_in l D t A (md_w t.1 h a S ++ Z) (S.1 9 p0.toNatClampNeg) 0 ((S.2 0) - 1)) 3 gX5_strike_X5_in rfl rfl rfl (by decide +kernel) ⟨Nat.le_of_ble_eq_true rfl, Nat.le_of_ble_eq_true rfl⟩ rfl hl.1 rfl (Nat.le_of_ble_eq_true rfl) dX5_strike_63 ⟨Nat.le_of_ble_eq_true rfl, Nat.le_of_ble_eq_true rfl⟩) (fun r u H locs hp hM => ?_)
        rcases hp with ⟨rfl, hp_63⟩ | ⟨rfl, hp_63⟩
        · have hM : bx_M D A s (md_w t.1 h a S ++ Z) H locs := hM
          refine lv_if_ne (tgt := 75) hx hb dX5_strike_66 (by decide) (fun _ => ?_) (fun c => absurd c (by decide))
          refine lv_aload_n hx hb dX5_strike_75 rfl (lv_at hl 1 rfl) ?_
          refine md_get E hin hM 10 (by decide) (by decide +kernel) rfl dX5_strike_76 ?_
          refine lv_iload_n hx hb dX5_strike_79 rfl (lv_at hl 0 rfl) ?_
          refine md_ald E hM 8 (by decide) ((md_ln.in hI.2.2.2.1 c_39 hp_63).1) dX5_strike_80 ?_
          refine lv_iconst (v := (-1)) hx hb dX5_strike_81 (by decide) ?_
          refine lv_icmp_ne (tgt := 89) hx hb dX5_strike_82 (by decide) (fun c_82 => ?_) (fun c_82 => ?_)
          · refine lv_aload_n hx hb dX5_strike_89 rfl (lv_at hl 1 rfl) ?_
            refine lv_aload_n hx hb dX5_strike_90 rfl (lv_at hl 1 rfl) ?_
            refine md_get E hin hM 10 (by decide) (by decide +kernel) rfl dX5_strike_91 ?_
            refine lv_iload_n hx hb dX5_strike_94 rfl (lv_at hl 0 rfl) ?_
            refine md_ald E hM 8 (by decide) ((md_ln.in hI.2.2.2.1 c_39 hp_63).1) dX5_strike_95 ?_
            refine bx_goi hM (bx_runV (As := [.int (S.1 8 (S.1 9 p0.toNatClampNeg).toNatClampNeg)]) (rest := []) E hM (cX5c_rings l D t A h a S Z (S.1 8 (S.1 9 p0.toNatClampNeg).toNatClampNeg) hI (hI.place (md_ln.in hI.2.2.2.1 c_39 hp_63).1 c_82)) (md_recv E hM) 1 gX5_strike_X5_rings rfl rfl rfl (by decide +kernel) ⟨Nat.le_of_ble_eq_true rfl, Nat.le_of_ble_eq_true rfl⟩ rfl hl.1 rfl (Nat.le_of_ble_eq_true rfl) dX5_strike_96 ⟨Nat.le_of_ble_eq_true rfl, Nat.le_of_ble_eq_true rfl⟩) (fun r u H locs hp hM => ?_)
            obtain ⟨rfl, rfl⟩ := hp
            have hM : bx_M D A s (md_w t.1 h a ((mf_rings S (S.1 8 (S.1 9 p0.toNatClampNeg).toNatClampNeg)).2) ++ Z) H locs := hM
            refine lv_istore_n (lv' := [(3, .int ((mf_rings S (S.1 8 (S.1 9 p0.toNatClampNeg).toNatClampNeg)).1)), (2, .int (S.1 9 p0.toNatClampNeg)), (0, .ref h), (1, .int p0)]) hx hb dX5_strike_99 rfl hl (by decide) rfl (fun ls hl => ?_)
            refine lv_iload_n hx hb dX5_strike_100 rfl (lv_at hl 0 rfl) ?_
            refine lv_if_ge (tgt := 113) hx hb dX5_strike_101 (by decide) (fun c_101 => ?_) (fun c_101 => ?_)
            · have c_101 := Int32.not_lt.mpr c_101
              refine lv_iload_n hx hb dX5_strike_113 rfl (lv_at hl 0 rfl) ?_
              exact bx_reti E hr hlk hM ((mf_rings S (S.1 8 (S.1 9 p0.toNatClampNeg).toNatClampNeg)).2) rfl (by simp [mf_strike, mf_got, c_5, hp_22, c_39, hp_63, c_82, c_101]) dX5_strike_114
            · have c_101 := Int32.not_le.mp c_101
              refine lv_aload_n hx hb dX5_strike_104 rfl (lv_at hl 2 rfl) ?_
              refine lv_iload_n hx hb dX5_strike_105 rfl (lv_at hl 0 rfl) ?_
              refine lv_ineg hx hb dX5_strike_106 ?_
              refine bx_goi hM (bx_runV (As := [.int (-((mf_rings S (S.1 8 (S.1 9 p0.toNatClampNeg).toNatClampNeg)).1))]) (rest := []) E hM (cX5c_no l D t A h a ((mf_rings S (S.1 8 (S.1 9 p0.toNatClampNeg).toNatClampNeg)).2) Z (-((mf_rings S (S.1 8 (S.1 9 p0.toNatClampNeg).toNatClampNeg)).1)) (mf_rings_vp hI (hI.place (md_ln.in hI.2.2.2.1 c_39 hp_63).1 c_82) c_101)) (md_recv E hM) 1 gX5_strike_X5_no rfl rfl rfl (by decide +kernel) ⟨Nat.le_of_ble_eq_true rfl, Nat.le_of_ble_eq_true rfl⟩ rfl hl.1 rfl (Nat.le_of_ble_eq_true rfl) dX5_strike_107 ⟨Nat.le_of_ble_eq_true rfl, Nat.le_of_ble_eq_true rfl⟩) (fun r u H locs hp hM => ?_)
              obtain ⟨rfl, rfl⟩ := hp
              have hM : bx_M D A s (md_w t.1 h a (mf_no ((mf_rings S (S.1 8 (S.1 9 p0.toNatClampNeg).toNatClampNeg)).2) (-((mf_rings S (S.1 8 (S.1 9 p0.toNatClampNeg).toNatClampNeg)).1))) ++ Z) H locs := hM
              refine lv_goto (tgt := 114) hx hb dX5_strike_110 (by decide) ?_
              exact bx_reti E hr hlk hM (mf_no ((mf_rings S (S.1 8 (S.1 9 p0.toNatClampNeg).toNatClampNeg)).2) (-((mf_rings S (S.1 8 (S.1 9 p0.toNatClampNeg).toNatClampNeg)).1))) rfl (by simp [mf_strike, mf_got, c_5, hp_22, c_39, hp_63, c_82, c_101]) dX5_strike_114
          · refine lv_iconst (v := (-1)) hx hb dX5_strike_85 (by decide) ?_
            refine lv_goto (tgt := 99) hx hb dX5_strike_86 (by decide) ?_
            refine lv_istore_n (lv' := [(3, .int (-1)), (2, .int (S.1 9 p0.toNatClampNeg)), (0, .ref h), (1, .int p0)]) hx hb dX5_strike_99 rfl hl (by decide) rfl (fun ls hl => ?_)
            refine lv_iload_n hx hb dX5_strike_100 rfl (lv_at hl 0 rfl) ?_
            refine lv_if_ge (tgt := 113) hx hb dX5_strike_101 (by decide) (fun c => absurd c (by decide)) (fun _ => ?_)
            refine lv_aload_n hx hb dX5_strike_104 rfl (lv_at hl 2 rfl) ?_
            refine lv_iload_n hx hb dX5_strike_105 rfl (lv_at hl 0 rfl) ?_
            refine lv_ineg hx hb dX5_strike_106 ?_
            refine bx_goi hM (bx_runV (As := [.int (-(-1))]) (rest := []) E hM (cX5c_no l D t A h a S Z (-(-1)) (vp_in_iff.mpr (by decide))) (md_recv E hM) 1 gX5_strike_X5_no rfl rfl rfl (by decide +kernel) ⟨Nat.le_of_ble_eq_true rfl, Nat.le_of_ble_eq_true rfl⟩ rfl hl.1 rfl (Nat.le_of_ble_eq_true rfl) dX5_strike_107 ⟨Nat.le_of_ble_eq_true rfl, Nat.le_of_ble_eq_true rfl⟩) (fun r u H locs hp hM => ?_)
            obtain ⟨rfl, rfl⟩ := hp
            have hM : bx_M D A s (md_w t.1 h a (mf_no S (-(-1))) ++ Z) H locs := hM
            refine lv_goto (tgt := 114) hx hb dX5_strike_110 (by decide) ?_
            exact bx_reti E hr hlk hM (mf_no S (-(-1))) rfl (by simp [mf_strike, mf_got, c_5, hp_22, c_39, hp_63, c_82]) dX5_strike_114
        · have hM : bx_M D A s (md_w t.1 h a S ++ Z) H locs := hM
          refine lv_if_ne (tgt := 75) hx hb dX5_strike_66 (by decide) (fun c => absurd c (by decide)) (fun _ => ?_)
          refine lv_aload_n hx hb dX5_strike_69 rfl (lv_at hl 1 rfl) ?_
          refine lv_iconst (v := 5) hx hb dX5_strike_70 (by decide) ?_
          refine bx_goi hM (bx_runV (As := [.int 5]) (rest := []) E hM (cX5c_no l D t A h a S Z 5 (vp_in_iff.mpr (by decide))) (md_recv E hM) 1 gX5_strike_X5_no rfl rfl rfl (by decide +kernel) ⟨Nat.le_of_ble_eq_true rfl, Nat.le_of_ble_eq_true rfl⟩ rfl hl.1 rfl (Nat.le_of_ble_eq_true rfl) dX5_strike_71 ⟨Nat.le_of_ble_eq_true rfl, Nat.le_of_ble_eq_true rfl⟩) (fun r u H locs hp hM => ?_)
          obtain ⟨rfl, rfl⟩ := hp
          have hM : bx_M D A s (md_w t.1 h a (mf_no S 5) ++ Z) H locs := hM
          exact bx_reti E hr hlk hM (mf_no S 5) rfl (by simp [mf_strike, mf_got, c_5, hp_22, c_39, hp_63]) dX5_strike_74
      · refine lv_aload_n hx hb dX5_strike_42 rfl (lv_at hl 0 rfl) ?_
        refine lv_iconst (v := 1) hx hb dX5_strike_43 (by decide) ?_
        refine bx_goi hM (bx_runV (As := [.int 1]) (rest := []) E hM (cX5c_no l D t A h a S Z 1 (vp_in_iff.mpr (by decide))) (md_recv E hM) 1 gX5_strike_X5_no rfl rfl rfl (by decide +kernel) ⟨Nat.le_of_ble_eq_true rfl, Nat.le_of_ble_eq_true rfl⟩ rfl hl.1 rfl (Nat.le_of_ble_eq_true rfl) dX5_strike_44 ⟨Nat.le_of_ble_eq_true rfl, Nat.le_of_ble_eq_true rfl⟩) (fun r u H locs hp hM => ?_)
        obtain ⟨rfl, rfl⟩ := hp
        have hM : bx_M D A s (md_w t.1 h a (mf_no S 1) ++ Z) H locs := hM
        exact bx_reti E hr hlk hM (mf_no S 1) rfl (by simp [mf_strike, mf_got, c_5, hp_22, c_39]) dX5_strike_47
    · have hM : bx_M D A s (md_w t.1 h a S ++ Z) H locs := hM
      refine lv_if_ne (tgt := 34) hx hb dX5_strike_25 (by decide) (fun c => absurd c (by decide)) (fun _ => ?_)
      refine lv_aload_n hx hb dX5_strike_28 rfl (lv_at hl 0 rfl) ?_
      refine lv_iconst (v := 5) hx hb dX5_strike_29 (by decide) ?_
      refine bx_goi hM (bx_runV (As := [.int 5]) (rest := []) E hM (cX5c_no l D t A h a S Z 5 (vp_in_iff.mpr (by decide))) (md_recv E hM) 1 gX5_strike_X5_no rfl rfl rfl (by decide +kernel) ⟨Nat.le_of_ble_eq_true rfl, Nat.le_of_ble_eq_true rfl⟩ rfl hl.1 rfl (Nat.le_of_ble_eq_true rfl) dX5_strike_30 ⟨Nat.le_of_ble_eq_true rfl, Nat.le_of_ble_eq_true rfl⟩) (fun r u H locs hp hM => ?_)
      obtain ⟨rfl, rfl⟩ := hp
      have hM : bx_M D A s (md_w t.1 h a (mf_no S 5) ++ Z) H locs := hM
      exact bx_reti E hr hlk hM (mf_no S 5) rfl (by simp [mf_strike, mf_got, c_5, hp_22]) dX5_strike_33
  · refine lv_aload_n hx hb dX5_strike_8 rfl (lv_at hl 0 rfl) ?_
    refine lv_iconst (v := 1) hx hb dX5_strike_9 (by decide) ?_
    refine bx_goi hM (bx_runV (As := [.int 1]) (rest := []) E hM (cX5c_no l D t A h a S Z 1 (vp_in_iff.mpr (by decide))) (md_recv E hM) 1 gX5_strike_X5_no rfl rfl rfl (by decide +kernel) ⟨Nat.le_of_ble_eq_true rfl, Nat.le_of_ble_eq_true rfl⟩ rfl hl.1 rfl (Nat.le_of_ble_eq_true rfl) dX5_strike_10 ⟨Nat.le_of_ble_eq_true rfl, Nat.le_of_ble_eq_true rfl⟩) (fun r u H locs hp hM => ?_)
    obtain ⟨rfl, rfl⟩ := hp
    have hM : bx_M D A s (md_w t.1 h a (mf_no S 1) ++ Z) H locs := hM
    exact bx_reti E hr hlk hM (mf_no S 1) rfl (by simp [mf_strike, mf_got, c_5]) dX5_strike_13

set_option maxHeartbeats 4000000 in
set_option maxRecDepth 100000 in
theorem cX5c_mark (l : Launch) (D : va_G) (t : bx_T) (A : Nat → Prop) (h : Nat) (a : Nat → Nat) (S : md_S) (Z : va_W) (p0 p1 p2 : Int32) (hI : md_I S) : bx_Ci l yX5_mark wsX5_mark ({ frames := 1, cells := 0, slots := 0, locals := 22 }) D t A [.ref h, .int p0, .int p1, .int p2] (md_w t.1 h a S ++ Z) (fun (r : Int32) (u : md_S) => r = (mf_mark S p0 p1 p2).1 ∧ u = (mf_mark S p0 p1 p2).2) (fun u => md_w t.1 h a u ++ Z) 0 0 := by
  refine bx_enter (cc := cX5_mark) (maxL := 4) (ret := some .int) (by decide) rfl (Nat.le_of_ble_eq_true rfl) ?_
  intro p e s m below meth c ls E hr hlk hnm hM hl
  have hl : lv_has ls 4 [(0, .ref h), (1, .int p0), (2, .int p1), (3, .int p2)] := hl
  have hx := E.1.1
  have hb := E.1.2.1
  have hin : ∀ w ∈ wsX50, w ∈ wsX5_mark := by decide +kernel
  refine lv_iload_n hx hb dX5_mark_0 rfl (lv_at hl 3 rfl) ?_
  refine lv_iconst (v := 0) hx hb dX5_mark_1 (by decide) ?_
  refine lv_bipush (v := 99) hx hb dX5_mark_2 (by decide) ?_
  refine bx_goi hM (bx_runS (As := [.int p2, .int 0, .int 99]) (rest := []) E hM (cX5c_in l D t A (md_w t.1 h a S ++ Z) p2 0 99) 3 gX5_mark_X5_in rfl rfl rfl (by decide +kernel) ⟨Nat.le_of_ble_eq_true rfl, Nat.le_of_ble_eq_true rfl⟩ rfl hl.1 rfl (Nat.le_of_ble_eq_true rfl) dX5_mark_4 ⟨Nat.le_of_ble_eq_true rfl, Nat.le_of_ble_eq_true rfl⟩) (fun r u H locs hp hM => ?_)
  rcases hp with ⟨rfl, hp_4⟩ | ⟨rfl, hp_4⟩
  · have hM : bx_M D A s (md_w t.1 h a S ++ Z) H locs := hM
    refine lv_if_ne (tgt := 12) hx hb dX5_mark_7 (by decide) (fun _ => ?_) (fun c => absurd c (by decide))
    refine lv_aload_n hx hb dX5_mark_12 rfl (lv_at hl 0 rfl) ?_
    refine md_get E hin hM 13 (by decide) (by decide +kernel) rfl dX5_mark_13 ?_
    refine lv_iconst (v := (-1)) hx hb dX5_mark_16 (by decide) ?_
    refine lv_icmp_ne (tgt := 26) hx hb dX5_mark_17 (by decide) (fun c_17 => ?_) (fun c_17 => ?_)
    · refine lv_iload_n hx hb dX5_mark_26 rfl (lv_at hl 1 rfl) ?_
      refine lv_iconst (v := 0) hx hb dX5_mark_27 (by decide) ?_
      refine lv_aload_n hx hb dX5_mark_28 rfl (lv_at hl 0 rfl) ?_
      refine md_get E hin hM 13 (by decide) (by decide +kernel) rfl dX5_mark_29 ?_
      refine lv_iconst (v := 1) hx hb dX5_mark_32 (by decide) ?_
      refine lv_isub hx hb dX5_mark_33 ?_
      refine bx_goi hM (bx_runS (As := [.int p0, .int 0, .int ((S.2 3) - 1)]) (rest := []) E hM (cX5c_in l D t A (md_w t.1 h a S ++ Z) p0 0 ((S.2 3) - 1)) 3 gX5_mark_X5_in rfl rfl rfl (by decide +kernel) ⟨Nat.le_of_ble_eq_true rfl, Nat.le_of_ble_eq_true rfl⟩ rfl hl.1 rfl (Nat.le_of_ble_eq_true rfl) dX5_mark_34 ⟨Nat.le_of_ble_eq_true rfl, Nat.le_of_ble_eq_true rfl⟩) (fun r u H locs hp hM => ?_)
      rcases hp with ⟨rfl, hp_34⟩ | ⟨rfl, hp_34⟩
      · have hM : bx_M D A s (md_w t.1 h a S ++ Z) H locs := hM
        refine lv_if_eq (tgt := 54) hx hb dX5_mark_37 (by decide) (fun c => absurd c (by decide)) (fun _ => ?_)
        refine lv_iload_n hx hb dX5_mark_40 rfl (lv_at hl 2 rfl) ?_
        refine lv_iconst (v := 0) hx hb dX5_mark_41 (by decide) ?_
        refine lv_aload_n hx hb dX5_mark_42 rfl (lv_at hl 0 rfl) ?_
        refine md_get E hin hM 14 (by decide) (by decide +kernel) rfl dX5_mark_43 ?_
        refine lv_iconst (v := 1) hx hb dX5_mark_46 (by decide) ?_
        refine lv_isub hx hb dX5_mark_47 ?_
        refine bx_goi hM (bx_runS (As := [.int p1, .int 0, .int ((S.2 4) - 1)]) (rest := []) E hM (cX5c_in l D t A (md_w t.1 h a S ++ Z) p1 0 ((S.2 4) - 1)) 3 gX5_mark_X5_in rfl rfl rfl (by decide +kernel) ⟨Nat.le_of_ble_eq_true rfl, Nat.le_of_ble_eq_true rfl⟩ rfl hl.1 rfl (Nat.le_of_ble_eq_true rfl) dX5_mark_48 ⟨Nat.le_of_ble_eq_true rfl, Nat.le_of_ble_eq_true rfl⟩) (fun r u H locs hp hM => ?_)
        rcases hp with ⟨rfl, hp_48⟩ | ⟨rfl, hp_48⟩
        · have hM : bx_M D A s (md_w t.1 h a S ++ Z) H locs := hM
          refine lv_if_ne (tgt := 60) hx hb dX5_mark_51 (by decide) (fun _ => ?_) (fun c => absurd c (by decide))
          refine lv_aload_n hx hb dX5_mark_60 rfl (lv_at hl 0 rfl) ?_
          refine md_get E hin hM 15 (by decide) (by decide +kernel) rfl dX5_mark_61 ?_
          refine lv_bipush (v := 12) hx hb dX5_mark_64 (by decide) ?_
          refine lv_iload_n hx hb dX5_mark_66 rfl (lv_at hl 1 rfl) ?_
          refine lv_imul hx hb dX5_mark_67 ?_
          refine lv_iload_n hx hb dX5_mark_68 rfl (lv_at hl 2 rfl) ?_
          refine lv_iadd hx hb dX5_mark_69 ?_
          refine lv_iload_n hx hb dX5_mark_70 rfl (lv_at hl 3 rfl) ?_
          refine md_ast E hM 10 (by decide) (md_pl (md_ln.in hI.2.2.2.2.2.1 c_17 hp_34).2 (md_ln.in hI.2.2.2.2.2.2.1.1 hI.2.2.2.2.2.2.1.2 hp_48).2) dX5_mark_71 (fun H locs hM => ?_)
          have hM : bx_M D A s (md_w t.1 h a (md_ai S 10 ((12 * p0) + p1).toNatClampNeg p2) ++ Z) H locs := hM
          refine lv_iload_n hx hb dX5_mark_72 rfl (lv_at hl 3 rfl) ?_
          exact bx_reti E hr hlk hM (md_ai S 10 ((12 * p0) + p1).toNatClampNeg p2) rfl (by first | (simp [mf_mark, hp_4, c_17, hp_34, hp_48]; done) | (simp [mf_mark, hp_4, c_17, hp_34, hp_48]; rfl) | (simp [mf_mark, md_s, va_up, hp_4, c_17, hp_34, hp_48]; done)) dX5_mark_73
        · have hM : bx_M D A s (md_w t.1 h a S ++ Z) H locs := hM
          refine lv_if_ne (tgt := 60) hx hb dX5_mark_51 (by decide) (fun c => absurd c (by decide)) (fun _ => ?_)
          refine lv_aload_n hx hb dX5_mark_54 rfl (lv_at hl 0 rfl) ?_
          refine lv_iconst (v := 5) hx hb dX5_mark_55 (by decide) ?_
          refine bx_goi hM (bx_runV (As := [.int 5]) (rest := []) E hM (cX5c_no l D t A h a S Z 5 (vp_in_iff.mpr (by decide))) (md_recv E hM) 1 gX5_mark_X5_no rfl rfl rfl (by decide +kernel) ⟨Nat.le_of_ble_eq_true rfl, Nat.le_of_ble_eq_true rfl⟩ rfl hl.1 rfl (Nat.le_of_ble_eq_true rfl) dX5_mark_56 ⟨Nat.le_of_ble_eq_true rfl, Nat.le_of_ble_eq_true rfl⟩) (fun r u H locs hp hM => ?_)
          obtain ⟨rfl, rfl⟩ := hp
          have hM : bx_M D A s (md_w t.1 h a (mf_no S 5) ++ Z) H locs := hM
          exact bx_reti E hr hlk hM (mf_no S 5) rfl (by first | (simp [mf_mark, hp_4, c_17, hp_34, hp_48]; done) | (simp [mf_mark, hp_4, c_17, hp_34, hp_48]; rfl) | (simp [mf_mark, md_s, va_up, hp_4, c_17, hp_34, hp_48]; done)) dX5_mark_59
      · have hM : bx_M D A s (md_w t.1 h a S ++ Z) H locs := hM
        refine lv_if_eq (tgt := 54) hx hb dX5_mark_37 (by decide) (fun _ => ?_) (fun c => absurd c (by decide))
        refine lv_aload_n hx hb dX5_mark_54 rfl (lv_at hl 0 rfl) ?_
        refine lv_iconst (v := 5) hx hb dX5_mark_55 (by decide) ?_
        refine bx_goi hM (bx_runV (As := [.int 5]) (rest := []) E hM (cX5c_no l D t A h a S Z 5 (vp_in_iff.mpr (by decide))) (md_recv E hM) 1 gX5_mark_X5_no rfl rfl rfl (by decide +kernel) ⟨Nat.le_of_ble_eq_true rfl, Nat.le_of_ble_eq_true rfl⟩ rfl hl.1 rfl (Nat.le_of_ble_eq_true rfl) dX5_mark_56 ⟨Nat.le_of_ble_eq_true rfl, Nat.le_of_ble_eq_true rfl⟩) (fun r u H locs hp hM => ?_)
        obtain ⟨rfl, rfl⟩ := hp
        have hM : bx_M D A s (md_w t.1 h a (mf_no S 5) ++ Z) H locs := hM
        exact bx_reti E hr hlk hM (mf_no S 5) rfl (by first | (simp [mf_mark, hp_4, c_17, hp_34]; done) | (simp [mf_mark, hp_4, c_17, hp_34]; rfl) | (simp [mf_mark, md_s, va_up, hp_4, c_17, hp_34]; done)) dX5_mark_59
    · refine lv_aload_n hx hb dX5_mark_20 rfl (lv_at hl 0 rfl) ?_
      refine lv_iconst (v := 1) hx hb dX5_mark_21 (by decide) ?_
      refine bx_goi hM (bx_runV (As := [.int 1]) (rest := []) E hM (cX5c_no l D t A h a S Z 1 (vp_in_iff.mpr (by decide))) (md_recv E hM) 1 gX5_mark_X5_no rfl rfl rfl (by decide +kernel) ⟨Nat.le_of_ble_eq_true rfl, Nat.le_of_ble_eq_true rfl⟩ rfl hl.1 rfl (Nat.le_of_ble_eq_true rfl) dX5_mark_22 ⟨Nat.le_of_ble_eq_true rfl, Nat.le_of_ble_eq_true rfl⟩) (fun r u H locs hp hM => ?_)
      obtain ⟨rfl, rfl⟩ := hp
      have hM : bx_M D A s (md_w t.1 h a (mf_no S 1) ++ Z) H locs := hM
      exact bx_reti E hr hlk hM (mf_no S 1) rfl (by first | (simp [mf_mark, hp_4, c_17]; done) | (simp [mf_mark, hp_4, c_17]; rfl) | (simp [mf_mark, md_s, va_up, hp_4, c_17]; done)) dX5_mark_25
  · have hM : bx_M D A s (md_w t.1 h a S ++ Z) H locs := hM
    refine lv_if_ne (tgt := 12) hx hb dX5_mark_7 (by decide) (fun c => absurd c (by decide)) (fun _ => ?_)
    refine lv_iconst (v := (-1)) hx hb dX5_mark_10 (by decide) ?_
    exact bx_reti E hr hlk hM S rfl (by first | (simp [mf_mark, hp_4]; done) | (simp [mf_mark, hp_4]; rfl) | (simp [mf_mark, md_s, va_up, hp_4]; done)) dX5_mark_11

set_option maxHeartbeats 4000000 in
set_option maxRecDepth 100000 in
theorem cX5c_marked (l : Launch) (D : va_G) (t : bx_T) (A : Nat → Prop) (h : Nat) (a : Nat → Nat) (S : md_S) (Z : va_W) (p0 p1 : Int32) (hI : md_I S) : bx_Ci l yX5_marked wsX5_marked ({ frames := 1, cells := 0, slots := 0, locals := 22 }) D t A [.ref h, .int p0, .int p1] (md_w t.1 h a S ++ Z) (fun (r : Int32) (u : md_S) => r = (mf_marked S p0 p1).1 ∧ u = (mf_marked S p0 p1).2) (fun u => md_w t.1 h a u ++ Z) 0 0 := by
  refine bx_enter (cc := cX5_marked) (maxL := 3) (ret := some .int) (by decide) rfl (Nat.le_of_ble_eq_true rfl) ?_
  intro p e s m below meth c ls E hr hlk hnm hM hl
  have hl : lv_has ls 3 [(0, .ref h), (1, .int p0), (2, .int p1)] := hl
  have hx := E.1.1
  have hb := E.1.2.1
  have hin : ∀ w ∈ wsX50, w ∈ wsX5_marked := by decide +kernel
  refine lv_aload_n hx hb dX5_marked_0 rfl (lv_at hl 0 rfl) ?_
  refine md_get E hin hM 13 (by decide) (by decide +kernel) rfl dX5_marked_1 ?_
  refine lv_iconst (v := (-1)) hx hb dX5_marked_4 (by decide) ?_
  refine lv_icmp_ne (tgt := 14) hx hb dX5_marked_5 (by decide) (fun c_5 => ?_) (fun c_5 => ?_)
  · refine lv_iload_n hx hb dX5_marked_14 rfl (lv_at hl 1 rfl) ?_
    refine lv_iconst (v := 0) hx hb dX5_marked_15 (by decide) ?_
    refine lv_aload_n hx hb dX5_marked_16 rfl (lv_at hl 0 rfl) ?_
    refine md_get E hin hM 13 (by decide) (by decide +kernel) rfl dX5_marked_17 ?_
    refine lv_iconst (v := 1) hx hb dX5_marked_20 (by decide) ?_
    refine lv_isub hx hb dX5_marked_21 ?_
    refine bx_goi hM (bx_runS (As := [.int p0, .int 0, .int ((S.2 3) - 1)]) (rest := []) E hM (cX5c_in l D t A (md_w t.1 h a S ++ Z) p0 0 ((S.2 3) - 1)) 3 gX5_marked_X5_in rfl rfl rfl (by decide +kernel) ⟨Nat.le_of_ble_eq_true rfl, Nat.le_of_ble_eq_true rfl⟩ rfl hl.1 rfl (Nat.le_of_ble_eq_true rfl) dX5_marked_22 ⟨Nat.le_of_ble_eq_true rfl, Nat.le_of_ble_eq_true rfl⟩) (fun r u H locs hp hM => ?_)
    rcases hp with ⟨rfl, hp_22⟩ | ⟨rfl, hp_22⟩
    · have hM : bx_M D A s (md_w t.1 h a S ++ Z) H locs := hM
      refine lv_if_eq (tgt := 42) hx hb dX5_marked_25 (by decide) (fun c => absurd c (by decide)) (fun _ => ?_)
      refine lv_iload_n hx hb dX5_marked_28 rfl (lv_at hl 2 rfl) ?_
      refine lv_iconst (v := 0) hx hb dX5_marked_29 (by decide) ?_
      refine lv_aload_n hx hb dX5_marked_30 rfl (lv_at hl 0 rfl) ?_
      refine md_get E hin hM 14 (by decide) (by decide +kernel) rfl dX5_marked_31 ?_
      refine lv_iconst (v := 1) hx hb dX5_marked_34 (by decide) ?_
      refine lv_isub hx hb dX5_marked_35 ?_
      refine bx_goi hM (bx_runS (As := [.int p1, .int 0, .int ((S.2 4) - 1)]) (rest := []) E hM (cX5c_in l D t A (md_w t.1 h a S ++ Z) p1 0 ((S.2 4) - 1)) 3 gX5_marked_X5_in rfl rfl rfl (by decide +kernel) ⟨Nat.le_of_ble_eq_true rfl, Nat.le_of_ble_eq_true rfl⟩ rfl hl.1 rfl (Nat.le_of_ble_eq_true rfl) dX5_marked_36 ⟨Nat.le_of_ble_eq_true rfl, Nat.le_of_ble_eq_true rfl⟩) (fun r u H locs hp hM => ?_)
      rcases hp with ⟨rfl, hp_36⟩ | ⟨rfl, hp_36⟩
      · have hM : bx_M D A s (md_w t.1 h a S ++ Z) H locs := hM
        refine lv_if_ne (tgt := 50) hx hb dX5_marked_39 (by decide) (fun _ => ?_) (fun c => absurd c (by decide))
        refine lv_aload_n hx hb dX5_marked_50 rfl (lv_at hl 0 rfl) ?_
        refine md_get E hin hM 15 (by decide) (by decide +kernel) rfl dX5_marked_51 ?_
        refine lv_bipush (v := 12) hx hb dX5_marked_54 (by decide) ?_
        refine lv_iload_n hx hb dX5_marked_56 rfl (lv_at hl 1 rfl) ?_
        refine lv_imul hx hb dX5_marked_57 ?_
        refine lv_iload_n hx hb dX5_marked_58 rfl (lv_at hl 2 rfl) ?_
        refine lv_iadd hx hb dX5_marked_59 ?_
        refine md_ald E hM 10 (by decide) (md_pl (md_ln.in hI.2.2.2.2.2.1 c_5 hp_22).2 (md_ln.in hI.2.2.2.2.2.2.1.1 hI.2.2.2.2.2.2.1.2 hp_36).2) dX5_marked_60 ?_
        exact bx_reti E hr hlk hM S rfl (by first | (simp [mf_marked, c_5, hp_22, hp_36]; done) | (simp [mf_marked, c_5, hp_22, hp_36]; rfl) | (simp [mf_marked, md_s, va_up, c_5, hp_22, hp_36]; done)) dX5_marked_61
      · have hM : bx_M D A s (md_w t.1 h a S ++ Z) H locs := hM
        refine lv_if_ne (tgt := 50) hx hb dX5_marked_39 (by decide) (fun c => absurd c (by decide)) (fun _ => ?_)
        refine lv_aload_n hx hb dX5_marked_42 rfl (lv_at hl 0 rfl) ?_
        refine lv_iconst (v := 5) hx hb dX5_marked_43 (by decide) ?_
        refine bx_goi hM (bx_runV (As := [.int 5]) (rest := []) E hM (cX5c_no l D t A h a S Z 5 (vp_in_iff.mpr (by decide))) (md_recv E hM) 1 gX5_marked_X5_no rfl rfl rfl (by decide +kernel) ⟨Nat.le_of_ble_eq_true rfl, Nat.le_of_ble_eq_true rfl⟩ rfl hl.1 rfl (Nat.le_of_ble_eq_true rfl) dX5_marked_44 ⟨Nat.le_of_ble_eq_true rfl, Nat.le_of_ble_eq_true rfl⟩) (fun r u H locs hp hM => ?_)
        obtain ⟨rfl, rfl⟩ := hp
        have hM : bx_M D A s (md_w t.1 h a (mf_no S 5) ++ Z) H locs := hM
        refine lv_goto (tgt := 61) hx hb dX5_marked_47 (by decide) ?_
        exact bx_reti E hr hlk hM (mf_no S 5) rfl (by first | (simp [mf_marked, c_5, hp_22, hp_36]; done) | (simp [mf_marked, c_5, hp_22, hp_36]; rfl) | (simp [mf_marked, md_s, va_up, c_5, hp_22, hp_36]; done)) dX5_marked_61
    · have hM : bx_M D A s (md_w t.1 h a S ++ Z) H locs := hM
      refine lv_if_eq (tgt := 42) hx hb dX5_marked_25 (by decide) (fun _ => ?_) (fun c => absurd c (by decide))
      refine lv_aload_n hx hb dX5_marked_42 rfl (lv_at hl 0 rfl) ?_
      refine lv_iconst (v := 5) hx hb dX5_marked_43 (by decide) ?_
      refine bx_goi hM (bx_runV (As := [.int 5]) (rest := []) E hM (cX5c_no l D t A h a S Z 5 (vp_in_iff.mpr (by decide))) (md_recv E hM) 1 gX5_marked_X5_no rfl rfl rfl (by decide +kernel) ⟨Nat.le_of_ble_eq_true rfl, Nat.le_of_ble_eq_true rfl⟩ rfl hl.1 rfl (Nat.le_of_ble_eq_true rfl) dX5_marked_44 ⟨Nat.le_of_ble_eq_true rfl, Nat.le_of_ble_eq_true rfl⟩) (fun r u H locs hp hM => ?_)
      obtain ⟨rfl, rfl⟩ := hp
      have hM : bx_M D A s (md_w t.1 h a (mf_no S 5) ++ Z) H locs := hM
      refine lv_goto (tgt := 61) hx hb dX5_marked_47 (by decide) ?_
      exact bx_reti E hr hlk hM (mf_no S 5) rfl (by first | (simp [mf_marked, c_5, hp_22]; done) | (simp [mf_marked, c_5, hp_22]; rfl) | (simp [mf_marked, md_s, va_up, c_5, hp_22]; done)) dX5_marked_61
  · refine lv_aload_n hx hb dX5_marked_8 rfl (lv_at hl 0 rfl) ?_
    refine lv_iconst (v := 1) hx hb dX5_marked_9 (by decide) ?_
    refine bx_goi hM (bx_runV (As := [.int 1]) (rest := []) E hM (cX5c_no l D t A h a S Z 1 (vp_in_iff.mpr (by decide))) (md_recv E hM) 1 gX5_marked_X5_no rfl rfl rfl (by decide +kernel) ⟨Nat.le_of_ble_eq_true rfl, Nat.le_of_ble_eq_true rfl⟩ rfl hl.1 rfl (Nat.le_of_ble_eq_true rfl) dX5_marked_10 ⟨Nat.le_of_ble_eq_true rfl, Nat.le_of_ble_eq_true rfl⟩) (fun r u H locs hp hM => ?_)
    obtain ⟨rfl, rfl⟩ := hp
    have hM : bx_M D A s (md_w t.1 h a (mf_no S 1) ++ Z) H locs := hM
    exact bx_reti E hr hlk hM (mf_no S 1) rfl (by first | (simp [mf_marked, c_5]; done) | (simp [mf_marked, c_5]; rfl) | (simp [mf_marked, md_s, va_up, c_5]; done)) dX5_marked_13

set_option maxHeartbeats 4000000 in
set_option maxRecDepth 100000 in
theorem cX5c_away (l : Launch) (D : va_G) (t : bx_T) (A : Nat → Prop) (h : Nat) (a : Nat → Nat) (S : md_S) (Z : va_W) (p0 : Int32) : bx_Ci l yX5_away wsX5_away ({ frames := 1, cells := 0, slots := 0, locals := 22 }) D t A [.ref h, .int p0] (md_w t.1 h a S ++ Z) (fun (r : Int32) (u : md_S) => r = (mf_away S p0).1 ∧ u = (mf_away S p0).2) (fun u => md_w t.1 h a u ++ Z) 0 0 := by
  refine bx_enter (cc := cX5_away) (maxL := 3) (ret := some .int) (by decide) rfl (Nat.le_of_ble_eq_true rfl) ?_
  intro p e s m below meth c ls E hr hlk hnm hM hl
  have hl : lv_has ls 3 [(0, .ref h), (1, .int p0)] := hl
  have hx := E.1.1
  have hb := E.1.2.1
  have hin : ∀ w ∈ wsX50, w ∈ wsX5_away := by decide +kernel
  refine lv_iload_n hx hb dX5_away_0 rfl (lv_at hl 1 rfl) ?_
  refine lv_iconst (v := 0) hx hb dX5_away_1 (by decide) ?_
  refine lv_iconst (v := 2) hx hb dX5_away_2 (by decide) ?_
  refine bx_goi hM (bx_runS (As := [.int p0, .int 0, .int 2]) (rest := []) E hM (cX5c_in l D t A (md_w t.1 h a S ++ Z) p0 0 2) 3 gX5_away_X5_in rfl rfl rfl (by decide +kernel) ⟨Nat.le_of_ble_eq_true rfl, Nat.le_of_ble_eq_true rfl⟩ rfl hl.1 rfl (Nat.le_of_ble_eq_true rfl) dX5_away_3 ⟨Nat.le_of_ble_eq_true rfl, Nat.le_of_ble_eq_true rfl⟩) (fun r u H locs hp hM => ?_)
  rcases hp with ⟨rfl, hp_3⟩ | ⟨rfl, hp_3⟩
  · have hM : bx_M D A s (md_w t.1 h a S ++ Z) H locs := hM
    refine lv_if_ne (tgt := 11) hx hb dX5_away_6 (by decide) (fun _ => ?_) (fun c => absurd c (by decide))
    refine lv_iload_n hx hb dX5_away_11 rfl (lv_at hl 1 rfl) ?_
    refine lv_if_ne (tgt := 31) hx hb dX5_away_12 (by decide) (fun c_12 => ?_) (fun c_12 => ?_)
    · refine lv_iload_n hx hb dX5_away_31 rfl (lv_at hl 1 rfl) ?_
      refine lv_iconst (v := 1) hx hb dX5_away_32 (by decide) ?_
      refine lv_icmp_ne (tgt := 52) hx hb dX5_away_33 (by decide) (fun c_33 => ?_) (fun c_33 => ?_)
      · refine lv_aload_n hx hb dX5_away_52 rfl (lv_at hl 0 rfl) ?_
        refine md_get E hin hM 13 (by decide) (by decide +kernel) rfl dX5_away_53 ?_
        refine lv_iconst (v := (-1)) hx hb dX5_away_56 (by decide) ?_
        refine lv_icmp_eq (tgt := 64) hx hb dX5_away_57 (by decide) (fun c_57 => ?_) (fun c_57 => ?_)
        · refine lv_iconst (v := 0) hx hb dX5_away_64 (by decide) ?_
          refine lv_istore_n (lv' := [(2, .int 0), (0, .ref h), (1, .int p0)]) hx hb dX5_away_65 rfl hl (by decide) rfl (fun ls hl => ?_)
          refine lv_aload_n hx hb dX5_away_66 rfl (lv_at hl 1 rfl) ?_
          refine lv_iload_n hx hb dX5_away_67 rfl (lv_at hl 2 rfl) ?_
          refine lv_if_ne (tgt := 75) hx hb dX5_away_68 (by decide) (fun _ => ?_) (fun c => absurd c c_12)
          refine lv_aload_n hx hb dX5_away_75 rfl (lv_at hl 1 rfl) ?_
          refine md_get E hin hM 8 (by decide) (by decide +kernel) rfl dX5_away_76 ?_
          refine md_put (S' := md_s S 0 (S.2 0)) E hin hM 8 (by decide) (by decide +kernel) rfl rfl rfl rfl dX5_away_79 (fun H locs hM => ?_)
          have hM : bx_M D A s (md_w t.1 h a (md_s S 0 (S.2 0)) ++ Z) H locs := hM
          refine lv_aload_n hx hb dX5_away_82 rfl (lv_at hl 1 rfl) ?_
          refine lv_iload_n hx hb dX5_away_83 rfl (lv_at hl 2 rfl) ?_
          refine lv_iconst (v := 1) hx hb dX5_away_84 (by decide) ?_
          refine lv_icmp_ne (tgt := 92) hx hb dX5_away_85 (by decide) (fun _ => ?_) (fun c => absurd c c_33)
          refine lv_aload_n hx hb dX5_away_92 rfl (lv_at hl 1 rfl) ?_
          refine md_get E hin hM 11 (by decide) (by decide +kernel) rfl dX5_away_93 ?_
          refine md_put (S' := md_s (md_s S 0 (S.2 0)) 2 ((md_s S 0 (S.2 0)).2 2)) E hin hM 11 (by decide) (by decide +kernel) rfl rfl rfl rfl dX5_away_96 (fun H locs hM => ?_)
          have hM : bx_M D A s (md_w t.1 h a (md_s (md_s S 0 (S.2 0)) 2 ((md_s S 0 (S.2 0)).2 2)) ++ Z) H locs := hM
          refine lv_aload_n hx hb dX5_away_99 rfl (lv_at hl 1 rfl) ?_
          refine lv_iload_n hx hb dX5_away_100 rfl (lv_at hl 2 rfl) ?_
          refine lv_iconst (v := 2) hx hb dX5_away_101 (by decide) ?_
          refine lv_icmp_ne (tgt := 109) hx hb dX5_away_102 (by decide) (fun c_102 => ?_) (fun c_102 => ?_)
          · refine lv_aload_n hx hb dX5_away_109 rfl (lv_at hl 1 rfl) ?_
            refine md_get E hin hM 13 (by decide) (by decide +kernel) rfl dX5_away_110 ?_
            refine md_put (S' := md_s (md_s (md_s S 0 (S.2 0)) 2 ((md_s S 0 (S.2 0)).2 2)) 3 ((md_s (md_s S 0 (S.2 0)) 2 ((md_s S 0 (S.2 0)).2 2)).2 3)) E hin hM 13 (by decide) (by decide +kernel) rfl rfl rfl rfl dX5_away_113 (fun H locs hM => ?_)
            have hM : bx_M D A s (md_w t.1 h a (md_s (md_s (md_s S 0 (S.2 0)) 2 ((md_s S 0 (S.2 0)).2 2)) 3 ((md_s (md_s S 0 (S.2 0)) 2 ((md_s S 0 (S.2 0)).2 2)).2 3)) ++ Z) H locs := hM
            refine lv_iload_n hx hb dX5_away_116 rfl (lv_at hl 0 rfl) ?_
            refine lv_if_eq (tgt := 124) hx hb dX5_away_117 (by decide) (fun _ => ?_) (fun c => absurd c (by decide))
            refine lv_iconst (v := 0) hx hb dX5_away_124 (by decide) ?_
            exact bx_reti E hr hlk hM (md_s (md_s (md_s S 0 (S.2 0)) 2 ((md_s S 0 (S.2 0)).2 2)) 3 ((md_s (md_s S 0 (S.2 0)) 2 ((md_s S 0 (S.2 0)).2 2)).2 3)) rfl (by first | (simp [mf_away, hp_3, c_12, c_33, c_57, c_102]; done) | (simp [mf_away, hp_3, c_12, c_33, c_57, c_102]; rfl) | (simp [mf_away, md_s, va_up, hp_3, c_12, c_33, c_57, c_102]; done)) dX5_away_125
          · refine lv_iconst (v := (-1)) hx hb dX5_away_105 (by decide) ?_
            refine lv_goto (tgt := 113) hx hb dX5_away_106 (by decide) ?_
            refine md_put (S' := md_s (md_s (md_s S 0 (S.2 0)) 2 ((md_s S 0 (S.2 0)).2 2)) 3 (-1)) E hin hM 13 (by decide) (by decide +kernel) rfl rfl rfl rfl dX5_away_113 (fun H locs hM => ?_)
            have hM : bx_M D A s (md_w t.1 h a (md_s (md_s (md_s S 0 (S.2 0)) 2 ((md_s S 0 (S.2 0)).2 2)) 3 (-1)) ++ Z) H locs := hM
            refine lv_iload_n hx hb dX5_away_116 rfl (lv_at hl 0 rfl) ?_
            refine lv_if_eq (tgt := 124) hx hb dX5_away_117 (by decide) (fun _ => ?_) (fun c => absurd c (by decide))
            refine lv_iconst (v := 0) hx hb dX5_away_124 (by decide) ?_
            exact bx_reti E hr hlk hM (md_s (md_s (md_s S 0 (S.2 0)) 2 ((md_s S 0 (S.2 0)).2 2)) 3 (-1)) rfl (by subst c_102; first | (simp [mf_away, hp_3, c_12, c_33, c_57]; done) | (simp [mf_away, hp_3, c_12, c_33, c_57]; rfl)) dX5_away_125
        · refine lv_iconst (v := 1) hx hb dX5_away_60 (by decide) ?_
          refine lv_goto (tgt := 65) hx hb dX5_away_61 (by decide) ?_
          refine lv_istore_n (lv' := [(2, .int 1), (0, .ref h), (1, .int p0)]) hx hb dX5_away_65 rfl hl (by decide) rfl (fun ls hl => ?_)
          refine lv_aload_n hx hb dX5_away_66 rfl (lv_at hl 1 rfl) ?_
          refine lv_iload_n hx hb dX5_away_67 rfl (lv_at hl 2 rfl) ?_
          refine lv_if_ne (tgt := 75) hx hb dX5_away_68 (by decide) (fun _ => ?_) (fun c => absurd c c_12)
          refine lv_aload_n hx hb dX5_away_75 rfl (lv_at hl 1 rfl) ?_
          refine md_get E hin hM 8 (by decide) (by decide +kernel) rfl dX5_away_76 ?_
          refine md_put (S' := md_s S 0 (S.2 0)) E hin hM 8 (by decide) (by decide +kernel) rfl rfl rfl rfl dX5_away_79 (fun H locs hM => ?_)
          have hM : bx_M D A s (md_w t.1 h a (md_s S 0 (S.2 0)) ++ Z) H locs := hM
          refine lv_aload_n hx hb dX5_away_82 rfl (lv_at hl 1 rfl) ?_
          refine lv_iload_n hx hb dX5_away_83 rfl (lv_at hl 2 rfl) ?_
          refine lv_iconst (v := 1) hx hb dX5_away_84 (by decide) ?_
          refine lv_icmp_ne (tgt := 92) hx hb dX5_away_85 (by decide) (fun _ => ?_) (fun c => absurd c c_33)
          refine lv_aload_n hx hb dX5_away_92 rfl (lv_at hl 1 rfl) ?_
          refine md_get E hin hM 11 (by decide) (by decide +kernel) rfl dX5_away_93 ?_
          refine md_put (S' := md_s (md_s S 0 (S.2 0)) 2 ((md_s S 0 (S.2 0)).2 2)) E hin hM 11 (by decide) (by decide +kernel) rfl rfl rfl rfl dX5_away_96 (fun H locs hM => ?_)
          have hM : bx_M D A s (md_w t.1 h a (md_s (md_s S 0 (S.2 0)) 2 ((md_s S 0 (S.2 0)).2 2)) ++ Z) H locs := hM
          refine lv_aload_n hx hb dX5_away_99 rfl (lv_at hl 1 rfl) ?_
          refine lv_iload_n hx hb dX5_away_100 rfl (lv_at hl 2 rfl) ?_
          refine lv_iconst (v := 2) hx hb dX5_away_101 (by decide) ?_
          refine lv_icmp_ne (tgt := 109) hx hb dX5_away_102 (by decide) (fun c_102 => ?_) (fun c_102 => ?_)
          · refine lv_aload_n hx hb dX5_away_109 rfl (lv_at hl 1 rfl) ?_
            refine md_get E hin hM 13 (by decide) (by decide +kernel) rfl dX5_away_110 ?_
            refine md_put (S' := md_s (md_s (md_s S 0 (S.2 0)) 2 ((md_s S 0 (S.2 0)).2 2)) 3 ((md_s (md_s S 0 (S.2 0)) 2 ((md_s S 0 (S.2 0)).2 2)).2 3)) E hin hM 13 (by decide) (by decide +kernel) rfl rfl rfl rfl dX5_away_113 (fun H locs hM => ?_)
            have hM : bx_M D A s (md_w t.1 h a (md_s (md_s (md_s S 0 (S.2 0)) 2 ((md_s S 0 (S.2 0)).2 2)) 3 ((md_s (md_s S 0 (S.2 0)) 2 ((md_s S 0 (S.2 0)).2 2)).2 3)) ++ Z) H locs := hM
            refine lv_iload_n hx hb dX5_away_116 rfl (lv_at hl 0 rfl) ?_
            refine lv_if_eq (tgt := 124) hx hb dX5_away_117 (by decide) (fun c => absurd c (by decide)) (fun _ => ?_)
            refine lv_iconst (v := 1) hx hb dX5_away_120 (by decide) ?_
            refine lv_goto (tgt := 125) hx hb dX5_away_121 (by decide) ?_
            exact bx_reti E hr hlk hM (md_s (md_s (md_s S 0 (S.2 0)) 2 ((md_s S 0 (S.2 0)).2 2)) 3 ((md_s (md_s S 0 (S.2 0)) 2 ((md_s S 0 (S.2 0)).2 2)).2 3)) rfl (by first | (simp [mf_away, hp_3, c_12, c_33, c_57, c_102]; done) | (simp [mf_away, hp_3, c_12, c_33, c_57, c_102]; rfl) | (simp [mf_away, md_s, va_up, hp_3, c_12, c_33, c_57, c_102]; done)) dX5_away_125
          · refine lv_iconst (v := (-1)) hx hb dX5_away_105 (by decide) ?_
            refine lv_goto (tgt := 113) hx hb dX5_away_106 (by decide) ?_
            refine md_put (S' := md_s (md_s (md_s S 0 (S.2 0)) 2 ((md_s S 0 (S.2 0)).2 2)) 3 (-1)) E hin hM 13 (by decide) (by decide +kernel) rfl rfl rfl rfl dX5_away_113 (fun H locs hM => ?_)
            have hM : bx_M D A s (md_w t.1 h a (md_s (md_s (md_s S 0 (S.2 0)) 2 ((md_s S 0 (S.2 0)).2 2)) 3 (-1)) ++ Z) H locs := hM
            refine lv_iload_n hx hb dX5_away_116 rfl (lv_at hl 0 rfl) ?_
            refine lv_if_eq (tgt := 124) hx hb dX5_away_117 (by decide) (fun c => absurd c (by decide)) (fun _ => ?_)
            refine lv_iconst (v := 1) hx hb dX5_away_120 (by decide) ?_
            refine lv_goto (tgt := 125) hx hb dX5_away_121 (by decide) ?_
            exact bx_reti E hr hlk hM (md_s (md_s (md_s S 0 (S.2 0)) 2 ((md_s S 0 (S.2 0)).2 2)) 3 (-1)) rfl (by subst c_102; first | (simp [mf_away, hp_3, c_12, c_33, c_57]; done) | (simp [mf_away, hp_3, c_12, c_33, c_57]; rfl)) dX5_away_125
      · refine lv_aload_n hx hb dX5_away_36 rfl (lv_at hl 0 rfl) ?_
        refine md_get E hin hM 11 (by decide) (by decide +kernel) rfl dX5_away_37 ?_
        refine lv_iconst (v := (-1)) hx hb dX5_away_40 (by decide) ?_
        refine lv_icmp_eq (tgt := 48) hx hb dX5_away_41 (by decide) (fun c_41 => ?_) (fun c_41 => ?_)
        · refine lv_iconst (v := 0) hx hb dX5_away_48 (by decide) ?_
          refine lv_goto (tgt := 65) hx hb dX5_away_49 (by decide) ?_
          refine lv_istore_n (lv' := [(2, .int 0), (0, .ref h), (1, .int p0)]) hx hb dX5_away_65 rfl hl (by decide) rfl (fun ls hl => ?_)
          refine lv_aload_n hx hb dX5_away_66 rfl (lv_at hl 1 rfl) ?_
          refine lv_iload_n hx hb dX5_away_67 rfl (lv_at hl 2 rfl) ?_
          refine lv_if_ne (tgt := 75) hx hb dX5_away_68 (by decide) (fun _ => ?_) (fun c => absurd c c_12)
          refine lv_aload_n hx hb dX5_away_75 rfl (lv_at hl 1 rfl) ?_
          refine md_get E hin hM 8 (by decide) (by decide +kernel) rfl dX5_away_76 ?_
          refine md_put (S' := md_s S 0 (S.2 0)) E hin hM 8 (by decide) (by decide +kernel) rfl rfl rfl rfl dX5_away_79 (fun H locs hM => ?_)
          have hM : bx_M D A s (md_w t.1 h a (md_s S 0 (S.2 0)) ++ Z) H locs := hM
          refine lv_aload_n hx hb dX5_away_82 rfl (lv_at hl 1 rfl) ?_
          refine lv_iload_n hx hb dX5_away_83 rfl (lv_at hl 2 rfl) ?_
          refine lv_iconst (v := 1) hx hb dX5_away_84 (by decide) ?_
          refine lv_icmp_ne (tgt := 92) hx hb dX5_away_85 (by decide) (fun c => absurd c_33 c) (fun _ => ?_)
          refine lv_iconst (v := (-1)) hx hb dX5_away_88 (by decide) ?_
          refine lv_goto (tgt := 96) hx hb dX5_away_89 (by decide) ?_
          refine md_put (S' := md_s (md_s S 0 (S.2 0)) 2 (-1)) E hin hM 11 (by decide) (by decide +kernel) rfl rfl rfl rfl dX5_away_96 (fun H locs hM => ?_)
          have hM : bx_M D A s (md_w t.1 h a (md_s (md_s S 0 (S.2 0)) 2 (-1)) ++ Z) H locs := hM
          refine lv_aload_n hx hb dX5_away_99 rfl (lv_at hl 1 rfl) ?_
          refine lv_iload_n hx hb dX5_away_100 rfl (lv_at hl 2 rfl) ?_
          refine lv_iconst (v := 2) hx hb dX5_away_101 (by decide) ?_
          refine lv_icmp_ne (tgt := 109) hx hb dX5_away_102 (by decide) (fun _ => ?_) (fun c => absurd (c_33.symm.trans c) (by decide))
          refine lv_aload_n hx hb dX5_away_109 rfl (lv_at hl 1 rfl) ?_
          refine md_get E hin hM 13 (by decide) (by decide +kernel) rfl dX5_away_110 ?_
          refine md_put (S' := md_s (md_s (md_s S 0 (S.2 0)) 2 (-1)) 3 ((md_s (md_s S 0 (S.2 0)) 2 (-1)).2 3)) E hin hM 13 (by decide) (by decide +kernel) rfl rfl rfl rfl dX5_away_113 (fun H locs hM => ?_)
          have hM : bx_M D A s (md_w t.1 h a (md_s (md_s (md_s S 0 (S.2 0)) 2 (-1)) 3 ((md_s (md_s S 0 (S.2 0)) 2 (-1)).2 3)) ++ Z) H locs := hM
          refine lv_iload_n hx hb dX5_away_116 rfl (lv_at hl 0 rfl) ?_
          refine lv_if_eq (tgt := 124) hx hb dX5_away_117 (by decide) (fun _ => ?_) (fun c => absurd c (by decide))
          refine lv_iconst (v := 0) hx hb dX5_away_124 (by decide) ?_
          exact bx_reti E hr hlk hM (md_s (md_s (md_s S 0 (S.2 0)) 2 (-1)) 3 ((md_s (md_s S 0 (S.2 0)) 2 (-1)).2 3)) rfl (by subst c_33; first | (simp [mf_away, hp_3, c_12, c_41]; done) | (simp [mf_away, hp_3, c_12, c_41]; rfl)) dX5_away_125
        · refine lv_iconst (v := 1) hx hb dX5_away_44 (by decide) ?_
          refine lv_goto (tgt := 65) hx hb dX5_away_45 (by decide) ?_
          refine lv_istore_n (lv' := [(2, .int 1), (0, .ref h), (1, .int p0)]) hx hb dX5_away_65 rfl hl (by decide) rfl (fun ls hl => ?_)
          refine lv_aload_n hx hb dX5_away_66 rfl (lv_at hl 1 rfl) ?_
          refine lv_iload_n hx hb dX5_away_67 rfl (lv_at hl 2 rfl) ?_
          refine lv_if_ne (tgt := 75) hx hb dX5_away_68 (by decide) (fun _ => ?_) (fun c => absurd c c_12)
          refine lv_aload_n hx hb dX5_away_75 rfl (lv_at hl 1 rfl) ?_
          refine md_get E hin hM 8 (by decide) (by decide +kernel) rfl dX5_away_76 ?_
          refine md_put (S' := md_s S 0 (S.2 0)) E hin hM 8 (by decide) (by decide +kernel) rfl rfl rfl rfl dX5_away_79 (fun H locs hM => ?_)
          have hM : bx_M D A s (md_w t.1 h a (md_s S 0 (S.2 0)) ++ Z) H locs := hM
          refine lv_aload_n hx hb dX5_away_82 rfl (lv_at hl 1 rfl) ?_
          refine lv_iload_n hx hb dX5_away_83 rfl (lv_at hl 2 rfl) ?_
          refine lv_iconst (v := 1) hx hb dX5_away_84 (by decide) ?_
          refine lv_icmp_ne (tgt := 92) hx hb dX5_away_85 (by decide) (fun c => absurd c_33 c) (fun _ => ?_)
          refine lv_iconst (v := (-1)) hx hb dX5_away_88 (by decide) ?_
          refine lv_goto (tgt := 96) hx hb dX5_away_89 (by decide) ?_
          refine md_put (S' := md_s (md_s S 0 (S.2 0)) 2 (-1)) E hin hM 11 (by decide) (by decide +kernel) rfl rfl rfl rfl dX5_away_96 (fun H locs hM => ?_)
          have hM : bx_M D A s (md_w t.1 h a (md_s (md_s S 0 (S.2 0)) 2 (-1)) ++ Z) H locs := hM
          refine lv_aload_n hx hb dX5_away_99 rfl (lv_at hl 1 rfl) ?_
          refine lv_iload_n hx hb dX5_away_100 rfl (lv_at hl 2 rfl) ?_
          refine lv_iconst (v := 2) hx hb dX5_away_101 (by decide) ?_
          refine lv_icmp_ne (tgt := 109) hx hb dX5_away_102 (by decide) (fun _ => ?_) (fun c => absurd (c_33.symm.trans c) (by decide))
          refine lv_aload_n hx hb dX5_away_109 rfl (lv_at hl 1 rfl) ?_
          refine md_get E hin hM 13 (by decide) (by decide +kernel) rfl dX5_away_110 ?_
          refine md_put (S' := md_s (md_s (md_s S 0 (S.2 0)) 2 (-1)) 3 ((md_s (md_s S 0 (S.2 0)) 2 (-1)).2 3)) E hin hM 13 (by decide) (by decide +kernel) rfl rfl rfl rfl dX5_away_113 (fun H locs hM => ?_)
          have hM : bx_M D A s (md_w t.1 h a (md_s (md_s (md_s S 0 (S.2 0)) 2 (-1)) 3 ((md_s (md_s S 0 (S.2 0)) 2 (-1)).2 3)) ++ Z) H locs := hM
          refine lv_iload_n hx hb dX5_away_116 rfl (lv_at hl 0 rfl) ?_
          refine lv_if_eq (tgt := 124) hx hb dX5_away_117 (by decide) (fun c => absurd c (by decide)) (fun _ => ?_)
          refine lv_iconst (v := 1) hx hb dX5_away_120 (by decide) ?_
          refine lv_goto (tgt := 125) hx hb dX5_away_121 (by decide) ?_
          exact bx_reti E hr hlk hM (md_s (md_s (md_s S 0 (S.2 0)) 2 (-1)) 3 ((md_s (md_s S 0 (S.2 0)) 2 (-1)).2 3)) rfl (by subst c_33; first | (simp [mf_away, hp_3, c_12, c_41]; done) | (simp [mf_away, hp_3, c_12, c_41]; rfl)) dX5_away_125
    · refine lv_aload_n hx hb dX5_away_15 rfl (lv_at hl 0 rfl) ?_
      refine md_get E hin hM 8 (by decide) (by decide +kernel) rfl dX5_away_16 ?_
      refine lv_iconst (v := (-1)) hx hb dX5_away_19 (by decide) ?_
      refine lv_icmp_eq (tgt := 27) hx hb dX5_away_20 (by decide) (fun c_20 => ?_) (fun c_20 => ?_)
      · refine lv_iconst (v := 0) hx hb dX5_away_27 (by decide) ?_
        refine lv_goto (tgt := 65) hx hb dX5_away_28 (by decide) ?_
        refine lv_istore_n (lv' := [(2, .int 0), (0, .ref h), (1, .int p0)]) hx hb dX5_away_65 rfl hl (by decide) rfl (fun ls hl => ?_)
        refine lv_aload_n hx hb dX5_away_66 rfl (lv_at hl 1 rfl) ?_
        refine lv_iload_n hx hb dX5_away_67 rfl (lv_at hl 2 rfl) ?_
        refine lv_if_ne (tgt := 75) hx hb dX5_away_68 (by decide) (fun c => absurd c_12 c) (fun _ => ?_)
        refine lv_iconst (v := (-1)) hx hb dX5_away_71 (by decide) ?_
        refine lv_goto (tgt := 79) hx hb dX5_away_72 (by decide) ?_
        refine md_put (S' := md_s S 0 (-1)) E hin hM 8 (by decide) (by decide +kernel) rfl rfl rfl rfl dX5_away_79 (fun H locs hM => ?_)
        have hM : bx_M D A s (md_w t.1 h a (md_s S 0 (-1)) ++ Z) H locs := hM
        refine lv_aload_n hx hb dX5_away_82 rfl (lv_at hl 1 rfl) ?_
        refine lv_iload_n hx hb dX5_away_83 rfl (lv_at hl 2 rfl) ?_
        refine lv_iconst (v := 1) hx hb dX5_away_84 (by decide) ?_
        refine lv_icmp_ne (tgt := 92) hx hb dX5_away_85 (by decide) (fun _ => ?_) (fun c => absurd (c_12.symm.trans c) (by decide))
        refine lv_aload_n hx hb dX5_away_92 rfl (lv_at hl 1 rfl) ?_
        refine md_get E hin hM 11 (by decide) (by decide +kernel) rfl dX5_away_93 ?_
        refine md_put (S' := md_s (md_s S 0 (-1)) 2 ((md_s S 0 (-1)).2 2)) E hin hM 11 (by decide) (by decide +kernel) rfl rfl rfl rfl dX5_away_96 (fun H locs hM => ?_)
        have hM : bx_M D A s (md_w t.1 h a (md_s (md_s S 0 (-1)) 2 ((md_s S 0 (-1)).2 2)) ++ Z) H locs := hM
        refine lv_aload_n hx hb dX5_away_99 rfl (lv_at hl 1 rfl) ?_
        refine lv_iload_n hx hb dX5_away_100 rfl (lv_at hl 2 rfl) ?_
        refine lv_iconst (v := 2) hx hb dX5_away_101 (by decide) ?_
        refine lv_icmp_ne (tgt := 109) hx hb dX5_away_102 (by decide) (fun _ => ?_) (fun c => absurd (c_12.symm.trans c) (by decide))
        refine lv_aload_n hx hb dX5_away_109 rfl (lv_at hl 1 rfl) ?_
        refine md_get E hin hM 13 (by decide) (by decide +kernel) rfl dX5_away_110 ?_
        refine md_put (S' := md_s (md_s (md_s S 0 (-1)) 2 ((md_s S 0 (-1)).2 2)) 3 ((md_s (md_s S 0 (-1)) 2 ((md_s S 0 (-1)).2 2)).2 3)) E hin hM 13 (by decide) (by decide +kernel) rfl rfl rfl rfl dX5_away_113 (fun H locs hM => ?_)
        have hM : bx_M D A s (md_w t.1 h a (md_s (md_s (md_s S 0 (-1)) 2 ((md_s S 0 (-1)).2 2)) 3 ((md_s (md_s S 0 (-1)) 2 ((md_s S 0 (-1)).2 2)).2 3)) ++ Z) H locs := hM
        refine lv_iload_n hx hb dX5_away_116 rfl (lv_at hl 0 rfl) ?_
        refine lv_if_eq (tgt := 124) hx hb dX5_away_117 (by decide) (fun _ => ?_) (fun c => absurd c (by decide))
        refine lv_iconst (v := 0) hx hb dX5_away_124 (by decide) ?_
        exact bx_reti E hr hlk hM (md_s (md_s (md_s S 0 (-1)) 2 ((md_s S 0 (-1)).2 2)) 3 ((md_s (md_s S 0 (-1)) 2 ((md_s S 0 (-1)).2 2)).2 3)) rfl (by subst c_12; first | (simp [mf_away, hp_3, c_20]; done) | (simp [mf_away, hp_3, c_20]; rfl)) dX5_away_125
      · refine lv_iconst (v := 1) hx hb dX5_away_23 (by decide) ?_
        refine lv_goto (tgt := 65) hx hb dX5_away_24 (by decide) ?_
        refine lv_istore_n (lv' := [(2, .int 1), (0, .ref h), (1, .int p0)]) hx hb dX5_away_65 rfl hl (by decide) rfl (fun ls hl => ?_)
        refine lv_aload_n hx hb dX5_away_66 rfl (lv_at hl 1 rfl) ?_
        refine lv_iload_n hx hb dX5_away_67 rfl (lv_at hl 2 rfl) ?_
        refine lv_if_ne (tgt := 75) hx hb dX5_away_68 (by decide) (fun c => absurd c_12 c) (fun _ => ?_)
        refine lv_iconst (v := (-1)) hx hb dX5_away_71 (by decide) ?_
        refine lv_goto (tgt := 79) hx hb dX5_away_72 (by decide) ?_
        refine md_put (S' := md_s S 0 (-1)) E hin hM 8 (by decide) (by decide +kernel) rfl rfl rfl rfl dX5_away_79 (fun H locs hM => ?_)
        have hM : bx_M D A s (md_w t.1 h a (md_s S 0 (-1)) ++ Z) H locs := hM
        refine lv_aload_n hx hb dX5_away_82 rfl (lv_at hl 1 rfl) ?_
        refine lv_iload_n hx hb dX5_away_83 rfl (lv_at hl 2 rfl) ?_
        refine lv_iconst (v := 1) hx hb dX5_away_84 (by decide) ?_
        refine lv_icmp_ne (tgt := 92) hx hb dX5_away_85 (by decide) (fun _ => ?_) (fun c => absurd (c_12.symm.trans c) (by decide))
        refine lv_aload_n hx hb dX5_away_92 rfl (lv_at hl 1 rfl) ?_
        refine md_get E hin hM 11 (by decide) (by decide +kernel) rfl dX5_away_93 ?_
        refine md_put (S' := md_s (md_s S 0 (-1)) 2 ((md_s S 0 (-1)).2 2)) E hin hM 11 (by decide) (by decide +kernel) rfl rfl rfl rfl dX5_away_96 (fun H locs hM => ?_)
        have hM : bx_M D A s (md_w t.1 h a (md_s (md_s S 0 (-1)) 2 ((md_s S 0 (-1)).2 2)) ++ Z) H locs := hM
        refine lv_aload_n hx hb dX5_away_99 rfl (lv_at hl 1 rfl) ?_
        refine lv_iload_n hx hb dX5_away_100 rfl (lv_at hl 2 rfl) ?_
        refine lv_iconst (v := 2) hx hb dX5_away_101 (by decide) ?_
        refine lv_icmp_ne (tgt := 109) hx hb dX5_away_102 (by decide) (fun _ => ?_) (fun c => absurd (c_12.symm.trans c) (by decide))
        refine lv_aload_n hx hb dX5_away_109 rfl (lv_at hl 1 rfl) ?_
        refine md_get E hin hM 13 (by decide) (by decide +kernel) rfl dX5_away_110 ?_
        refine md_put (S' := md_s (md_s (md_s S 0 (-1)) 2 ((md_s S 0 (-1)).2 2)) 3 ((md_s (md_s S 0 (-1)) 2 ((md_s S 0 (-1)).2 2)).2 3)) E hin hM 13 (by decide) (by decide +kernel) rfl rfl rfl rfl dX5_away_113 (fun H locs hM => ?_)
        have hM : bx_M D A s (md_w t.1 h a (md_s (md_s (md_s S 0 (-1)) 2 ((md_s S 0 (-1)).2 2)) 3 ((md_s (md_s S 0 (-1)) 2 ((md_s S 0 (-1)).2 2)).2 3)) ++ Z) H locs := hM
        refine lv_iload_n hx hb dX5_away_116 rfl (lv_at hl 0 rfl) ?_
        refine lv_if_eq (tgt := 124) hx hb dX5_away_117 (by decide) (fun c => absurd c (by decide)) (fun _ => ?_)
        refine lv_iconst (v := 1) hx hb dX5_away_120 (by decide) ?_
        refine lv_goto (tgt := 125) hx hb dX5_away_121 (by decide) ?_
        exact bx_reti E hr hlk hM (md_s (md_s (md_s S 0 (-1)) 2 ((md_s S 0 (-1)).2 2)) 3 ((md_s (md_s S 0 (-1)) 2 ((md_s S 0 (-1)).2 2)).2 3)) rfl (by subst c_12; first | (simp [mf_away, hp_3, c_20]; done) | (simp [mf_away, hp_3, c_20]; rfl)) dX5_away_125
  · have hM : bx_M D A s (md_w t.1 h a S ++ Z) H locs := hM
    refine lv_if_ne (tgt := 11) hx hb dX5_away_6 (by decide) (fun c => absurd c (by decide)) (fun _ => ?_)
    refine lv_iconst (v := (-1)) hx hb dX5_away_9 (by decide) ?_
    exact bx_reti E hr hlk hM S rfl (by first | (simp [mf_away, hp_3]; done) | (simp [mf_away, hp_3]; rfl) | (simp [mf_away, md_s, va_up, hp_3]; done)) dX5_away_10

set_option maxHeartbeats 4000000 in
set_option maxRecDepth 100000 in
theorem cX5c_about (l : Launch) (D : va_G) (t : bx_T) (A : Nat → Prop) (h : Nat) (a : Nat → Nat) (S : md_S) (Z : va_W) (p0 p1 : Int32) (hI : md_I S) : bx_Ci l yX5_about wsX5_about ({ frames := 2, cells := 0, slots := 0, locals := 42 }) D t A [.ref h, .int p0, .int p1] (md_w t.1 h a S ++ Z) (fun (r : Int32) (u : md_S) => r = (mf_about S p0 p1).1 ∧ u = (mf_about S p0 p1).2) (fun u => md_w t.1 h a u ++ Z) 0 0 := by
  refine bx_enter (cc := cX5_about) (maxL := 5) (ret := some .int) (by decide) rfl (Nat.le_of_ble_eq_true rfl) ?_
  intro p e s m below meth c ls E hr hlk hnm hM hl
  have hl : lv_has ls 5 [(0, .ref h), (1, .int p0), (2, .int p1)] := hl
  have hx := E.1.1
  have hb := E.1.2.1
  have hin : ∀ w ∈ wsX50, w ∈ wsX5_about := by decide +kernel
  refine lv_iload_n hx hb dX5_about_0 rfl (lv_at hl 1 rfl) ?_
  refine bx_goi hM (bx_runS (As := [.int p0]) (rest := []) E hM (cX5c_isHook l D t A (md_w t.1 h a S ++ Z) p0) 1 gX5_about_X5_isHook rfl rfl rfl (by decide +kernel) ⟨Nat.le_of_ble_eq_true rfl, Nat.le_of_ble_eq_true rfl⟩ rfl hl.1 rfl (Nat.le_of_ble_eq_true rfl) dX5_about_1 ⟨Nat.le_of_ble_eq_true rfl, Nat.le_of_ble_eq_true rfl⟩) (fun r u H locs hp hM => ?_)
  rcases hp with ⟨rfl, hp_1⟩ | ⟨rfl, hp_1⟩
  · have hM : bx_M D A s (md_w t.1 h a S ++ Z) H locs := hM
    refine lv_if_eq (tgt := 16) hx hb dX5_about_4 (by decide) (fun c => absurd c (by decide)) (fun _ => ?_)
    refine lv_iload_n hx hb dX5_about_7 rfl (lv_at hl 2 rfl) ?_
    refine lv_iconst (v := 0) hx hb dX5_about_8 (by decide) ?_
    refine lv_iconst (v := 5) hx hb dX5_about_9 (by decide) ?_
    refine bx_goi hM (bx_runS (As := [.int p1, .int 0, .int 5]) (rest := []) E hM (cX5c_in l D t A (md_w t.1 h a S ++ Z) p1 0 5) 3 gX5_about_X5_in rfl rfl rfl (by decide +kernel) ⟨Nat.le_of_ble_eq_true rfl, Nat.le_of_ble_eq_true rfl⟩ rfl hl.1 rfl (Nat.le_of_ble_eq_true rfl) dX5_about_10 ⟨Nat.le_of_ble_eq_true rfl, Nat.le_of_ble_eq_true rfl⟩) (fun r u H locs hp hM => ?_)
    rcases hp with ⟨rfl, hp_10⟩ | ⟨rfl, hp_10⟩
    · have hM : bx_M D A s (md_w t.1 h a S ++ Z) H locs := hM
      refine lv_if_ne (tgt := 18) hx hb dX5_about_13 (by decide) (fun _ => ?_) (fun c => absurd c (by decide))
      refine lv_aload_n hx hb dX5_about_18 rfl (lv_at hl 0 rfl) ?_
      refine md_get E hin hM 7 (by decide) (by decide +kernel) rfl dX5_about_19 ?_
      refine lv_iload_n hx hb dX5_about_22 rfl (lv_at hl 1 rfl) ?_
      refine md_ald E hM 7 (by decide) (md_hk hp_1) dX5_about_23 ?_
      refine lv_istore_n (lv' := [(3, .int (S.1 7 p0.toNatClampNeg)), (0, .ref h), (1, .int p0), (2, .int p1)]) hx hb dX5_about_24 rfl hl (by decide) rfl (fun ls hl => ?_)
      refine lv_iload_n hx hb dX5_about_25 rfl (lv_at hl 0 rfl) ?_
      refine lv_iconst (v := (-1)) hx hb dX5_about_26 (by decide) ?_
      refine lv_icmp_ne (tgt := 32) hx hb dX5_about_27 (by decide) (fun c_27 => ?_) (fun c_27 => ?_)
      · refine lv_aload_n hx hb dX5_about_32 rfl (lv_at hl 1 rfl) ?_
        refine md_get E hin hM 0 (by decide) (by decide +kernel) rfl dX5_about_33 ?_
        refine lv_iload_n hx hb dX5_about_36 rfl (lv_at hl 0 rfl) ?_
        refine md_ald E hM 0 (by decide) (hI.hook hp_1 c_27) dX5_about_37 ?_
        refine lv_iconst (v := 3) hx hb dX5_about_38 (by decide) ?_
        refine lv_icmp_eq (tgt := 46) hx hb dX5_about_39 (by decide) (fun c_39 => ?_) (fun c_39 => ?_)
        · refine lv_iconst (v := 0) hx hb dX5_about_46 (by decide) ?_
          refine lv_istore (lv' := [(4, .int 0), (3, .int (S.1 7 p0.toNatClampNeg)), (0, .ref h), (1, .int p0), (2, .int p1)]) hx hb dX5_about_47 hl (by decide) rfl (fun ls hl => ?_)
          refine lv_iload_n hx hb dX5_about_49 rfl (lv_at hl 4 rfl) ?_
          by_cases c_50_0 : p1 = 0
          · refine lv_tableIn (tgt := 84) hx hb dX5_about_50 (by rw [c_50_0]; decide) (by rw [c_50_0]; decide) (by rw [c_50_0]; rfl) (by decide) ?_
            refine lv_aload_n hx hb dX5_about_84 rfl (lv_at hl 2 rfl) ?_
            refine md_get E hin hM 0 (by decide) (by decide +kernel) rfl dX5_about_85 ?_
            refine lv_iload_n hx hb dX5_about_88 rfl (lv_at hl 1 rfl) ?_
            refine md_ald E hM 0 (by decide) (hI.hook hp_1 c_27) dX5_about_89 ?_
            exact bx_reti E hr hlk hM S rfl (by subst c_50_0; first | (simp [mf_about, hp_1, hp_10, c_27, c_39]; done) | (simp [mf_about, hp_1, hp_10, c_27, c_39]; rfl)) dX5_about_90
          by_cases c_50_1 : p1 = 1
          · refine lv_tableIn (tgt := 91) hx hb dX5_about_50 (by rw [c_50_1]; decide) (by rw [c_50_1]; decide) (by rw [c_50_1]; rfl) (by decide) ?_
            refine lv_aload_n hx hb dX5_about_91 rfl (lv_at hl 2 rfl) ?_
            refine md_get E hin hM 1 (by decide) (by decide +kernel) rfl dX5_about_92 ?_
            refine lv_iload_n hx hb dX5_about_95 rfl (lv_at hl 1 rfl) ?_
            refine md_ald E hM 1 (by decide) (hI.hook hp_1 c_27) dX5_about_96 ?_
            exact bx_reti E hr hlk hM S rfl (by subst c_50_1; first | (simp [mf_about, hp_1, hp_10, c_27, c_39, c_50_0]; done) | (simp [mf_about, hp_1, hp_10, c_27, c_39, c_50_0]; rfl)) dX5_about_97
          by_cases c_50_2 : p1 = 2
          · refine lv_tableIn (tgt := 98) hx hb dX5_about_50 (by rw [c_50_2]; decide) (by rw [c_50_2]; decide) (by rw [c_50_2]; rfl) (by decide) ?_
            refine lv_aload_n hx hb dX5_about_98 rfl (lv_at hl 2 rfl) ?_
            refine md_get E hin hM 2 (by decide) (by decide +kernel) rfl dX5_about_99 ?_
            refine lv_iload_n hx hb dX5_about_102 rfl (lv_at hl 1 rfl) ?_
            refine md_ald E hM 2 (by decide) (hI.hook hp_1 c_27) dX5_about_103 ?_
            exact bx_reti E hr hlk hM S rfl (by subst c_50_2; first | (simp [mf_about, hp_1, hp_10, c_27, c_39, c_50_0, c_50_1]; done) | (simp [mf_about, hp_1, hp_10, c_27, c_39, c_50_0, c_50_1]; rfl)) dX5_about_104
          by_cases c_50_3 : p1 = 3
          · refine lv_tableIn (tgt := 105) hx hb dX5_about_50 (by rw [c_50_3]; decide) (by rw [c_50_3]; decide) (by rw [c_50_3]; rfl) (by decide) ?_
            refine lv_aload_n hx hb dX5_about_105 rfl (lv_at hl 2 rfl) ?_
            refine md_get E hin hM 5 (by decide) (by decide +kernel) rfl dX5_about_106 ?_
            refine lv_iload_n hx hb dX5_about_109 rfl (lv_at hl 1 rfl) ?_
            refine md_ald E hM 5 (by decide) (hI.hook hp_1 c_27) dX5_about_110 ?_
            exact bx_reti E hr hlk hM S rfl (by subst c_50_3; first | (simp [mf_about, hp_1, hp_10, c_27, c_39, c_50_0, c_50_1, c_50_2]; done) | (simp [mf_about, hp_1, hp_10, c_27, c_39, c_50_0, c_50_1, c_50_2]; rfl)) dX5_about_111
          by_cases c_50_4 : p1 = 4
          · refine lv_tableIn (tgt := 112) hx hb dX5_about_50 (by rw [c_50_4]; decide) (by rw [c_50_4]; decide) (by rw [c_50_4]; rfl) (by decide) ?_
            refine lv_iload hx hb dX5_about_112 (lv_at hl 0 rfl) ?_
            refine lv_if_ne (tgt := 126) hx hb dX5_about_114 (by decide) (fun c => absurd c (by decide)) (fun _ => ?_)
            refine lv_aload_n hx hb dX5_about_117 rfl (lv_at hl 2 rfl) ?_
            refine md_get E hin hM 6 (by decide) (by decide +kernel) rfl dX5_about_118 ?_
            refine lv_iload_n hx hb dX5_about_121 rfl (lv_at hl 1 rfl) ?_
            refine md_ald E hM 6 (by decide) (hI.hook hp_1 c_27) dX5_about_122 ?_
            refine lv_goto (tgt := 151) hx hb dX5_about_123 (by decide) ?_
            exact bx_reti E hr hlk hM S rfl (by subst c_50_4; first | (simp [mf_about, hp_1, hp_10, c_27, c_39, c_50_0, c_50_1, c_50_2, c_50_3]; done) | (simp [mf_about, hp_1, hp_10, c_27, c_39, c_50_0, c_50_1, c_50_2, c_50_3]; rfl)) dX5_about_151
          refine lv_tableOut (tgt := 152) hx hb dX5_about_50 (by have q0 := lv_neT c_50_0 (a := 0) (by decide); have q1 := lv_neT c_50_1 (a := 1) (by decide); have q2 := lv_neT c_50_2 (a := 2) (by decide); have q3 := lv_neT c_50_3 (a := 3) (by decide); have q4 := lv_neT c_50_4 (a := 4) (by decide); omega) (by decide) ?_
          refine lv_aload_n hx hb dX5_about_152 rfl (lv_at hl 2 rfl) ?_
          refine md_get E hin hM 4 (by decide) (by decide +kernel) rfl dX5_about_153 ?_
          refine lv_iload_n hx hb dX5_about_156 rfl (lv_at hl 1 rfl) ?_
          refine md_ald E hM 4 (by decide) (hI.hook hp_1 c_27) dX5_about_157 ?_
          exact bx_reti E hr hlk hM S rfl (by first | (simp [mf_about, hp_1, hp_10, c_27, c_39, c_50_0, c_50_1, c_50_2, c_50_3, c_50_4]; done) | (simp [mf_about, hp_1, hp_10, c_27, c_39, c_50_0, c_50_1, c_50_2, c_50_3, c_50_4]; rfl) | (simp [mf_about, md_s, va_up, hp_1, hp_10, c_27, c_39, c_50_0, c_50_1, c_50_2, c_50_3, c_50_4]; done)) dX5_about_158
        · refine lv_iconst (v := 1) hx hb dX5_about_42 (by decide) ?_
          refine lv_goto (tgt := 47) hx hb dX5_about_43 (by decide) ?_
          refine lv_istore (lv' := [(4, .int 1), (3, .int (S.1 7 p0.toNatClampNeg)), (0, .ref h), (1, .int p0), (2, .int p1)]) hx hb dX5_about_47 hl (by decide) rfl (fun ls hl => ?_)
          refine lv_iload_n hx hb dX5_about_49 rfl (lv_at hl 4 rfl) ?_
          by_cases c_50_0 : p1 = 0
          · refine lv_tableIn (tgt := 84) hx hb dX5_about_50 (by rw [c_50_0]; decide) (by rw [c_50_0]; decide) (by rw [c_50_0]; rfl) (by decide) ?_
            refine lv_aload_n hx hb dX5_about_84 rfl (lv_at hl 2 rfl) ?_
            refine md_get E hin hM 0 (by decide) (by decide +kernel) rfl dX5_about_85 ?_
            refine lv_iload_n hx hb dX5_about_88 rfl (lv_at hl 1 rfl) ?_
            refine md_ald E hM 0 (by decide) (hI.hook hp_1 c_27) dX5_about_89 ?_
            exact bx_reti E hr hlk hM S rfl (by subst c_50_0; first | (simp [mf_about, hp_1, hp_10, c_27, c_39]; done) | (simp [mf_about, hp_1, hp_10, c_27, c_39]; rfl)) dX5_about_90
          by_cases c_50_1 : p1 = 1
          · refine lv_tableIn (tgt := 91) hx hb dX5_about_50 (by rw [c_50_1]; decide) (by rw [c_50_1]; decide) (by rw [c_50_1]; rfl) (by decide) ?_
            refine lv_aload_n hx hb dX5_about_91 rfl (lv_at hl 2 rfl) ?_
            refine md_get E hin hM 1 (by decide) (by decide +kernel) rfl dX5_about_92 ?_
            refine lv_iload_n hx hb dX5_about_95 rfl (lv_at hl 1 rfl) ?_
            refine md_ald E hM 1 (by decide) (hI.hook hp_1 c_27) dX5_about_96 ?_
            exact bx_reti E hr hlk hM S rfl (by subst c_50_1; first | (simp [mf_about, hp_1, hp_10, c_27, c_39, c_50_0]; done) | (simp [mf_about, hp_1, hp_10, c_27, c_39, c_50_0]; rfl)) dX5_about_97
          by_cases c_50_2 : p1 = 2
          · refine lv_tableIn (tgt := 98) hx hb dX5_about_50 (by rw [c_50_2]; decide) (by rw [c_50_2]; decide) (by rw [c_50_2]; rfl) (by decide) ?_
            refine lv_aload_n hx hb dX5_about_98 rfl (lv_at hl 2 rfl) ?_
            refine md_get E hin hM 2 (by decide) (by decide +kernel) rfl dX5_about_99 ?_
            refine lv_iload_n hx hb dX5_about_102 rfl (lv_at hl 1 rfl) ?_
            refine md_ald E hM 2 (by decide) (hI.hook hp_1 c_27) dX5_about_103 ?_
            exact bx_reti E hr hlk hM S rfl (by subst c_50_2; first | (simp [mf_about, hp_1, hp_10, c_27, c_39, c_50_0, c_50_1]; done) | (simp [mf_about, hp_1, hp_10, c_27, c_39, c_50_0, c_50_1]; rfl)) dX5_about_104
          by_cases c_50_3 : p1 = 3
          · refine lv_tableIn (tgt := 105) hx hb dX5_about_50 (by rw [c_50_3]; decide) (by rw [c_50_3]; decide) (by rw [c_50_3]; rfl) (by decide) ?_
            refine lv_aload_n hx hb dX5_about_105 rfl (lv_at hl 2 rfl) ?_
            refine md_get E hin hM 5 (by decide) (by decide +kernel) rfl dX5_about_106 ?_
            refine lv_iload_n hx hb dX5_about_109 rfl (lv_at hl 1 rfl) ?_
            refine md_ald E hM 5 (by decide) (hI.hook hp_1 c_27) dX5_about_110 ?_
            exact bx_reti E hr hlk hM S rfl (by subst c_50_3; first | (simp [mf_about, hp_1, hp_10, c_27, c_39, c_50_0, c_50_1, c_50_2]; done) | (simp [mf_about, hp_1, hp_10, c_27, c_39, c_50_0, c_50_1, c_50_2]; rfl)) dX5_about_111
          by_cases c_50_4 : p1 = 4
          · refine lv_tableIn (tgt := 112) hx hb dX5_about_50 (by rw [c_50_4]; decide) (by rw [c_50_4]; decide) (by rw [c_50_4]; rfl) (by decide) ?_
            refine lv_iload hx hb dX5_about_112 (lv_at hl 0 rfl) ?_
            refine lv_if_ne (tgt := 126) hx hb dX5_about_114 (by decide) (fun _ => ?_) (fun c => absurd c (by decide))
            refine lv_aload_n hx hb dX5_about_126 rfl (lv_at hl 2 rfl) ?_
            refine md_get E hin hM 3 (by decide) (by decide +kernel) rfl dX5_about_127 ?_
            refine lv_iload_n hx hb dX5_about_130 rfl (lv_at hl 1 rfl) ?_
            refine md_ald E hM 3 (by decide) (hI.hook hp_1 c_27) dX5_about_131 ?_
            refine lv_iconst (v := (-1)) hx hb dX5_about_132 (by decide) ?_
            refine lv_icmp_ne (tgt := 140) hx hb dX5_about_133 (by decide) (fun c_133 => ?_) (fun c_133 => ?_)
            · refine lv_aload_n hx hb dX5_about_140 rfl (lv_at hl 2 rfl) ?_
              refine md_get E hin hM 6 (by decide) (by decide +kernel) rfl dX5_about_141 ?_
              refine lv_aload_n hx hb dX5_about_144 rfl (lv_at hl 2 rfl) ?_
              refine md_get E hin hM 3 (by decide) (by decide +kernel) rfl dX5_about_145 ?_
              refine lv_iload_n hx hb dX5_about_148 rfl (lv_at hl 1 rfl) ?_
              refine md_ald E hM 3 (by decide) (hI.hook hp_1 c_27) dX5_about_149 ?_
              refine md_ald E hM 6 (by decide) (hI.clap (hI.hook hp_1 c_27) c_133) dX5_about_150 ?_
              exact bx_reti E hr hlk hM S rfl (by subst c_50_4; first | (simp [mf_about, hp_1, hp_10, c_27, c_39, c_50_0, c_50_1, c_50_2, c_50_3, c_133]; done) | (simp [mf_about, hp_1, hp_10, c_27, c_39, c_50_0, c_50_1, c_50_2, c_50_3, c_133]; rfl)) dX5_about_151
            · refine lv_iconst (v := 0) hx hb dX5_about_136 (by decide) ?_
              refine lv_goto (tgt := 151) hx hb dX5_about_137 (by decide) ?_
              exact bx_reti E hr hlk hM S rfl (by subst c_50_4; first | (simp [mf_about, hp_1, hp_10, c_27, c_39, c_50_0, c_50_1, c_50_2, c_50_3, c_133]; done) | (simp [mf_about, hp_1, hp_10, c_27, c_39, c_50_0, c_50_1, c_50_2, c_50_3, c_133]; rfl)) dX5_about_151
          refine lv_tableOut (tgt := 152) hx hb dX5_about_50 (by have q0 := lv_neT c_50_0 (a := 0) (by decide); have q1 := lv_neT c_50_1 (a := 1) (by decide); have q2 := lv_neT c_50_2 (a := 2) (by decide); have q3 := lv_neT c_50_3 (a := 3) (by decide); have q4 := lv_neT c_50_4 (a := 4) (by decide); omega) (by decide) ?_
          refine lv_aload_n hx hb dX5_about_152 rfl (lv_at hl 2 rfl) ?_
          refine md_get E hin hM 4 (by decide) (by decide +kernel) rfl dX5_about_153 ?_
          refine lv_iload_n hx hb dX5_about_156 rfl (lv_at hl 1 rfl) ?_
          refine md_ald E hM 4 (by decide) (hI.hook hp_1 c_27) dX5_about_157 ?_
          exact bx_reti E hr hlk hM S rfl (by first | (simp [mf_about, hp_1, hp_10, c_27, c_39, c_50_0, c_50_1, c_50_2, c_50_3, c_50_4]; done) | (simp [mf_about, hp_1, hp_10, c_27, c_39, c_50_0, c_50_1, c_50_2, c_50_3, c_50_4]; rfl) | (simp [mf_about, md_s, va_up, hp_1, hp_10, c_27, c_39, c_50_0, c_50_1, c_50_2, c_50_3, c_50_4]; done)) dX5_about_158
      · refine lv_iconst (v := 0) hx hb dX5_about_30 (by decide) ?_
        exact bx_reti E hr hlk hM S rfl (by first | (simp [mf_about, hp_1, hp_10, c_27]; done) | (simp [mf_about, hp_1, hp_10, c_27]; rfl) | (simp [mf_about, md_s, va_up, hp_1, hp_10, c_27]; done)) dX5_about_31
    · have hM : bx_M D A s (md_w t.1 h a S ++ Z) H locs := hM
      refine lv_if_ne (tgt := 18) hx hb dX5_about_13 (by decide) (fun c => absurd c (by decide)) (fun _ => ?_)
      refine lv_iconst (v := (-1)) hx hb dX5_about_16 (by decide) ?_
      exact bx_reti E hr hlk hM S rfl (by first | (simp [mf_about, hp_1, hp_10]; done) | (simp [mf_about, hp_1, hp_10]; rfl) | (simp [mf_about, md_s, va_up, hp_1, hp_10]; done)) dX5_about_17
  · have hM : bx_M D A s (md_w t.1 h a S ++ Z) H locs := hM
    refine lv_if_eq (tgt := 16) hx hb dX5_about_4 (by decide) (fun _ => ?_) (fun c => absurd c (by decide))
    refine lv_iconst (v := (-1)) hx hb dX5_about_16 (by decide) ?_
    exact bx_reti E hr hlk hM S rfl (by first | (simp [mf_about, hp_1]; done) | (simp [mf_about, hp_1]; rfl) | (simp [mf_about, md_s, va_up, hp_1]; done)) dX5_about_17

set_option maxHeartbeats 4000000 in
set_option maxRecDepth 100000 in
theorem cX5c_reasons (l : Launch) (D : va_G) (t : bx_T) (A : Nat → Prop) (h : Nat) (a : Nat → Nat) (S : md_S) (Z : va_W) (p0 : Int32) : bx_Ci l yX5_reasons wsX5_reasons ({ frames := 1, cells := 0, slots := 0, locals := 22 }) D t A [.ref h, .int p0] (md_w t.1 h a S ++ Z) (fun (r : Int32) (u : md_S) => r = (mf_reasons S p0).1 ∧ u = (mf_reasons S p0).2) (fun u => md_w t.1 h a u ++ Z) 0 0 := by
  refine bx_enter (cc := cX5_reasons) (maxL := 2) (ret := some .int) (by decide) rfl (Nat.le_of_ble_eq_true rfl) ?_
  intro p e s m below meth c ls E hr hlk hnm hM hl
  have hl : lv_has ls 2 [(0, .ref h), (1, .int p0)] := hl
  have hx := E.1.1
  have hb := E.1.2.1
  have hin : ∀ w ∈ wsX50, w ∈ wsX5_reasons := by decide +kernel
  refine lv_iload_n hx hb dX5_reasons_0 rfl (lv_at hl 1 rfl) ?_
  refine lv_iconst (v := 1) hx hb dX5_reasons_1 (by decide) ?_
  refine lv_bipush (v := 6) hx hb dX5_reasons_2 (by decide) ?_
  refine bx_goi hM (bx_runS (As := [.int p0, .int 1, .int 6]) (rest := []) E hM (cX5c_in l D t A (md_w t.1 h a S ++ Z) p0 1 6) 3 gX5_reasons_X5_in rfl rfl rfl (by decide +kernel) ⟨Nat.le_of_ble_eq_true rfl, Nat.le_of_ble_eq_true rfl⟩ rfl hl.1 rfl (Nat.le_of_ble_eq_true rfl) dX5_reasons_4 ⟨Nat.le_of_ble_eq_true rfl, Nat.le_of_ble_eq_true rfl⟩) (fun r u H locs hp hM => ?_)
  rcases hp with ⟨rfl, hp_4⟩ | ⟨rfl, hp_4⟩
  · have hM : bx_M D A s (md_w t.1 h a S ++ Z) H locs := hM
    refine lv_if_eq (tgt := 19) hx hb dX5_reasons_7 (by decide) (fun c => absurd c (by decide)) (fun _ => ?_)
    refine lv_aload_n hx hb dX5_reasons_10 rfl (lv_at hl 0 rfl) ?_
    refine md_get E hin hM 17 (by decide) (by decide +kernel) rfl dX5_reasons_11 ?_
    refine lv_iload_n hx hb dX5_reasons_14 rfl (lv_at hl 1 rfl) ?_
    refine md_ald E hM 11 (by decide) (vp_in16 hp_4) dX5_reasons_15 ?_
    refine lv_goto (tgt := 20) hx hb dX5_reasons_16 (by decide) ?_
    exact bx_reti E hr hlk hM S rfl (by first | (simp [mf_reasons, hp_4]; done) | (simp [mf_reasons, hp_4]; rfl) | (simp [mf_reasons, md_s, va_up, hp_4]; done)) dX5_reasons_20
  · have hM : bx_M D A s (md_w t.1 h a S ++ Z) H locs := hM
    refine lv_if_eq (tgt := 19) hx hb dX5_reasons_7 (by decide) (fun _ => ?_) (fun c => absurd c (by decide))
    refine lv_iconst (v := (-1)) hx hb dX5_reasons_19 (by decide) ?_
    exact bx_reti E hr hlk hM S rfl (by first | (simp [mf_reasons, hp_4]; done) | (simp [mf_reasons, hp_4]; rfl) | (simp [mf_reasons, md_s, va_up, hp_4]; done)) dX5_reasons_20
