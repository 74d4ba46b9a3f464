set_option maxHeartbeats 4000000 in
set_option maxRecDepth 100000 in
theorem bX4_lay (l : Launch) (D : va_G) (t : bx_T) (A : Nat → Prop) (h : Nat) (a : Nat → Nat) (B : bl_S) (Z : va_W) (p0 : Int32) (p1 : Int32) (hI : bl_I B) : bx_Ci l yX4_lay wsX4_lay ({ frames := 2, cells := 0, slots := 0, locals := 43 }) D t A [.ref h, .int p0, .int p1] (bl_w t h a B Z) (fun (r : Int32) (u : bl_S) => r = (bf_lay B p0 p1).1 ∧ u = (bf_lay B p0 p1).2) (fun u => bl_w t h a u Z) 0 0 := by
  refine bx_enter (cc := cX4_lay) (maxL := 4) (ret := some .int) (by decide) rfl (Nat.le_of_ble_eq_true rfl) ?_
  intro p e s m below meth c ls E hr hlk hnm hM hl
  have hl : lv_has ls 4 [(0, .ref h), (1, .int p0), (2, .int p1)] := hl
  have hx := E.1.1
  have hb := E.1.2.1
  have hin : ∀ w ∈ wsX40, w ∈ wsX4_lay := by decide +kernel
  refine lv_iload_n hx hb dX4_lay_0 rfl (lv_at hl 2 rfl) ?_
  refine bx_goi hM (bx_runS (As := [.int p1]) (rest := []) E hM (bX4_isHook l D t A (bl_w t h a B Z) p1) 1 gX4_lay_X4_isHook rfl rfl rfl (by decide +kernel) ⟨Nat.le_of_ble_eq_true rfl, Nat.le_of_ble_eq_true rfl⟩ rfl hl.1 rfl (Nat.le_of_ble_eq_true rfl) dX4_lay_1 ⟨Nat.le_of_ble_eq_true rfl, Nat.le_of_ble_eq_true rfl⟩) (fun r u H locs hp hM => ?_)
  rcases hp with ⟨rfl, hp_1⟩ | ⟨rfl, hp_1⟩
  · have hM : bx_M D A s (bl_w t h a B Z) H locs := hM
    refine lv_if_ne (tgt := 9) hx hb dX4_lay_4 (by decide) (fun _ => ?_) (fun c => absurd c (by decide))
    refine lv_aload_n hx hb dX4_lay_9 rfl (lv_at hl 0 rfl) ?_
    refine bl_get E hin hM 0 (by decide) (by decide +kernel) rfl dX4_lay_10 ?_
    refine lv_iload_n hx hb dX4_lay_13 rfl (lv_at hl 2 rfl) ?_
    refine bl_hk E hM (vp_inB hp_1 (by decide)) dX4_lay_14 (fun hq_14 => ?_) (fun y_14 hq_14 => ?_)
    · have hq_14 := hq_14
      refine lv_instN hx hb dX4_lay_15 ?_
      refine lv_if_eq (tgt := 27) hx hb dX4_lay_18 (by decide) (fun _ => ?_) (fun c => absurd c (by decide))
      refine lv_aload_n hx hb dX4_lay_27 rfl (lv_at hl 0 rfl) ?_
      refine bl_get E hin hM 2 (by decide) (by decide +kernel) rfl dX4_lay_28 ?_
      refine lv_iconst (v := (-1)) hx hb dX4_lay_31 (by decide) ?_
      refine lv_icmp_ne (tgt := 41) hx hb dX4_lay_32 (by decide) (fun c_32 => ?_) (fun c_32 => ?_)
      · refine lv_aload_n hx hb dX4_lay_41 rfl (lv_at hl 0 rfl) ?_
        refine lv_iload_n hx hb dX4_lay_42 rfl (lv_at hl 1 rfl) ?_
        refine bx_goi hM (bx_runV (As := [.int p0]) (rest := []) E hM (bX4_isPlace l D t A h a B Z p0) (bl_recv E hM) 1 gX4_lay_X4_isPlace rfl rfl rfl (by decide +kernel) ⟨Nat.le_of_ble_eq_true rfl, Nat.le_of_ble_eq_true rfl⟩ rfl hl.1 rfl (Nat.le_of_ble_eq_true rfl) dX4_lay_43 ⟨Nat.le_of_ble_eq_true rfl, Nat.le_of_ble_eq_true rfl⟩) (fun r u H locs hp hM => ?_)
        rcases hp with ⟨rfl, hp_43⟩ | ⟨rfl, hp_43⟩
        · have hM : bx_M D A s (bl_w t h a B Z) H locs := hM
          refine lv_if_ne (tgt := 55) hx hb dX4_lay_46 (by decide) (fun _ => ?_) (fun c => absurd c (by decide))
          refine lv_aload_n hx hb dX4_lay_55 rfl (lv_at hl 0 rfl) ?_
          refine bl_get E hin hM 0 (by decide) (by decide +kernel) rfl dX4_lay_56 ?_
          refine lv_iload_n hx hb dX4_lay_59 rfl (lv_at hl 2 rfl) ?_
          refine bl_hk E hM (vp_inB hp_1 (by decide)) dX4_lay_60 (fun _ => ?_) (fun y2 hy2 => absurd (hq_14.symm.trans hy2) (by simp))
          refine bx_goq hM (bx_runS (As := [.null]) (rest := []) E hM (bX4_bellOfN l D t A h a B Z) 1 gX4_lay_X4_bellOf rfl rfl rfl (by decide +kernel) ⟨Nat.le_of_ble_eq_true rfl, Nat.le_of_ble_eq_true rfl⟩ rfl hl.1 rfl (Nat.le_of_ble_eq_true rfl) dX4_lay_61 ⟨Nat.le_of_ble_eq_true rfl, Nat.le_of_ble_eq_true rfl⟩) (fun r u H locs hp hM => ?_)
          subst hp
          have hM : bx_M D A s (bl_w t h a B Z) H locs := hM
          refine lv_astore_nN (lv' := [(3, .null), (0, .ref h), (1, .int p0), (2, .int p1)]) hx hb dX4_lay_64 rfl hl (by decide) rfl (fun ls hl => ?_)
          refine lv_aload_n hx hb dX4_lay_65 rfl (lv_at hl 1 rfl) ?_
          refine bl_get E hin hM 3 (by decide) (by decide +kernel) rfl dX4_lay_66 ?_
          refine lv_if_eq (tgt := 89) hx hb dX4_lay_69 (by decide) (fun c_69 => ?_) (fun c_69 => ?_)
          · refine lv_aload_n hx hb dX4_lay_89 rfl (lv_at hl 1 rfl) ?_
            refine bl_get E hin hM 1 (by decide) (by decide +kernel) rfl dX4_lay_90 ?_
            refine lv_iload_n hx hb dX4_lay_93 rfl (lv_at hl 2 rfl) ?_
            refine lv_aload_nN hx hb dX4_lay_94 rfl (lv_at hl 0 rfl) ?_
            refine bl_plN E hM (bf_place hp_43) dX4_lay_95 (fun H locs hM => ?_)
            have hM : bx_M D A s (bl_w t h a (bl_ri B 1 p0.toNatClampNeg none) Z) H locs := hM
            refine lv_aload_nN hx hb dX4_lay_96 rfl (lv_at hl 0 rfl) ?_
            refine lv_ifnonnullN hx hb dX4_lay_97 ?_
            refine lv_iconst (v := 0) hx hb dX4_lay_100 (by decide) ?_
            refine lv_goto (tgt := 105) hx hb dX4_lay_101 (by decide) ?_
            exact bx_reti E hr hlk hM (bl_ri B 1 p0.toNatClampNeg none) rfl (by first | (simp [bf_lay, hp_1, hq_14, c_32, hp_43, c_69]; done) | (simp [bf_lay, hp_1, hq_14, c_32, hp_43, c_69]; rfl)) dX4_lay_105
          · refine lv_aload_nN hx hb dX4_lay_72 rfl (lv_at hl 0 rfl) ?_
            refine lv_ifnullN (tgt := 89) hx hb dX4_lay_73 (by decide) ?_
            refine lv_aload_n hx hb dX4_lay_89 rfl (lv_at hl 1 rfl) ?_
            refine bl_get E hin hM 1 (by decide) (by decide +kernel) rfl dX4_lay_90 ?_
            refine lv_iload_n hx hb dX4_lay_93 rfl (lv_at hl 2 rfl) ?_
            refine lv_aload_nN hx hb dX4_lay_94 rfl (lv_at hl 0 rfl) ?_
            refine bl_plN E hM (bf_place hp_43) dX4_lay_95 (fun H locs hM => ?_)
            have hM : bx_M D A s (bl_w t h a (bl_ri B 1 p0.toNatClampNeg none) Z) H locs := hM
            refine lv_aload_nN hx hb dX4_lay_96 rfl (lv_at hl 0 rfl) ?_
            refine lv_ifnonnullN hx hb dX4_lay_97 ?_
            refine lv_iconst (v := 0) hx hb dX4_lay_100 (by decide) ?_
            refine lv_goto (tgt := 105) hx hb dX4_lay_101 (by decide) ?_
            exact bx_reti E hr hlk hM (bl_ri B 1 p0.toNatClampNeg none) rfl (by first | (simp [bf_lay, hp_1, hq_14, c_32, hp_43, c_69]; done) | (simp [bf_lay, hp_1, hq_14, c_32, hp_43, c_69]; rfl)) dX4_lay_105
        · have hM : bx_M D A s (bl_w t h a B Z) H locs := hM
          refine lv_if_ne (tgt := 55) hx hb dX4_lay_46 (by decide) (fun c => absurd c (by decide)) (fun _ => ?_)
          refine lv_aload_n hx hb dX4_lay_49 rfl (lv_at hl 0 rfl) ?_
          refine lv_iconst (v := 5) hx hb dX4_lay_50 (by decide) ?_
          refine bx_goi hM (bx_runV (As := [.int 5]) (rest := []) E hM (bX4_tell l D t A h a B Z 5) (bl_recv E hM) 1 gX4_lay_X4_tell rfl rfl rfl (by decide +kernel) ⟨Nat.le_of_ble_eq_true rfl, Nat.le_of_ble_eq_true rfl⟩ rfl hl.1 rfl (Nat.le_of_ble_eq_true rfl) dX4_lay_51 ⟨Nat.le_of_ble_eq_true rfl, Nat.le_of_ble_eq_true rfl⟩) (fun r u H locs hp hM => ?_)
          obtain ⟨rfl, rfl⟩ := hp
          have hM : bx_M D A s (bl_w t h a (bf_tell B 5) Z) H locs := hM
          exact bx_reti E hr hlk hM (bf_tell B 5) rfl (by first | (simp [bf_lay, hp_1, hq_14, c_32, hp_43]; done) | (simp [bf_lay, hp_1, hq_14, c_32, hp_43]; rfl)) dX4_lay_54
      · refine lv_aload_n hx hb dX4_lay_35 rfl (lv_at hl 0 rfl) ?_
        refine lv_iconst (v := 1) hx hb dX4_lay_36 (by decide) ?_
        refine bx_goi hM (bx_runV (As := [.int 1]) (rest := []) E hM (bX4_tell l D t A h a B Z 1) (bl_recv E hM) 1 gX4_lay_X4_tell rfl rfl rfl (by decide +kernel) ⟨Nat.le_of_ble_eq_true rfl, Nat.le_of_ble_eq_true rfl⟩ rfl hl.1 rfl (Nat.le_of_ble_eq_true rfl) dX4_lay_37 ⟨Nat.le_of_ble_eq_true rfl, Nat.le_of_ble_eq_true rfl⟩) (fun r u H locs hp hM => ?_)
        obtain ⟨rfl, rfl⟩ := hp
        have hM : bx_M D A s (bl_w t h a (bf_tell B 1) Z) H locs := hM
        exact bx_reti E hr hlk hM (bf_tell B 1) rfl (by first | (simp [bf_lay, hp_1, hq_14, c_32]; done) | (simp [bf_lay, hp_1, hq_14, c_32]; rfl)) dX4_lay_40
    · have hm_y_14 := hI.1 _ (vp_lt (vp_inB (n := 10) hp_1 (by decide))) y_14 hq_14
      refine bl_inC E hM hm_y_14 (by decide +kernel) dX4_lay_15 (fun hk_15 => ?_) (fun hk_15 => ?_)
      · have hk_15 := hk_15
        refine lv_if_eq (tgt := 27) hx hb dX4_lay_18 (by decide) (fun c => absurd c (by decide)) (fun _ => ?_)
        refine lv_aload_n hx hb dX4_lay_21 rfl (lv_at hl 0 rfl) ?_
        refine lv_iconst (v := 2) hx hb dX4_lay_22 (by decide) ?_
        refine bx_goi hM (bx_runV (As := [.int 2]) (rest := []) E hM (bX4_tell l D t A h a B Z 2) (bl_recv E hM) 1 gX4_lay_X4_tell rfl rfl rfl (by decide +kernel) ⟨Nat.le_of_ble_eq_true rfl, Nat.le_of_ble_eq_true rfl⟩ rfl hl.1 rfl (Nat.le_of_ble_eq_true rfl) dX4_lay_23 ⟨Nat.le_of_ble_eq_true rfl, Nat.le_of_ble_eq_true rfl⟩) (fun r u H locs hp hM => ?_)
        obtain ⟨rfl, rfl⟩ := hp
        have hM : bx_M D A s (bl_w t h a (bf_tell B 2) Z) H locs := hM
        exact bx_reti E hr hlk hM (bf_tell B 2) rfl (by first | (simp [bf_lay, hp_1, hq_14, hk_15]; done) | (simp [bf_lay, hp_1, hq_14, hk_15]; rfl)) dX4_lay_26
      · have hk_15 := hk_15
        refine lv_if_eq (tgt := 27) hx hb dX4_lay_18 (by decide) (fun _ => ?_) (fun c => absurd c (by decide))
        refine lv_aload_n hx hb dX4_lay_27 rfl (lv_at hl 0 rfl) ?_
        refine bl_get E hin hM 2 (by decide) (by decide +kernel) rfl dX4_lay_28 ?_
        refine lv_iconst (v := (-1)) hx hb dX4_lay_31 (by decide) ?_
        refine lv_icmp_ne (tgt := 41) hx hb dX4_lay_32 (by decide) (fun c_32 => ?_) (fun c_32 => ?_)
        · refine lv_aload_n hx hb dX4_lay_41 rfl (lv_at hl 0 rfl) ?_
          refine lv_iload_n hx hb dX4_lay_42 rfl (lv_at hl 1 rfl) ?_
          refine bx_goi hM (bx_runV (As := [.int p0]) (rest := []) E hM (bX4_isPlace l D t A h a B Z p0) (bl_recv E hM) 1 gX4_lay_X4_isPlace rfl rfl rfl (by decide +kernel) ⟨Nat.le_of_ble_eq_true rfl, Nat.le_of_ble_eq_true rfl⟩ rfl hl.1 rfl (Nat.le_of_ble_eq_true rfl) dX4_lay_43 ⟨Nat.le_of_ble_eq_true rfl, Nat.le_of_ble_eq_true rfl⟩) (fun r u H locs hp hM => ?_)
          rcases hp with ⟨rfl, hp_43⟩ | ⟨rfl, hp_43⟩
          · have hM : bx_M D A s (bl_w t h a B Z) H locs := hM
            refine lv_if_ne (tgt := 55) hx hb dX4_lay_46 (by decide) (fun _ => ?_) (fun c => absurd c (by decide))
            refine lv_aload_n hx hb dX4_lay_55 rfl (lv_at hl 0 rfl) ?_
            refine bl_get E hin hM 0 (by decide) (by decide +kernel) rfl dX4_lay_56 ?_
            refine lv_iload_n hx hb dX4_lay_59 rfl (lv_at hl 2 rfl) ?_
            refine bl_hk E hM (vp_inB hp_1 (by decide)) dX4_lay_60 (fun hn => absurd (hq_14.symm.trans hn) (by simp)) (fun y2 hy2 => ?_)
            obtain rfl := Option.some.inj (hq_14.symm.trans hy2)
            refine bx_goq hM (bx_runS (As := [.ref y_14]) (rest := []) E hM (bX4_bellOfS l D t A h a B Z y_14 hm_y_14) 1 gX4_lay_X4_bellOf rfl rfl rfl (by decide +kernel) ⟨Nat.le_of_ble_eq_true rfl, Nat.le_of_ble_eq_true rfl⟩ rfl hl.1 rfl (Nat.le_of_ble_eq_true rfl) dX4_lay_61 ⟨Nat.le_of_ble_eq_true rfl, Nat.le_of_ble_eq_true rfl⟩) (fun r u H locs hp hM => ?_)
            rcases hp with ⟨rfl, hk_61⟩ | ⟨rfl, hk_61⟩
            · have hM : bx_M D A s (bl_w t h a B Z) H locs := hM
              refine lv_astore_n (lv' := [(3, .ref y_14), (0, .ref h), (1, .int p0), (2, .int p1)]) hx hb dX4_lay_64 rfl hl (by decide) rfl (fun ls hl => ?_)
              refine lv_aload_n hx hb dX4_lay_65 rfl (lv_at hl 1 rfl) ?_
              refine bl_get E hin hM 3 (by decide) (by decide +kernel) rfl dX4_lay_66 ?_
              refine lv_if_eq (tgt := 89) hx hb dX4_lay_69 (by decide) (fun c_69 => ?_) (fun c_69 => ?_)
              · refine lv_aload_n hx hb dX4_lay_89 rfl (lv_at hl 1 rfl) ?_
                refine bl_get E hin hM 1 (by decide) (by decide +kernel) rfl dX4_lay_90 ?_
                refine lv_iload_n hx hb dX4_lay_93 rfl (lv_at hl 2 rfl) ?_
                refine lv_aload_n hx hb dX4_lay_94 rfl (lv_at hl 0 rfl) ?_
                refine bl_plS E hM hm_y_14 hk_61 (bf_place hp_43) dX4_lay_95 (fun H locs hM => ?_)
                have hM : bx_M D A s (bl_w t h a (bl_ri B 1 p0.toNatClampNeg (some y_14)) Z) H locs := hM
                refine lv_aload_n hx hb dX4_lay_96 rfl (lv_at hl 0 rfl) ?_
                refine lv_ifnonnull (tgt := 104) hx hb dX4_lay_97 (by decide) ?_
                refine lv_iconst (v := 1) hx hb dX4_lay_104 (by decide) ?_
                exact bx_reti E hr hlk hM (bl_ri B 1 p0.toNatClampNeg (some y_14)) rfl (by first | (simp [bf_lay, hp_1, hq_14, hk_15, c_32, hp_43, hk_61, c_69]; done) | (simp [bf_lay, hp_1, hq_14, hk_15, c_32, hp_43, hk_61, c_69]; rfl)) dX4_lay_105
              · refine lv_aload_n hx hb dX4_lay_72 rfl (lv_at hl 0 rfl) ?_
                refine lv_ifnull hx hb dX4_lay_73 ?_
                refine lv_aload_n hx hb dX4_lay_76 rfl (lv_at hl 0 rfl) ?_
                refine bx_goq hM (bx_runS (As := [.ref y_14]) (rest := []) E hM (bX4_greatBellOfS l D t A h a B Z y_14 hm_y_14) 1 gX4_lay_X4_greatBellOf rfl rfl rfl (by decide +kernel) ⟨Nat.le_of_ble_eq_true rfl, Nat.le_of_ble_eq_true rfl⟩ rfl hl.1 rfl (Nat.le_of_ble_eq_true rfl) dX4_lay_77 ⟨Nat.le_of_ble_eq_true rfl, Nat.le_of_ble_eq_true rfl⟩) (fun r u H locs hp hM => ?_)
                rcases hp with ⟨rfl, hk_77⟩ | ⟨rfl, hk_77⟩
                · have hM : bx_M D A s (bl_w t h a B Z) H locs := hM
                  refine lv_ifnonnull (tgt := 89) hx hb dX4_lay_80 (by decide) ?_
                  refine lv_aload_n hx hb dX4_lay_89 rfl (lv_at hl 1 rfl) ?_
                  refine bl_get E hin hM 1 (by decide) (by decide +kernel) rfl dX4_lay_90 ?_
                  refine lv_iload_n hx hb dX4_lay_93 rfl (lv_at hl 2 rfl) ?_
                  refine lv_aload_n hx hb dX4_lay_94 rfl (lv_at hl 0 rfl) ?_
                  refine bl_plS E hM hm_y_14 (by rw [show bK B y_14 = 2 from hk_77]; decide) (bf_place hp_43) dX4_lay_95 (fun H locs hM => ?_)
                  have hM : bx_M D A s (bl_w t h a (bl_ri B 1 p0.toNatClampNeg (some y_14)) Z) H locs := hM
                  refine lv_aload_n hx hb dX4_lay_96 rfl (lv_at hl 0 rfl) ?_
                  refine lv_ifnonnull (tgt := 104) hx hb dX4_lay_97 (by decide) ?_
                  refine lv_iconst (v := 1) hx hb dX4_lay_104 (by decide) ?_
                  exact bx_reti E hr hlk hM (bl_ri B 1 p0.toNatClampNeg (some y_14)) rfl (by first | (simp [bf_lay, hp_1, hq_14, hk_15, c_32, hp_43, hk_61, c_69, hk_77]; done) | (simp [bf_lay, hp_1, hq_14, hk_15, c_32, hp_43, hk_61, c_69, hk_77]; rfl)) dX4_lay_105
                · have hM : bx_M D A s (bl_w t h a B Z) H locs := hM
                  refine lv_ifnonnullN hx hb dX4_lay_80 ?_
                  refine lv_aload_n hx hb dX4_lay_83 rfl (lv_at hl 1 rfl) ?_
                  refine lv_iconst (v := 3) hx hb dX4_lay_84 (by decide) ?_
                  refine bx_goi hM (bx_runV (As := [.int 3]) (rest := []) E hM (bX4_tell l D t A h a B Z 3) (bl_recv E hM) 1 gX4_lay_X4_tell rfl rfl rfl (by decide +kernel) ⟨Nat.le_of_ble_eq_true rfl, Nat.le_of_ble_eq_true rfl⟩ rfl hl.1 rfl (Nat.le_of_ble_eq_true rfl) dX4_lay_85 ⟨Nat.le_of_ble_eq_true rfl, Nat.le_of_ble_eq_true rfl⟩) (fun r u H locs hp hM => ?_)
                  obtain ⟨rfl, rfl⟩ := hp
                  have hM : bx_M D A s (bl_w t h a (bf_tell B 3) Z) H locs := hM
                  exact bx_reti E hr hlk hM (bf_tell B 3) rfl (by first | (simp [bf_lay, hp_1, hq_14, hk_15, c_32, hp_43, hk_61, c_69, hk_77]; done) | (simp [bf_lay, hp_1, hq_14, hk_15, c_32, hp_43, hk_61, c_69, hk_77]; rfl)) dX4_lay_88
            · have hM : bx_M D A s (bl_w t h a B Z) H locs := hM
              exact absurd hk_61 hk_15
          · have hM : bx_M D A s (bl_w t h a B Z) H locs := hM
            refine lv_if_ne (tgt := 55) hx hb dX4_lay_46 (by decide) (fun c => absurd c (by decide)) (fun _ => ?_)
            refine lv_aload_n hx hb dX4_lay_49 rfl (lv_at hl 0 rfl) ?_
            refine lv_iconst (v := 5) hx hb dX4_lay_50 (by decide) ?_
            refine bx_goi hM (bx_runV (As := [.int 5]) (rest := []) E hM (bX4_tell l D t A h a B Z 5) (bl_recv E hM) 1 gX4_lay_X4_tell rfl rfl rfl (by decide +kernel) ⟨Nat.le_of_ble_eq_true rfl, Nat.le_of_ble_eq_true rfl⟩ rfl hl.1 rfl (Nat.le_of_ble_eq_true rfl) dX4_lay_51 ⟨Nat.le_of_ble_eq_true rfl, Nat.le_of_ble_eq_true rfl⟩) (fun r u H locs hp hM => ?_)
            obtain ⟨rfl, rfl⟩ := hp
            have hM : bx_M D A s (bl_w t h a (bf_tell B 5) Z) H locs := hM
            exact bx_reti E hr hlk hM (bf_tell B 5) rfl (by first | (simp [bf_lay, hp_1, hq_14, hk_15, c_32, hp_43]; done) | (simp [bf_lay, hp_1, hq_14, hk_15, c_32, hp_43]; rfl)) dX4_lay_54
        · refine lv_aload_n hx hb dX4_lay_35 rfl (lv_at hl 0 rfl) ?_
          refine lv_iconst (v := 1) hx hb dX4_lay_36 (by decide) ?_
          refine bx_goi hM (bx_runV (As := [.int 1]) (rest := []) E hM (bX4_tell l D t A h a B Z 1) (bl_recv E hM) 1 gX4_lay_X4_tell rfl rfl rfl (by decide +kernel) ⟨Nat.le_of_ble_eq_true rfl, Nat.le_of_ble_eq_true rfl⟩ rfl hl.1 rfl (Nat.le_of_ble_eq_true rfl) dX4_lay_37 ⟨Nat.le_of_ble_eq_true rfl, Nat.le_of_ble_eq_true rfl⟩) (fun r u H locs hp hM => ?_)
          obtain ⟨rfl, rfl⟩ := hp
          have hM : bx_M D A s (bl_w t h a (bf_tell B 1) Z) H locs := hM
          exact bx_reti E hr hlk hM (bf_tell B 1) rfl (by first | (simp [bf_lay, hp_1, hq_14, hk_15, c_32]; done) | (simp [bf_lay, hp_1, hq_14, hk_15, c_32]; rfl)) dX4_lay_40
  · have hM : bx_M D A s (bl_w t h a B Z) H locs := hM
    refine lv_if_ne (tgt := 9) hx hb dX4_lay_4 (by decide) (fun c => absurd c (by decide)) (fun _ => ?_)
    refine lv_iconst (v := (-1)) hx hb dX4_lay_7 (by decide) ?_
    exact bx_reti E hr hlk hM B rfl (by first | (simp [bf_lay, hp_1]; done) | (simp [bf_lay, hp_1]; rfl)) dX4_lay_8

set_option maxHeartbeats 4000000 in
set_option maxRecDepth 100000 in
theorem bX4_see (l : Launch) (D : va_G) (t : bx_T) (A : Nat → Prop) (h : Nat) (a : Nat → Nat) (B : bl_S) (Z : va_W) (p0 : Int32) (hI : bl_I B) : bx_Ci l yX4_see wsX4_see ({ frames := 2, cells := 0, slots := 0, locals := 43 }) D t A [.ref h, .int p0] (bl_w t h a B Z) (fun (r : Int32) (u : bl_S) => r = (bf_see B p0).1 ∧ u = (bf_see B p0).2) (fun u => bl_w t h a u Z) 0 0 := by
  refine bx_enter (cc := cX4_see) (maxL := 3) (ret := some .int) (by decide) rfl (Nat.le_of_ble_eq_true rfl) ?_
  intro p e s m below meth c ls E hr hlk hnm hM hl
  have hl : lv_has ls 3 [(0, .ref h), (1, .int p0)] := hl
  have hx := E.1.1
  have hb := E.1.2.1
  have hin : ∀ w ∈ wsX40, w ∈ wsX4_see := by decide +kernel
  have h0 : ∀ w ∈ wsX00, w ∈ wsX4_see := by decide +kernel
  have h1 : ∀ w ∈ wsX10, w ∈ wsX4_see := by decide +kernel
  have h2 : ∀ w ∈ wsX20, w ∈ wsX4_see := by decide +kernel
  refine lv_aload_n hx hb dX4_see_0 rfl (lv_at hl 0 rfl) ?_
  refine bl_get E hin hM 2 (by decide) (by decide +kernel) rfl dX4_see_1 ?_
  refine lv_iconst (v := (-1)) hx hb dX4_see_4 (by decide) ?_
  refine lv_icmp_ne (tgt := 14) hx hb dX4_see_5 (by decide) (fun c_5 => ?_) (fun c_5 => ?_)
  · refine lv_aload_n hx hb dX4_see_14 rfl (lv_at hl 0 rfl) ?_
    refine lv_iload_n hx hb dX4_see_15 rfl (lv_at hl 1 rfl) ?_
    refine bx_goi hM (bx_runV (As := [.int p0]) (rest := []) E hM (bX4_isPlace l D t A h a B Z p0) (bl_recv E hM) 1 gX4_see_X4_isPlace rfl rfl rfl (by decide +kernel) ⟨Nat.le_of_ble_eq_true rfl, Nat.le_of_ble_eq_true rfl⟩ rfl hl.1 rfl (Nat.le_of_ble_eq_true rfl) dX4_see_16 ⟨Nat.le_of_ble_eq_true rfl, Nat.le_of_ble_eq_true rfl⟩) (fun r u H locs hp hM => ?_)
    rcases hp with ⟨rfl, hp_16⟩ | ⟨rfl, hp_16⟩
    · have hM : bx_M D A s (bl_w t h a B Z) H locs := hM
      refine lv_if_ne (tgt := 28) hx hb dX4_see_19 (by decide) (fun _ => ?_) (fun c => absurd c (by decide))
      refine lv_aload_n hx hb dX4_see_28 rfl (lv_at hl 0 rfl) ?_
      refine bl_get E hin hM 1 (by decide) (by decide +kernel) rfl dX4_see_29 ?_
      refine lv_iload_n hx hb dX4_see_32 rfl (lv_at hl 1 rfl) ?_
      refine bl_pl E hM (bf_place hp_16) dX4_see_33 (fun hq_33 => ?_) (fun y_33 hq_33 => ?_)
      · have hq_33 := hq_33
        refine lv_astore_nN (lv' := [(2, .null), (0, .ref h), (1, .int p0)]) hx hb dX4_see_34 rfl hl (by decide) rfl (fun ls hl => ?_)
        refine lv_aload_nN hx hb dX4_see_35 rfl (lv_at hl 0 rfl) ?_
        refine lv_ifnonnullN hx hb dX4_see_36 ?_
        refine lv_aload_n hx hb dX4_see_39 rfl (lv_at hl 1 rfl) ?_
        refine lv_iconst (v := 1) hx hb dX4_see_40 (by decide) ?_
        refine bx_goi hM (bx_runV (As := [.int 1]) (rest := []) E hM (bX4_tell l D t A h a B Z 1) (bl_recv E hM) 1 gX4_see_X4_tell rfl rfl rfl (by decide +kernel) ⟨Nat.le_of_ble_eq_true rfl, Nat.le_of_ble_eq_true rfl⟩ rfl hl.1 rfl (Nat.le_of_ble_eq_true rfl) dX4_see_41 ⟨Nat.le_of_ble_eq_true rfl, Nat.le_of_ble_eq_true rfl⟩) (fun r u H locs hp hM => ?_)
        obtain ⟨rfl, rfl⟩ := hp
        have hM : bx_M D A s (bl_w t h a (bf_tell B 1) Z) H locs := hM
        refine lv_goto (tgt := 51) hx hb dX4_see_44 (by decide) ?_
        exact bx_reti E hr hlk hM (bf_tell B 1) rfl (by first | (simp [bf_see, c_5, hp_16, hq_33]; done) | (simp [bf_see, c_5, hp_16, hq_33]; rfl)) dX4_see_51
      · have hm_y_33 := hI.2.1 _ (vp_lt (bf_place hp_16)) y_33 hq_33
        refine lv_astore_n (lv' := [(2, .ref y_33), (0, .ref h), (1, .int p0)]) hx hb dX4_see_34 rfl hl (by decide) rfl (fun ls hl => ?_)
        refine lv_aload_n hx hb dX4_see_35 rfl (lv_at hl 0 rfl) ?_
        refine lv_ifnonnull (tgt := 47) hx hb dX4_see_36 (by decide) ?_
        refine lv_aload_n hx hb dX4_see_47 rfl (lv_at hl 0 rfl) ?_
        refine bl_gWb E h0 h2 hM hm_y_33.1 hm_y_33.2 (by decide +kernel) (fun x h9 => u_same (E.1.2.2.2.2 (.sameField "BellLoft$Bell" "BellLoft$Thing" "weight" "I") (by decide +kernel)) x h9) dX4_see_48 ?_
        exact bx_reti E hr hlk hM B rfl (by first | (simp [bf_see, c_5, hp_16, hq_33]; done) | (simp [bf_see, c_5, hp_16, hq_33]; rfl)) dX4_see_51
    · have hM : bx_M D A s (bl_w t h a B Z) H locs := hM
      refine lv_if_ne (tgt := 28) hx hb dX4_see_19 (by decide) (fun c => absurd c (by decide)) (fun _ => ?_)
      refine lv_aload_n hx hb dX4_see_22 rfl (lv_at hl 0 rfl) ?_
      refine lv_iconst (v := 5) hx hb dX4_see_23 (by decide) ?_
      refine bx_goi hM (bx_runV (As := [.int 5]) (rest := []) E hM (bX4_tell l D t A h a B Z 5) (bl_recv E hM) 1 gX4_see_X4_tell rfl rfl rfl (by decide +kernel) ⟨Nat.le_of_ble_eq_true rfl, Nat.le_of_ble_eq_true rfl⟩ rfl hl.1 rfl (Nat.le_of_ble_eq_true rfl) dX4_see_24 ⟨Nat.le_of_ble_eq_true rfl, Nat.le_of_ble_eq_true rfl⟩) (fun r u H locs hp hM => ?_)
      obtain ⟨rfl, rfl⟩ := hp
      have hM : bx_M D A s (bl_w t h a (bf_tell B 5) Z) H locs := hM
      exact bx_reti E hr hlk hM (bf_tell B 5) rfl (by first | (simp [bf_see, c_5, hp_16]; done) | (simp [bf_see, c_5, hp_16]; rfl)) dX4_see_27
  · refine lv_aload_n hx hb dX4_see_8 rfl (lv_at hl 0 rfl) ?_
    refine lv_iconst (v := 1) hx hb dX4_see_9 (by decide) ?_
    refine bx_goi hM (bx_runV (As := [.int 1]) (rest := []) E hM (bX4_tell l D t A h a B Z 1) (bl_recv E hM) 1 gX4_see_X4_tell rfl rfl rfl (by decide +kernel) ⟨Nat.le_of_ble_eq_true rfl, Nat.le_of_ble_eq_true rfl⟩ rfl hl.1 rfl (Nat.le_of_ble_eq_true rfl) dX4_see_10 ⟨Nat.le_of_ble_eq_true rfl, Nat.le_of_ble_eq_true rfl⟩) (fun r u H locs hp hM => ?_)
    obtain ⟨rfl, rfl⟩ := hp
    have hM : bx_M D A s (bl_w t h a (bf_tell B 1) Z) H locs := hM
    exact bx_reti E hr hlk hM (bf_tell B 1) rfl (by first | (simp [bf_see, c_5]; done) | (simp [bf_see, c_5]; rfl)) dX4_see_13

set_option maxHeartbeats 4000000 in
set_option maxRecDepth 100000 in
theorem bX4_call (l : Launch) (D : va_G) (t : bx_T) (A : Nat → Prop) (h : Nat) (a : Nat → Nat) (B : bl_S) (Z : va_W) (p0 : Int32) (p1 : Int32) : bx_Ci l yX4_call wsX4_call ({ frames := 2, cells := 0, slots := 0, locals := 43 }) D t A [.ref h, .int p0, .int p1] (bl_w t h a B Z) (fun (r : Int32) (u : bl_S) => r = (bf_call B p0 p1).1 ∧ u = (bf_call B p0 p1).2) (fun u => bl_w t h a u Z) 0 0 := by
  refine bx_enter (cc := cX4_call) (maxL := 3) (ret := some .int) (by decide) rfl (Nat.le_of_ble_eq_true rfl) ?_
  intro p e s m below meth c ls E hr hlk hnm hM hl
  have hl : lv_has ls 3 [(0, .ref h), (1, .int p0), (2, .int p1)] := hl
  have hx := E.1.1
  have hb := E.1.2.1
  have hin : ∀ w ∈ wsX40, w ∈ wsX4_call := by decide +kernel
  refine lv_iload_n hx hb dX4_call_0 rfl (lv_at hl 2 rfl) ?_
  refine lv_iconst (v := 0) hx hb dX4_call_1 (by decide) ?_
  refine lv_bipush (v := 99) hx hb dX4_call_2 (by decide) ?_
  refine bx_goi hM (bx_runS (As := [.int p1, .int 0, .int 99]) (rest := []) E hM (bX4_isWithin l D t A (bl_w t h a B Z) p1 0 99) 3 gX4_call_X4_isWithin rfl rfl rfl (by decide +kernel) ⟨Nat.le_of_ble_eq_true rfl, Nat.le_of_ble_eq_true rfl⟩ rfl hl.1 rfl (Nat.le_of_ble_eq_true rfl) dX4_call_4 ⟨Nat.le_of_ble_eq_true rfl, Nat.le_of_ble_eq_true rfl⟩) (fun r u H locs hp hM => ?_)
  rcases hp with ⟨rfl, hp_4⟩ | ⟨rfl, hp_4⟩
  · have hM : bx_M D A s (bl_w t h a B Z) H locs := hM
    refine lv_if_ne (tgt := 12) hx hb dX4_call_7 (by decide) (fun _ => ?_) (fun c => absurd c (by decide))
    refine lv_aload_n hx hb dX4_call_12 rfl (lv_at hl 0 rfl) ?_
    refine bl_get E hin hM 5 (by decide) (by decide +kernel) rfl dX4_call_13 ?_
    refine lv_iconst (v := (-1)) hx hb dX4_call_16 (by decide) ?_
    refine lv_icmp_ne (tgt := 26) hx hb dX4_call_17 (by decide) (fun c_17 => ?_) (fun c_17 => ?_)
    · refine lv_aload_n hx hb dX4_call_26 rfl (lv_at hl 0 rfl) ?_
      refine lv_iload_n hx hb dX4_call_27 rfl (lv_at hl 1 rfl) ?_
      refine bx_goi hM (bx_runV (As := [.int p0]) (rest := []) E hM (bX4_isNumber l D t A h a B Z p0) (bl_recv E hM) 1 gX4_call_X4_isNumber rfl rfl rfl (by decide +kernel) ⟨Nat.le_of_ble_eq_true rfl, Nat.le_of_ble_eq_true rfl⟩ rfl hl.1 rfl (Nat.le_of_ble_eq_true rfl) dX4_call_28 ⟨Nat.le_of_ble_eq_true rfl, Nat.le_of_ble_eq_true rfl⟩) (fun r u H locs hp hM => ?_)
      rcases hp with ⟨rfl, hp_28⟩ | ⟨rfl, hp_28⟩
      · have hM : bx_M D A s (bl_w t h a B Z) H locs := hM
        refine lv_if_ne (tgt := 40) hx hb dX4_call_31 (by decide) (fun _ => ?_) (fun c => absurd c (by decide))
        refine lv_aload_n hx hb dX4_call_40 rfl (lv_at hl 0 rfl) ?_
        refine bl_get E hin hM 4 (by decide) (by decide +kernel) rfl dX4_call_41 ?_
        refine lv_iload_n hx hb dX4_call_44 rfl (lv_at hl 1 rfl) ?_
        refine lv_iload_n hx hb dX4_call_45 rfl (lv_at hl 2 rfl) ?_
        refine bl_ast E hM 0 (by decide) (bf_number hp_28) dX4_call_46 (fun H locs hM => ?_)
        have hM : bx_M D A s (bl_w t h a (bl_ai B 0 p0.toNatClampNeg p1) Z) H locs := hM
        refine lv_iload_n hx hb dX4_call_47 rfl (lv_at hl 2 rfl) ?_
        exact bx_reti E hr hlk hM (bl_ai B 0 p0.toNatClampNeg p1) rfl (by first | (simp [bf_call, hp_4, c_17, hp_28]; done) | (simp [bf_call, hp_4, c_17, hp_28]; rfl)) dX4_call_48
      · have hM : bx_M D A s (bl_w t h a B Z) H locs := hM
        refine lv_if_ne (tgt := 40) hx hb dX4_call_31 (by decide) (fun c => absurd c (by decide)) (fun _ => ?_)
        refine lv_aload_n hx hb dX4_call_34 rfl (lv_at hl 0 rfl) ?_
        refine lv_iconst (v := 5) hx hb dX4_call_35 (by decide) ?_
        refine bx_goi hM (bx_runV (As := [.int 5]) (rest := []) E hM (bX4_tell l D t A h a B Z 5) (bl_recv E hM) 1 gX4_call_X4_tell rfl rfl rfl (by decide +kernel) ⟨Nat.le_of_ble_eq_true rfl, Nat.le_of_ble_eq_true rfl⟩ rfl hl.1 rfl (Nat.le_of_ble_eq_true rfl) dX4_call_36 ⟨Nat.le_of_ble_eq_true rfl, Nat.le_of_ble_eq_true rfl⟩) (fun r u H locs hp hM => ?_)
        obtain ⟨rfl, rfl⟩ := hp
        have hM : bx_M D A s (bl_w t h a (bf_tell B 5) Z) H locs := hM
        exact bx_reti E hr hlk hM (bf_tell B 5) rfl (by first | (simp [bf_call, hp_4, c_17, hp_28]; done) | (simp [bf_call, hp_4, c_17, hp_28]; rfl)) dX4_call_39
    · refine lv_aload_n hx hb dX4_call_20 rfl (lv_at hl 0 rfl) ?_
      refine lv_iconst (v := 1) hx hb dX4_call_21 (by decide) ?_
      refine bx_goi hM (bx_runV (As := [.int 1]) (rest := []) E hM (bX4_tell l D t A h a B Z 1) (bl_recv E hM) 1 gX4_call_X4_tell rfl rfl rfl (by decide +kernel) ⟨Nat.le_of_ble_eq_true rfl, Nat.le_of_ble_eq_true rfl⟩ rfl hl.1 rfl (Nat.le_of_ble_eq_true rfl) dX4_call_22 ⟨Nat.le_of_ble_eq_true rfl, Nat.le_of_ble_eq_true rfl⟩) (fun r u H locs hp hM => ?_)
      obtain ⟨rfl, rfl⟩ := hp
      have hM : bx_M D A s (bl_w t h a (bf_tell B 1) Z) H locs := hM
      exact bx_reti E hr hlk hM (bf_tell B 1) rfl (by first | (simp [bf_call, hp_4, c_17]; done) | (simp [bf_call, hp_4, c_17]; rfl)) dX4_call_25
  · have hM : bx_M D A s (bl_w t h a B Z) H locs := hM
    refine lv_if_ne (tgt := 12) hx hb dX4_call_7 (by decide) (fun c => absurd c (by decide)) (fun _ => ?_)
    refine lv_iconst (v := (-1)) hx hb dX4_call_10 (by decide) ?_
    exact bx_reti E hr hlk hM B rfl (by first | (simp [bf_call, hp_4]; done) | (simp [bf_call, hp_4]; rfl)) dX4_call_11

set_option maxHeartbeats 4000000 in
set_option maxRecDepth 100000 in
theorem bX4_strike (l : Launch) (D : va_G) (t : bx_T) (A : Nat → Prop) (h : Nat) (a : Nat → Nat) (B : bl_S) (Z : va_W) (p0 : Int32) (hI : bl_I B) : bx_Ci l yX4_strike wsX4_strike ({ frames := 4, cells := 0, slots := 0, locals := 86 }) D t A [.ref h, .int p0] (bl_w t h a B Z) (fun (r : Int32) (u : bl_S) => r = (bf_strike B p0).1 ∧ u = (bf_strike B p0).2) (fun u => bl_w t h a u Z) 0 0 := by
  refine bx_enter (cc := cX4_strike) (maxL := 4) (ret := some .int) (by decide) rfl (Nat.le_of_ble_eq_true rfl) ?_
  intro p e s m below meth c ls E hr hlk hnm hM hl
  have hl : lv_has ls 4 [(0, .ref h), (1, .int p0)] := hl
  have hx := E.1.1
  have hb := E.1.2.1
  have hin : ∀ w ∈ wsX40, w ∈ wsX4_strike := by decide +kernel
  have h0 : ∀ w ∈ wsX00, w ∈ wsX4_strike := by decide +kernel
  have h1 : ∀ w ∈ wsX10, w ∈ wsX4_strike := by decide +kernel
  have h2 : ∀ w ∈ wsX20, w ∈ wsX4_strike := by decide +kernel
  refine lv_aload_n hx hb dX4_strike_0 rfl (lv_at hl 0 rfl) ?_
  refine bl_get E hin hM 5 (by decide) (by decide +kernel) rfl dX4_strike_1 ?_
  refine lv_iconst (v := (-1)) hx hb dX4_strike_4 (by decide) ?_
  refine lv_icmp_ne (tgt := 14) hx hb dX4_strike_5 (by decide) (fun c_5 => ?_) (fun c_5 => ?_)
  · refine lv_aload_n hx hb dX4_strike_14 rfl (lv_at hl 0 rfl) ?_
    refine lv_iload_n hx hb dX4_strike_15 rfl (lv_at hl 1 rfl) ?_
    refine bx_goi hM (bx_runV (As := [.int p0]) (rest := []) E hM (bX4_isNumber l D t A h a B Z p0) (bl_recv E hM) 1 gX4_strike_X4_isNumber rfl rfl rfl (by decide +kernel) ⟨Nat.le_of_ble_eq_true rfl, Nat.le_of_ble_eq_true rfl⟩ rfl hl.1 rfl (Nat.le_of_ble_eq_true rfl) dX4_strike_16 ⟨Nat.le_of_ble_eq_true rfl, Nat.le_of_ble_eq_true rfl⟩) (fun r u H locs hp hM => ?_)
    rcases hp with ⟨rfl, hp_16⟩ | ⟨rfl, hp_16⟩
    · have hM : bx_M D A s (bl_w t h a B Z) H locs := hM
      refine lv_if_ne (tgt := 28) hx hb dX4_strike_19 (by decide) (fun _ => ?_) (fun c => absurd c (by decide))
      refine lv_aload_n hx hb dX4_strike_28 rfl (lv_at hl 0 rfl) ?_
      refine bl_get E hin hM 2 (by decide) (by decide +kernel) rfl dX4_strike_29 ?_
      refine lv_iconst (v := (-1)) hx hb dX4_strike_32 (by decide) ?_
      refine lv_icmp_ne (tgt := 42) hx hb dX4_strike_33 (by decide) (fun c_33 => ?_) (fun c_33 => ?_)
      · refine lv_aload_n hx hb dX4_strike_42 rfl (lv_at hl 0 rfl) ?_
        refine bl_get E hin hM 4 (by decide) (by decide +kernel) rfl dX4_strike_43 ?_
        refine lv_iload_n hx hb dX4_strike_46 rfl (lv_at hl 1 rfl) ?_
        refine bl_ald E hM 0 (by decide) (bf_number hp_16) dX4_strike_47 ?_
        refine lv_istore_n (lv' := [(2, .int (B.1 0 p0.toNatClampNeg)), (0, .ref h), (1, .int p0)]) hx hb dX4_strike_48 rfl hl (by decide) rfl (fun ls hl => ?_)
        refine lv_aload_n hx hb dX4_strike_49 rfl (lv_at hl 1 rfl) ?_
        refine lv_iload_n hx hb dX4_strike_50 rfl (lv_at hl 0 rfl) ?_
        refine bx_goi hM (bx_runV (As := [.int (B.1 0 p0.toNatClampNeg)]) (rest := []) E hM (bX4_isPlace l D t A h a B Z (B.1 0 p0.toNatClampNeg)) (bl_recv E hM) 1 gX4_strike_X4_isPlace rfl rfl rfl (by decide +kernel) ⟨Nat.le_of_ble_eq_true rfl, Nat.le_of_ble_eq_true rfl⟩ rfl hl.1 rfl (Nat.le_of_ble_eq_true rfl) dX4_strike_51 ⟨Nat.le_of_ble_eq_true rfl, Nat.le_of_ble_eq_true rfl⟩) (fun r u H locs hp hM => ?_)
        rcases hp with ⟨rfl, hp_51⟩ | ⟨rfl, hp_51⟩
        · have hM : bx_M D A s (bl_w t h a B Z) H locs := hM
          refine lv_if_ne (tgt := 63) hx hb dX4_strike_54 (by decide) (fun _ => ?_) (fun c => absurd c (by decide))
          refine lv_aload_n hx hb dX4_strike_63 rfl (lv_at hl 1 rfl) ?_
          refine bl_get E hin hM 1 (by decide) (by decide +kernel) rfl dX4_strike_64 ?_
          refine lv_iload_n hx hb dX4_strike_67 rfl (lv_at hl 0 rfl) ?_
          refine bl_pl E hM (bf_place hp_51) dX4_strike_68 (fun hq_68 => ?_) (fun y_68 hq_68 => ?_)
          · have hq_68 := hq_68
            refine lv_astore_nN (lv' := [(3, .null), (2, .int (B.1 0 p0.toNatClampNeg)), (0, .ref h), (1, .int p0)]) hx hb dX4_strike_69 rfl hl (by decide) rfl (fun ls hl => ?_)
            refine lv_aload_nN hx hb dX4_strike_70 rfl (lv_at hl 0 rfl) ?_
            refine lv_ifnonnullN hx hb dX4_strike_71 ?_
            refine lv_aload_n hx hb dX4_strike_74 rfl (lv_at hl 2 rfl) ?_
            refine lv_iconst (v := 1) hx hb dX4_strike_75 (by decide) ?_
            refine bx_goi hM (bx_runV (As := [.int 1]) (rest := []) E hM (bX4_tell l D t A h a B Z 1) (bl_recv E hM) 1 gX4_strike_X4_tell rfl rfl rfl (by decide +kernel) ⟨Nat.le_of_ble_eq_true rfl, Nat.le_of_ble_eq_true rfl⟩ rfl hl.1 rfl (Nat.le_of_ble_eq_true rfl) dX4_strike_76 ⟨Nat.le_of_ble_eq_true rfl, Nat.le_of_ble_eq_true rfl⟩) (fun r u H locs hp hM => ?_)
            obtain ⟨rfl, rfl⟩ := hp
            have hM : bx_M D A s (bl_w t h a (bf_tell B 1) Z) H locs := hM
            refine lv_goto (tgt := 87) hx hb dX4_strike_79 (by decide) ?_
            exact bx_reti E hr hlk hM (bf_tell B 1) rfl (by first | (simp [bf_strike, c_5, hp_16, c_33, hp_51, hq_68]; done) | (simp [bf_strike, c_5, hp_16, c_33, hp_51, hq_68]; rfl)) dX4_strike_87
          · have hm_y_68 := hI.2.1 _ (vp_lt (bf_place hp_51)) y_68 hq_68
            refine lv_astore_n (lv' := [(3, .ref y_68), (2, .int (B.1 0 p0.toNatClampNeg)), (0, .ref h), (1, .int p0)]) hx hb dX4_strike_69 rfl hl (by decide) rfl (fun ls hl => ?_)
            refine lv_aload_n hx hb dX4_strike_70 rfl (lv_at hl 0 rfl) ?_
            refine lv_ifnonnull (tgt := 82) hx hb dX4_strike_71 (by decide) ?_
            refine lv_aload_n hx hb dX4_strike_82 rfl (lv_at hl 2 rfl) ?_
            refine lv_aload_n hx hb dX4_strike_83 rfl (lv_at hl 0 rfl) ?_
            refine bx_goi hM (bx_runV (As := [.ref y_68]) (rest := []) E hM (bX4_sound l D t A h a B Z y_68 hI hm_y_68.1 hm_y_68.2) (bl_recv E hM) 1 gX4_strike_X4_sound rfl rfl rfl (by decide +kernel) ⟨Nat.le_of_ble_eq_true rfl, Nat.le_of_ble_eq_true rfl⟩ rfl hl.1 rfl (Nat.le_of_ble_eq_true rfl) dX4_strike_84 ⟨Nat.le_of_ble_eq_true rfl, Nat.le_of_ble_eq_true rfl⟩) (fun r u H locs hp hM => ?_)
            obtain ⟨rfl, rfl⟩ := hp
            have hM : bx_M D A s (bl_w t h a ((bf_sound B y_68).2) Z) H locs := hM
            exact bx_reti E hr hlk hM ((bf_sound B y_68).2) rfl (by first | (simp [bf_strike, c_5, hp_16, c_33, hp_51, hq_68]; done) | (simp [bf_strike, c_5, hp_16, c_33, hp_51, hq_68]; rfl)) dX4_strike_87
        · have hM : bx_M D A s (bl_w t h a B Z) H locs := hM
          refine lv_if_ne (tgt := 63) hx hb dX4_strike_54 (by decide) (fun c => absurd c (by decide)) (fun _ => ?_)
          refine lv_aload_n hx hb dX4_strike_57 rfl (lv_at hl 1 rfl) ?_
          refine lv_iconst (v := 5) hx hb dX4_strike_58 (by decide) ?_
          refine bx_goi hM (bx_runV (As := [.int 5]) (rest := []) E hM (bX4_tell l D t A h a B Z 5) (bl_recv E hM) 1 gX4_strike_X4_tell rfl rfl rfl (by decide +kernel) ⟨Nat.le_of_ble_eq_true rfl, Nat.le_of_ble_eq_true rfl⟩ rfl hl.1 rfl (Nat.le_of_ble_eq_true rfl) dX4_strike_59 ⟨Nat.le_of_ble_eq_true rfl, Nat.le_of_ble_eq_true rfl⟩) (fun r u H locs hp hM => ?_)
          obtain ⟨rfl, rfl⟩ := hp
          have hM : bx_M D A s (bl_w t h a (bf_tell B 5) Z) H locs := hM
          exact bx_reti E hr hlk hM (bf_tell B 5) rfl (by first | (simp [bf_strike, c_5, hp_16, c_33, hp_51]; done) | (simp [bf_strike, c_5, hp_16, c_33, hp_51]; rfl)) dX4_strike_62
      · refine lv_aload_n hx hb dX4_strike_36 rfl (lv_at hl 0 rfl) ?_
        refine lv_iconst (v := 1) hx hb dX4_strike_37 (by decide) ?_
        refine bx_goi hM (bx_runV (As := [.int 1]) (rest := []) E hM (bX4_tell l D t A h a B Z 1) (bl_recv E hM) 1 gX4_strike_X4_tell rfl rfl rfl (by decide +kernel) ⟨Nat.le_of_ble_eq_true rfl, Nat.le_of_ble_eq_true rfl⟩ rfl hl.1 rfl (Nat.le_of_ble_eq_true rfl) dX4_strike_38 ⟨Nat.le_of_ble_eq_true rfl, Nat.le_of_ble_eq_true rfl⟩) (fun r u H locs hp hM => ?_)
        obtain ⟨rfl, rfl⟩ := hp
        have hM : bx_M D A s (bl_w t h a (bf_tell B 1) Z) H locs := hM
        exact bx_reti E hr hlk hM (bf_tell B 1) rfl (by first | (simp [bf_strike, c_5, hp_16, c_33]; done) | (simp [bf_strike, c_5, hp_16, c_33]; rfl)) dX4_strike_41
    · have hM : bx_M D A s (bl_w t h a B Z) H locs := hM
      refine lv_if_ne (tgt := 28) hx hb dX4_strike_19 (by decide) (fun c => absurd c (by decide)) (fun _ => ?_)
      refine lv_aload_n hx hb dX4_strike_22 rfl (lv_at hl 0 rfl) ?_
      refine lv_iconst (v := 5) hx hb dX4_strike_23 (by decide) ?_
      refine bx_goi hM (bx_runV (As := [.int 5]) (rest := []) E hM (bX4_tell l D t A h a B Z 5) (bl_recv E hM) 1 gX4_strike_X4_tell rfl rfl rfl (by decide +kernel) ⟨Nat.le_of_ble_eq_true rfl, Nat.le_of_ble_eq_true rfl⟩ rfl hl.1 rfl (Nat.le_of_ble_eq_true rfl) dX4_strike_24 ⟨Nat.le_of_ble_eq_true rfl, Nat.le_of_ble_eq_true rfl⟩) (fun r u H locs hp hM => ?_)
      obtain ⟨rfl, rfl⟩ := hp
      have hM : bx_M D A s (bl_w t h a (bf_tell B 5) Z) H locs := hM
      exact bx_reti E hr hlk hM (bf_tell B 5) rfl (by first | (simp [bf_strike, c_5, hp_16]; done) | (simp [bf_strike, c_5, hp_16]; rfl)) dX4_strike_27
  · refine lv_aload_n hx hb dX4_strike_8 rfl (lv_at hl 0 rfl) ?_
    refine lv_iconst (v := 1) hx hb dX4_strike_9 (by decide) ?_
    refine bx_goi hM (bx_runV (As := [.int 1]) (rest := []) E hM (bX4_tell l D t A h a B Z 1) (bl_recv E hM) 1 gX4_strike_X4_tell rfl rfl rfl (by decide +kernel) ⟨Nat.le_of_ble_eq_true rfl, Nat.le_of_ble_eq_true rfl⟩ rfl hl.1 rfl (Nat.le_of_ble_eq_true rfl) dX4_strike_10 ⟨Nat.le_of_ble_eq_true rfl, Nat.le_of_ble_eq_true rfl⟩) (fun r u H locs hp hM => ?_)
    obtain ⟨rfl, rfl⟩ := hp
    have hM : bx_M D A s (bl_w t h a (bf_tell B 1) Z) H locs := hM
    exact bx_reti E hr hlk hM (bf_tell B 1) rfl (by first | (simp [bf_strike, c_5]; done) | (simp [bf_strike, c_5]; rfl)) dX4_strike_13

set_option maxHeartbeats 4000000 in
set_option maxRecDepth 100000 in
theorem bX4_mark (l : Launch) (D : va_G) (t : bx_T) (A : Nat → Prop) (h : Nat) (a : Nat → Nat) (B : bl_S) (Z : va_W) (p0 : Int32) (p1 : Int32) (p2 : Int32) : bx_Ci l yX4_mark wsX4_mark ({ frames := 2, cells := 0, slots := 0, locals := 43 }) D t A [.ref h, .int p0, .int p1, .int p2] (bl_w t h a B Z) (fun (r : Int32) (u : bl_S) => r = (bf_mark B p0 p1 p2).1 ∧ u = (bf_mark B p0 p1 p2).2) (fun u => bl_w t h a u Z) 0 0 := by
  refine bx_enter (cc := cX4_mark) (maxL := 4) (ret := some .int) (by decide) rfl (Nat.le_of_ble_eq_true rfl) ?_
  intro p e s m below meth c ls E hr hlk hnm hM hl
  have hl : lv_has ls 4 [(0, .ref h), (1, .int p0), (2, .int p1), (3, .int p2)] := hl
  have hx := E.1.1
  have hb := E.1.2.1
  have hin : ∀ w ∈ wsX40, w ∈ wsX4_mark := by decide +kernel
  refine lv_iload_n hx hb dX4_mark_0 rfl (lv_at hl 3 rfl) ?_
  refine lv_iconst (v := 0) hx hb dX4_mark_1 (by decide) ?_
  refine lv_bipush (v := 99) hx hb dX4_mark_2 (by decide) ?_
  refine bx_goi hM (bx_runS (As := [.int p2, .int 0, .int 99]) (rest := []) E hM (bX4_isWithin l D t A (bl_w t h a B Z) p2 0 99) 3 gX4_mark_X4_isWithin rfl rfl rfl (by decide +kernel) ⟨Nat.le_of_ble_eq_true rfl, Nat.le_of_ble_eq_true rfl⟩ rfl hl.1 rfl (Nat.le_of_ble_eq_true rfl) dX4_mark_4 ⟨Nat.le_of_ble_eq_true rfl, Nat.le_of_ble_eq_true rfl⟩) (fun r u H locs hp hM => ?_)
  rcases hp with ⟨rfl, hp_4⟩ | ⟨rfl, hp_4⟩
  · have hM : bx_M D A s (bl_w t h a B Z) H locs := hM
    refine lv_if_ne (tgt := 12) hx hb dX4_mark_7 (by decide) (fun _ => ?_) (fun c => absurd c (by decide))
    refine lv_aload_n hx hb dX4_mark_12 rfl (lv_at hl 0 rfl) ?_
    refine bl_get E hin hM 7 (by decide) (by decide +kernel) rfl dX4_mark_13 ?_
    refine lv_iconst (v := (-1)) hx hb dX4_mark_16 (by decide) ?_
    refine lv_icmp_ne (tgt := 26) hx hb dX4_mark_17 (by decide) (fun c_17 => ?_) (fun c_17 => ?_)
    · refine lv_aload_n hx hb dX4_mark_26 rfl (lv_at hl 0 rfl) ?_
      refine lv_iload_n hx hb dX4_mark_27 rfl (lv_at hl 1 rfl) ?_
      refine lv_iload_n hx hb dX4_mark_28 rfl (lv_at hl 2 rfl) ?_
      refine bx_goi hM (bx_runV (As := [.int p0, .int p1]) (rest := []) E hM (bX4_isMark l D t A h a B Z p0 p1) (bl_recv E hM) 2 gX4_mark_X4_isMark rfl rfl rfl (by decide +kernel) ⟨Nat.le_of_ble_eq_true rfl, Nat.le_of_ble_eq_true rfl⟩ rfl hl.1 rfl (Nat.le_of_ble_eq_true rfl) dX4_mark_29 ⟨Nat.le_of_ble_eq_true rfl, Nat.le_of_ble_eq_true rfl⟩) (fun r u H locs hp hM => ?_)
      rcases hp with ⟨rfl, hp_29⟩ | ⟨rfl, hp_29⟩
      · have hM : bx_M D A s (bl_w t h a B Z) H locs := hM
        refine lv_if_ne (tgt := 41) hx hb dX4_mark_32 (by decide) (fun _ => ?_) (fun c => absurd c (by decide))
        refine lv_aload_n hx hb dX4_mark_41 rfl (lv_at hl 0 rfl) ?_
        refine bl_get E hin hM 6 (by decide) (by decide +kernel) rfl dX4_mark_42 ?_
        refine lv_iload_n hx hb dX4_mark_45 rfl (lv_at hl 1 rfl) ?_
        refine lv_bipush (v := 12) hx hb dX4_mark_46 (by decide) ?_
        refine lv_imul hx hb dX4_mark_48 ?_
        refine lv_iload_n hx hb dX4_mark_49 rfl (lv_at hl 2 rfl) ?_
        refine lv_iadd hx hb dX4_mark_50 ?_
        refine lv_iload_n hx hb dX4_mark_51 rfl (lv_at hl 3 rfl) ?_
        refine bl_ast E hM 1 (by decide) (bf_marks hp_29) dX4_mark_52 (fun H locs hM => ?_)
        have hM : bx_M D A s (bl_w t h a (bl_ai B 1 ((p0 * 12) + p1).toNatClampNeg p2) Z) H locs := hM
        refine lv_iload_n hx hb dX4_mark_53 rfl (lv_at hl 3 rfl) ?_
        exact bx_reti E hr hlk hM (bl_ai B 1 ((p0 * 12) + p1).toNatClampNeg p2) rfl (by first | (simp [bf_mark, hp_4, c_17, hp_29]; done) | (simp [bf_mark, hp_4, c_17, hp_29]; rfl)) dX4_mark_54
      · have hM : bx_M D A s (bl_w t h a B Z) H locs := hM
        refine lv_if_ne (tgt := 41) hx hb dX4_mark_32 (by decide) (fun c => absurd c (by decide)) (fun _ => ?_)
        refine lv_aload_n hx hb dX4_mark_35 rfl (lv_at hl 0 rfl) ?_
        refine lv_iconst (v := 5) hx hb dX4_mark_36 (by decide) ?_
        refine bx_goi hM (bx_runV (As := [.int 5]) (rest := []) E hM (bX4_tell l D t A h a B Z 5) (bl_recv E hM) 1 gX4_mark_X4_tell rfl rfl rfl (by decide +kernel) ⟨Nat.le_of_ble_eq_true rfl, Nat.le_of_ble_eq_true rfl⟩ rfl hl.1 rfl (Nat.le_of_ble_eq_true rfl) dX4_mark_37 ⟨Nat.le_of_ble_eq_true rfl, Nat.le_of_ble_eq_true rfl⟩) (fun r u H locs hp hM => ?_)
        obtain ⟨rfl, rfl⟩ := hp
        have hM : bx_M D A s (bl_w t h a (bf_tell B 5) Z) H locs := hM
        exact bx_reti E hr hlk hM (bf_tell B 5) rfl (by first | (simp [bf_mark, hp_4, c_17, hp_29]; done) | (simp [bf_mark, hp_4, c_17, hp_29]; rfl)) dX4_mark_40
    · refine lv_aload_n hx hb dX4_mark_20 rfl (lv_at hl 0 rfl) ?_
      refine lv_iconst (v := 1) hx hb dX4_mark_21 (by decide) ?_
      refine bx_goi hM (bx_runV (As := [.int 1]) (rest := []) E hM (bX4_tell l D t A h a B Z 1) (bl_recv E hM) 1 gX4_mark_X4_tell rfl rfl rfl (by decide +kernel) ⟨Nat.le_of_ble_eq_true rfl, Nat.le_of_ble_eq_true rfl⟩ rfl hl.1 rfl (Nat.le_of_ble_eq_true rfl) dX4_mark_22 ⟨Nat.le_of_ble_eq_true rfl, Nat.le_of_ble_eq_true rfl⟩) (fun r u H locs hp hM => ?_)
      obtain ⟨rfl, rfl⟩ := hp
      have hM : bx_M D A s (bl_w t h a (bf_tell B 1) Z) H locs := hM
      exact bx_reti E hr hlk hM (bf_tell B 1) rfl (by first | (simp [bf_mark, hp_4, c_17]; done) | (simp [bf_mark, hp_4, c_17]; rfl)) dX4_mark_25
  · have hM : bx_M D A s (bl_w t h a B Z) H locs := hM
    refine lv_if_ne (tgt := 12) hx hb dX4_mark_7 (by decide) (fun c => absurd c (by decide)) (fun _ => ?_)
    refine lv_iconst (v := (-1)) hx hb dX4_mark_10 (by decide) ?_
    exact bx_reti E hr hlk hM B rfl (by first | (simp [bf_mark, hp_4]; done) | (simp [bf_mark, hp_4]; rfl)) dX4_mark_11

set_option maxHeartbeats 4000000 in
set_option maxRecDepth 100000 in
theorem bX4_marked (l : Launch) (D : va_G) (t : bx_T) (A : Nat → Prop) (h : Nat) (a : Nat → Nat) (B : bl_S) (Z : va_W) (p0 : Int32) (p1 : Int32) : bx_Ci l yX4_marked wsX4_marked ({ frames := 2, cells := 0, slots := 0, locals := 43 }) D t A [.ref h, .int p0, .int p1] (bl_w t h a B Z) (fun (r : Int32) (u : bl_S) => r = (bf_marked B p0 p1).1 ∧ u = (bf_marked B p0 p1).2) (fun u => bl_w t h a u Z) 0 0 := by
  refine bx_enter (cc := cX4_marked) (maxL := 3) (ret := some .int) (by decide) rfl (Nat.le_of_ble_eq_true rfl) ?_
  intro p e s m below meth c ls E hr hlk hnm hM hl
  have hl : lv_has ls 3 [(0, .ref h), (1, .int p0), (2, .int p1)] := hl
  have hx := E.1.1
  have hb := E.1.2.1
  have hin : ∀ w ∈ wsX40, w ∈ wsX4_marked := by decide +kernel
  refine lv_aload_n hx hb dX4_marked_0 rfl (lv_at hl 0 rfl) ?_
  refine bl_get E hin hM 7 (by decide) (by decide +kernel) rfl dX4_marked_1 ?_
  refine lv_iconst (v := (-1)) hx hb dX4_marked_4 (by decide) ?_
  refine lv_icmp_ne (tgt := 14) hx hb dX4_marked_5 (by decide) (fun c_5 => ?_) (fun c_5 => ?_)
  · refine lv_aload_n hx hb dX4_marked_14 rfl (lv_at hl 0 rfl) ?_
    refine lv_iload_n hx hb dX4_marked_15 rfl (lv_at hl 1 rfl) ?_
    refine lv_iload_n hx hb dX4_marked_16 rfl (lv_at hl 2 rfl) ?_
    refine bx_goi hM (bx_runV (As := [.int p0, .int p1]) (rest := []) E hM (bX4_isMark l D t A h a B Z p0 p1) (bl_recv E hM) 2 gX4_marked_X4_isMark rfl rfl rfl (by decide +kernel) ⟨Nat.le_of_ble_eq_true rfl, Nat.le_of_ble_eq_true rfl⟩ rfl hl.1 rfl (Nat.le_of_ble_eq_true rfl) dX4_marked_17 ⟨Nat.le_of_ble_eq_true rfl, Nat.le_of_ble_eq_true rfl⟩) (fun r u H locs hp hM => ?_)
    rcases hp with ⟨rfl, hp_17⟩ | ⟨rfl, hp_17⟩
    · have hM : bx_M D A s (bl_w t h a B Z) H locs := hM
      refine lv_if_ne (tgt := 29) hx hb dX4_marked_20 (by decide) (fun _ => ?_) (fun c => absurd c (by decide))
      refine lv_aload_n hx hb dX4_marked_29 rfl (lv_at hl 0 rfl) ?_
      refine bl_get E hin hM 6 (by decide) (by decide +kernel) rfl dX4_marked_30 ?_
      refine lv_iload_n hx hb dX4_marked_33 rfl (lv_at hl 1 rfl) ?_
      refine lv_bipush (v := 12) hx hb dX4_marked_34 (by decide) ?_
      refine lv_imul hx hb dX4_marked_36 ?_
      refine lv_iload_n hx hb dX4_marked_37 rfl (lv_at hl 2 rfl) ?_
      refine lv_iadd hx hb dX4_marked_38 ?_
      refine bl_ald E hM 1 (by decide) (bf_marks hp_17) dX4_marked_39 ?_
      exact bx_reti E hr hlk hM B rfl (by first | (simp [bf_marked, c_5, hp_17]; done) | (simp [bf_marked, c_5, hp_17]; rfl)) dX4_marked_40
    · have hM : bx_M D A s (bl_w t h a B Z) H locs := hM
      refine lv_if_ne (tgt := 29) hx hb dX4_marked_20 (by decide) (fun c => absurd c (by decide)) (fun _ => ?_)
      refine lv_aload_n hx hb dX4_marked_23 rfl (lv_at hl 0 rfl) ?_
      refine lv_iconst (v := 5) hx hb dX4_marked_24 (by decide) ?_
      refine bx_goi hM (bx_runV (As := [.int 5]) (rest := []) E hM (bX4_tell l D t A h a B Z 5) (bl_recv E hM) 1 gX4_marked_X4_tell rfl rfl rfl (by decide +kernel) ⟨Nat.le_of_ble_eq_true rfl, Nat.le_of_ble_eq_true rfl⟩ rfl hl.1 rfl (Nat.le_of_ble_eq_true rfl) dX4_marked_25 ⟨Nat.le_of_ble_eq_true rfl, Nat.le_of_ble_eq_true rfl⟩) (fun r u H locs hp hM => ?_)
      obtain ⟨rfl, rfl⟩ := hp
      have hM : bx_M D A s (bl_w t h a (bf_tell B 5) Z) H locs := hM
      exact bx_reti E hr hlk hM (bf_tell B 5) rfl (by first | (simp [bf_marked, c_5, hp_17]; done) | (simp [bf_marked, c_5, hp_17]; rfl)) dX4_marked_28
  · refine lv_aload_n hx hb dX4_marked_8 rfl (lv_at hl 0 rfl) ?_
    refine lv_iconst (v := 1) hx hb dX4_marked_9 (by decide) ?_
    refine bx_goi hM (bx_runV (As := [.int 1]) (rest := []) E hM (bX4_tell l D t A h a B Z 1) (bl_recv E hM) 1 gX4_marked_X4_tell rfl rfl rfl (by decide +kernel) ⟨Nat.le_of_ble_eq_true rfl, Nat.le_of_ble_eq_true rfl⟩ rfl hl.1 rfl (Nat.le_of_ble_eq_true rfl) dX4_marked_10 ⟨Nat.le_of_ble_eq_true rfl, Nat.le_of_ble_eq_true rfl⟩) (fun r u H locs hp hM => ?_)
    obtain ⟨rfl, rfl⟩ := hp
    have hM : bx_M D A s (bl_w t h a (bf_tell B 1) Z) H locs := hM
    exact bx_reti E hr hlk hM (bf_tell B 1) rfl (by first | (simp [bf_marked, c_5]; done) | (simp [bf_marked, c_5]; rfl)) dX4_marked_13

set_option maxHeartbeats 4000000 in
set_option maxRecDepth 100000 in
theorem bX4_away (l : Launch) (D : va_G) (t : bx_T) (A : Nat → Prop) (h : Nat) (a : Nat → Nat) (B : bl_S) (Z : va_W) (p0 : Int32) : bx_Ci l yX4_away wsX4_away ({ frames := 0, cells := 0, slots := 0, locals := 0 }) D t A [.ref h, .int p0] (bl_w t h a B Z) (fun (r : Int32) (u : bl_S) => r = (bf_away B p0).1 ∧ u = (bf_away B p0).2) (fun u => bl_w t h a u Z) 0 0 := by
  refine bx_enter (cc := cX4_away) (maxL := 3) (ret := some .int) (by decide) rfl (Nat.le_of_ble_eq_true rfl) ?_
  intro p e s m below meth c ls E hr hlk hnm hM hl
  have hl : lv_has ls 3 [(0, .ref h), (1, .int p0)] := hl
  have hx := E.1.1
  have hb := E.1.2.1
  have hin : ∀ w ∈ wsX40, w ∈ wsX4_away := by decide +kernel
  refine lv_iload_n hx hb dX4_away_0 rfl (lv_at hl 1 rfl) ?_
  by_cases c_1_0 : p0 = 0
  · refine lv_tableIn (tgt := 28) hx hb dX4_away_1 (by rw [c_1_0]; decide) (by rw [c_1_0]; decide) (by rw [c_1_0]; rfl) (by decide) ?_
    refine lv_aload_n hx hb dX4_away_28 rfl (lv_at hl 0 rfl) ?_
    refine bl_get E hin hM 2 (by decide) (by decide +kernel) rfl dX4_away_29 ?_
    refine lv_istore_n (lv' := [(2, .int (B.2.1 0)), (0, .ref h), (1, .int p0)]) hx hb dX4_away_32 rfl hl (by decide) rfl (fun ls hl => ?_)
    refine lv_aload_n hx hb dX4_away_33 rfl (lv_at hl 1 rfl) ?_
    refine lv_iconst (v := (-1)) hx hb dX4_away_34 (by decide) ?_
    refine bl_put (B' := bl_s B 0 (-1)) E hin hM 2 (by decide) (by decide +kernel) rfl rfl rfl rfl dX4_away_35 (fun H locs hM => ?_)
    have hM : bx_M D A s (bl_w t h a (bl_s B 0 (-1)) Z) H locs := hM
    refine lv_goto (tgt := 69) hx hb dX4_away_38 (by decide) ?_
    refine lv_iload_n hx hb dX4_away_69 rfl (lv_at hl 0 rfl) ?_
    refine lv_iconst (v := (-1)) hx hb dX4_away_70 (by decide) ?_
    refine lv_icmp_ne (tgt := 78) hx hb dX4_away_71 (by decide) (fun c_71 => ?_) (fun c_71 => ?_)
    · refine lv_iconst (v := 1) hx hb dX4_away_78 (by decide) ?_
      exact bx_reti E hr hlk hM (bl_s B 0 (-1)) rfl (by subst c_1_0; first | (simp [bf_away, c_71]; done) | (simp [bf_away, bf_sort, bf_wear, c_71]; done) | (simp [bf_away, c_71]; rfl)) dX4_away_79
    · refine lv_iconst (v := 0) hx hb dX4_away_74 (by decide) ?_
      refine lv_goto (tgt := 79) hx hb dX4_away_75 (by decide) ?_
      exact bx_reti E hr hlk hM (bl_s B 0 (-1)) rfl (by subst c_1_0; first | (simp [bf_away, c_71]; done) | (simp [bf_away, bf_sort, bf_wear, c_71]; done) | (simp [bf_away, c_71]; rfl)) dX4_away_79
  by_cases c_1_1 : p0 = 1
  · refine lv_tableIn (tgt := 41) hx hb dX4_away_1 (by rw [c_1_1]; decide) (by rw [c_1_1]; decide) (by rw [c_1_1]; rfl) (by decide) ?_
    refine lv_aload_n hx hb dX4_away_41 rfl (lv_at hl 0 rfl) ?_
    refine bl_get E hin hM 5 (by decide) (by decide +kernel) rfl dX4_away_42 ?_
    refine lv_istore_n (lv' := [(2, .int (B.2.1 2)), (0, .ref h), (1, .int p0)]) hx hb dX4_away_45 rfl hl (by decide) rfl (fun ls hl => ?_)
    refine lv_aload_n hx hb dX4_away_46 rfl (lv_at hl 1 rfl) ?_
    refine lv_iconst (v := (-1)) hx hb dX4_away_47 (by decide) ?_
    refine bl_put (B' := bl_s B 2 (-1)) E hin hM 5 (by decide) (by decide +kernel) rfl rfl rfl rfl dX4_away_48 (fun H locs hM => ?_)
    have hM : bx_M D A s (bl_w t h a (bl_s B 2 (-1)) Z) H locs := hM
    refine lv_goto (tgt := 69) hx hb dX4_away_51 (by decide) ?_
    refine lv_iload_n hx hb dX4_away_69 rfl (lv_at hl 0 rfl) ?_
    refine lv_iconst (v := (-1)) hx hb dX4_away_70 (by decide) ?_
    refine lv_icmp_ne (tgt := 78) hx hb dX4_away_71 (by decide) (fun c_71 => ?_) (fun c_71 => ?_)
    · refine lv_iconst (v := 1) hx hb dX4_away_78 (by decide) ?_
      exact bx_reti E hr hlk hM (bl_s B 2 (-1)) rfl (by subst c_1_1; first | (simp [bf_away, c_1_0, c_71]; done) | (simp [bf_away, bf_sort, bf_wear, c_1_0, c_71]; done) | (simp [bf_away, c_1_0, c_71]; rfl)) dX4_away_79
    · refine lv_iconst (v := 0) hx hb dX4_away_74 (by decide) ?_
      refine lv_goto (tgt := 79) hx hb dX4_away_75 (by decide) ?_
      exact bx_reti E hr hlk hM (bl_s B 2 (-1)) rfl (by subst c_1_1; first | (simp [bf_away, c_1_0, c_71]; done) | (simp [bf_away, bf_sort, bf_wear, c_1_0, c_71]; done) | (simp [bf_away, c_1_0, c_71]; rfl)) dX4_away_79
  by_cases c_1_2 : p0 = 2
  · refine lv_tableIn (tgt := 54) hx hb dX4_away_1 (by rw [c_1_2]; decide) (by rw [c_1_2]; decide) (by rw [c_1_2]; rfl) (by decide) ?_
    refine lv_aload_n hx hb dX4_away_54 rfl (lv_at hl 0 rfl) ?_
    refine bl_get E hin hM 7 (by decide) (by decide +kernel) rfl dX4_away_55 ?_
    refine lv_istore_n (lv' := [(2, .int (B.2.1 3)), (0, .ref h), (1, .int p0)]) hx hb dX4_away_58 rfl hl (by decide) rfl (fun ls hl => ?_)
    refine lv_aload_n hx hb dX4_away_59 rfl (lv_at hl 1 rfl) ?_
    refine lv_iconst (v := (-1)) hx hb dX4_away_60 (by decide) ?_
    refine bl_put (B' := bl_s B 3 (-1)) E hin hM 7 (by decide) (by decide +kernel) rfl rfl rfl rfl dX4_away_61 (fun H locs hM => ?_)
    have hM : bx_M D A s (bl_w t h a (bl_s B 3 (-1)) Z) H locs := hM
    refine lv_goto (tgt := 69) hx hb dX4_away_64 (by decide) ?_
    refine lv_iload_n hx hb dX4_away_69 rfl (lv_at hl 0 rfl) ?_
    refine lv_iconst (v := (-1)) hx hb dX4_away_70 (by decide) ?_
    refine lv_icmp_ne (tgt := 78) hx hb dX4_away_71 (by decide) (fun c_71 => ?_) (fun c_71 => ?_)
    · refine lv_iconst (v := 1) hx hb dX4_away_78 (by decide) ?_
      exact bx_reti E hr hlk hM (bl_s B 3 (-1)) rfl (by subst c_1_2; first | (simp [bf_away, c_1_0, c_1_1, c_71]; done) | (simp [bf_away, bf_sort, bf_wear, c_1_0, c_1_1, c_71]; done) | (simp [bf_away, c_1_0, c_1_1, c_71]; rfl)) dX4_away_79
    · refine lv_iconst (v := 0) hx hb dX4_away_74 (by decide) ?_
      refine lv_goto (tgt := 79) hx hb dX4_away_75 (by decide) ?_
      exact bx_reti E hr hlk hM (bl_s B 3 (-1)) rfl (by subst c_1_2; first | (simp [bf_away, c_1_0, c_1_1, c_71]; done) | (simp [bf_away, bf_sort, bf_wear, c_1_0, c_1_1, c_71]; done) | (simp [bf_away, c_1_0, c_1_1, c_71]; rfl)) dX4_away_79
  refine lv_tableOut (tgt := 67) hx hb dX4_away_1 (by have q0 := lv_neT c_1_0 (a := 0) (by decide); have q1 := lv_neT c_1_1 (a := 1) (by decide); have q2 := lv_neT c_1_2 (a := 2) (by decide); omega) (by decide) ?_
  refine lv_iconst (v := (-1)) hx hb dX4_away_67 (by decide) ?_
  exact bx_reti E hr hlk hM B rfl (by first | (simp [bf_away, c_1_0, c_1_1, c_1_2]; done) | (simp [bf_away, c_1_0, c_1_1, c_1_2]; rfl)) dX4_away_68

set_option maxHeartbeats 4000000 in
set_option maxRecDepth 100000 in
theorem bX4_about (l : Launch) (D : va_G) (t : bx_T) (A : Nat → Prop) (h : Nat) (a : Nat → Nat) (B : bl_S) (Z : va_W) (p0 : Int32) (p1 : Int32) (hI : bl_I B) : bx_Ci l yX4_about wsX4_about ({ frames := 2, cells := 0, slots := 0, locals := 42 }) D t A [.ref h, .int p0, .int p1] (bl_w t h a B Z) (fun (r : Int32) (u : bl_S) => r = (bf_about B p0 p1).1 ∧ u = (bf_about B p0 p1).2) (fun u => bl_w t h a u Z) 0 0 := by
  refine bx_enter (cc := cX4_about) (maxL := 4) (ret := some .int) (by decide) rfl (Nat.le_of_ble_eq_true rfl) ?_
  intro p e s m below meth c ls E hr hlk hnm hM hl
  have hl : lv_has ls 4 [(0, .ref h), (1, .int p0), (2, .int p1)] := hl
  have hx := E.1.1
  have hb := E.1.2.1
  have hin : ∀ w ∈ wsX40, w ∈ wsX4_about := by decide +kernel
  have h0 : ∀ w ∈ wsX00, w ∈ wsX4_about := by decide +kernel
  have h1 : ∀ w ∈ wsX10, w ∈ wsX4_about := by decide +kernel
  have h2 : ∀ w ∈ wsX20, w ∈ wsX4_about := by decide +kernel
  refine lv_iload_n hx hb dX4_about_0 rfl (lv_at hl 1 rfl) ?_
  refine bx_goi hM (bx_runS (As := [.int p0]) (rest := []) E hM (bX4_isHook l D t A (bl_w t h a B Z) p0) 1 gX4_about_X4_isHook rfl rfl rfl (by decide +kernel) ⟨Nat.le_of_ble_eq_true rfl, Nat.le_of_ble_eq_true rfl⟩ rfl hl.1 rfl (Nat.le_of_ble_eq_true rfl) dX4_about_1 ⟨Nat.le_of_ble_eq_true rfl, Nat.le_of_ble_eq_true rfl⟩) (fun r u H locs hp hM => ?_)
  rcases hp with ⟨rfl, hp_1⟩ | ⟨rfl, hp_1⟩
  · have hM : bx_M D A s (bl_w t h a B Z) H locs := hM
    refine lv_if_eq (tgt := 16) hx hb dX4_about_4 (by decide) (fun c => absurd c (by decide)) (fun _ => ?_)
    refine lv_iload_n hx hb dX4_about_7 rfl (lv_at hl 2 rfl) ?_
    refine lv_iconst (v := 0) hx hb dX4_about_8 (by decide) ?_
    refine lv_iconst (v := 5) hx hb dX4_about_9 (by decide) ?_
    refine bx_goi hM (bx_runS (As := [.int p1, .int 0, .int 5]) (rest := []) E hM (bX4_isWithin l D t A (bl_w t h a B Z) p1 0 5) 3 gX4_about_X4_isWithin rfl rfl rfl (by decide +kernel) ⟨Nat.le_of_ble_eq_true rfl, Nat.le_of_ble_eq_true rfl⟩ rfl hl.1 rfl (Nat.le_of_ble_eq_true rfl) dX4_about_10 ⟨Nat.le_of_ble_eq_true rfl, Nat.le_of_ble_eq_true rfl⟩) (fun r u H locs hp hM => ?_)
    rcases hp with ⟨rfl, hp_10⟩ | ⟨rfl, hp_10⟩
    · have hM : bx_M D A s (bl_w t h a B Z) H locs := hM
      refine lv_if_ne (tgt := 18) hx hb dX4_about_13 (by decide) (fun _ => ?_) (fun c => absurd c (by decide))
      refine lv_aload_n hx hb dX4_about_18 rfl (lv_at hl 0 rfl) ?_
      refine bl_get E hin hM 0 (by decide) (by decide +kernel) rfl dX4_about_19 ?_
      refine lv_iload_n hx hb dX4_about_22 rfl (lv_at hl 1 rfl) ?_
      refine bl_hk E hM (vp_inB hp_1 (by decide)) dX4_about_23 (fun hq_23 => ?_) (fun y_23 hq_23 => ?_)
      · have hq_23 := hq_23
        refine lv_astore_nN (lv' := [(3, .null), (0, .ref h), (1, .int p0), (2, .int p1)]) hx hb dX4_about_24 rfl hl (by decide) rfl (fun ls hl => ?_)
        refine lv_aload_nN hx hb dX4_about_25 rfl (lv_at hl 0 rfl) ?_
        refine lv_ifnonnullN hx hb dX4_about_26 ?_
        refine lv_iconst (v := 0) hx hb dX4_about_29 (by decide) ?_
        exact bx_reti E hr hlk hM B rfl (by first | (simp [bf_about, hp_1, hp_10, hq_23]; done) | (simp [bf_about, hp_1, hp_10, hq_23]; rfl)) dX4_about_30
      · have hm_y_23 := hI.1 _ (vp_lt (vp_inB (n := 10) hp_1 (by decide))) y_23 hq_23
        refine lv_astore_n (lv' := [(3, .ref y_23), (0, .ref h), (1, .int p0), (2, .int p1)]) hx hb dX4_about_24 rfl hl (by decide) rfl (fun ls hl => ?_)
        refine lv_aload_n hx hb dX4_about_25 rfl (lv_at hl 0 rfl) ?_
        refine lv_ifnonnull (tgt := 31) hx hb dX4_about_26 (by decide) ?_
        refine lv_iload_n hx hb dX4_about_31 rfl (lv_at hl 3 rfl) ?_
        by_cases c_32_0 : p1 = 0
        · refine lv_tableIn (tgt := 68) hx hb dX4_about_32 (by rw [c_32_0]; decide) (by rw [c_32_0]; decide) (by rw [c_32_0]; rfl) (by decide) ?_
          refine lv_aload_n hx hb dX4_about_68 rfl (lv_at hl 0 rfl) ?_
          by_cases hk3_69 : bK B y_23 = 3
          · refine bx_goi hM (bx_runU (As := []) (rest := []) E hM (bX1_sortNumber l D t A (bl_w t h a B Z) y_23) (bl_recv3 E hM hm_y_23 hk3_69) (va_cwA 0 E.1.2.2.2.2 gX4_about_X1_sortNumber_u131X1 rfl rfl rfl E.2.1.2.2.2.2.2.2.2.2.2.2.2.2.2.1 (by decide +kernel) ⟨Nat.le_of_ble_eq_true rfl, Nat.le_of_ble_eq_true rfl⟩) rfl hl.1 rfl (Nat.le_of_ble_eq_true rfl) dX4_about_69 ⟨Nat.le_of_ble_eq_true rfl, Nat.le_of_ble_eq_true rfl⟩) (fun r u H locs hp hM => ?_)
            subst hp
            have hM : bx_M D A s (bl_w t h a B Z) H locs := hM
            exact bx_reti E hr hlk hM B rfl (by subst c_32_0; first | (simp [bf_about, hp_1, hp_10, hq_23, hk3_69]; done) | (simp [bf_about, bf_sort, bf_wear, hp_1, hp_10, hq_23, hk3_69]; done) | (simp [bf_about, hp_1, hp_10, hq_23, hk3_69]; rfl)) dX4_about_72
          by_cases hk2_69 : bK B y_23 = 2
          · refine bx_goi hM (bx_runU (As := []) (rest := []) E hM (bX2_sortNumber l D t A (bl_w t h a B Z) y_23) (bl_recv2 E hM hm_y_23 hk2_69) (va_cwA 0 E.1.2.2.2.2 gX4_about_X2_sortNumber_u131X2 rfl rfl rfl E.2.1.2.2.2.2.2.2.2.2.2.2.2.2.2.1 (by decide +kernel) ⟨Nat.le_of_ble_eq_true rfl, Nat.le_of_ble_eq_true rfl⟩) rfl hl.1 rfl (Nat.le_of_ble_eq_true rfl) dX4_about_69 ⟨Nat.le_of_ble_eq_true rfl, Nat.le_of_ble_eq_true rfl⟩) (fun r u H locs hp hM => ?_)
            subst hp
            have hM : bx_M D A s (bl_w t h a B Z) H locs := hM
            exact bx_reti E hr hlk hM B rfl (by subst c_32_0; first | (simp [bf_about, hp_1, hp_10, hq_23, hk3_69, hk2_69]; done) | (simp [bf_about, bf_sort, bf_wear, hp_1, hp_10, hq_23, hk3_69, hk2_69]; done) | (simp [bf_about, hp_1, hp_10, hq_23, hk3_69, hk2_69]; rfl)) dX4_about_72
          · refine bx_goi hM (bx_runU (As := []) (rest := []) E hM (bX0_sortNumber l D t A (bl_w t h a B Z) y_23) (bl_recv1 E hM hm_y_23 hk3_69 hk2_69) (va_cwA 0 E.1.2.2.2.2 gX4_about_X0_sortNumber_u131X0 rfl rfl rfl E.2.1.2.2.2.2.2.2.2.2.2.2.2.2.2.1 (by decide +kernel) ⟨Nat.le_of_ble_eq_true rfl, Nat.le_of_ble_eq_true rfl⟩) rfl hl.1 rfl (Nat.le_of_ble_eq_true rfl) dX4_about_69 ⟨Nat.le_of_ble_eq_true rfl, Nat.le_of_ble_eq_true rfl⟩) (fun r u H locs hp hM => ?_)
            subst hp
            have hM : bx_M D A s (bl_w t h a B Z) H locs := hM
            exact bx_reti E hr hlk hM B rfl (by subst c_32_0; first | (simp [bf_about, hp_1, hp_10, hq_23, hk3_69, hk2_69]; done) | (simp [bf_about, bf_sort, bf_wear, hp_1, hp_10, hq_23, hk3_69, hk2_69]; done) | (simp [bf_about, hp_1, hp_10, hq_23, hk3_69, hk2_69]; rfl)) dX4_about_72
        by_cases c_32_1 : p1 = 1
        · refine lv_tableIn (tgt := 73) hx hb dX4_about_32 (by rw [c_32_1]; decide) (by rw [c_32_1]; decide) (by rw [c_32_1]; rfl) (by decide) ?_
          refine lv_aload_n hx hb dX4_about_73 rfl (lv_at hl 0 rfl) ?_
          refine bl_gW E h0 h1 h2 hM hm_y_23 (by decide +kernel) (fun _ h9 => h9) dX4_about_74 ?_
          exact bx_reti E hr hlk hM B rfl (by subst c_32_1; first | (simp [bf_about, hp_1, hp_10, hq_23, c_32_0]; done) | (simp [bf_about, bf_sort, bf_wear, hp_1, hp_10, hq_23, c_32_0]; done) | (simp [bf_about, hp_1, hp_10, hq_23, c_32_0]; rfl)) dX4_about_77
        by_cases c_32_2 : p1 = 2
        · refine lv_tableIn (tgt := 78) hx hb dX4_about_32 (by rw [c_32_2]; decide) (by rw [c_32_2]; decide) (by rw [c_32_2]; rfl) (by decide) ?_
          refine lv_aload_n hx hb dX4_about_78 rfl (lv_at hl 0 rfl) ?_
          by_cases hk3_79 : bK B y_23 = 3
          · refine bx_goi hM (bx_runU (As := []) (rest := []) E hM (bX3_strokesSoFar l D t A (bl_w t h a B Z) y_23) (bl_recv3 E hM hm_y_23 hk3_79) (va_cwU 0 E.1.2.2.2.2 gX4_about_X3_strokesSoFar_u135X1 rfl rfl rfl rfl (by decide +kernel) ⟨Nat.le_of_ble_eq_true rfl, Nat.le_of_ble_eq_true rfl⟩) rfl hl.1 rfl (Nat.le_of_ble_eq_true rfl) dX4_about_79 ⟨Nat.le_of_ble_eq_true rfl, Nat.le_of_ble_eq_true rfl⟩) (fun r u H locs hp hM => ?_)
            subst hp
            have hM : bx_M D A s (bl_w t h a B Z) H locs := hM
            exact bx_reti E hr hlk hM B rfl (by subst c_32_2; first | (simp [bf_about, hp_1, hp_10, hq_23, c_32_0, c_32_1, hk3_79]; done) | (simp [bf_about, bf_sort, bf_wear, hp_1, hp_10, hq_23, c_32_0, c_32_1, hk3_79]; done) | (simp [bf_about, hp_1, hp_10, hq_23, c_32_0, c_32_1, hk3_79]; rfl)) dX4_about_82
          by_cases hk2_79 : bK B y_23 = 2
          · refine bx_goi hM (bx_runU (As := []) (rest := []) E hM (bX0_strokesSoFar l D t A h a B Z y_23 hm_y_23 (by rw [show bK B y_23 = 2 from hk2_79]; decide)) (bl_recv2 E hM hm_y_23 hk2_79) (va_cwO 0 E.1.2.2.2.2 gX4_about_X0_strokesSoFar_u135X2 rfl rfl rfl (show Cond.code yX3_strokesSoFar cX3_strokesSoFar 1 (some .int) ∈ wsX4_about by decide +kernel) (by decide +kernel) ⟨Nat.le_of_ble_eq_true rfl, Nat.le_of_ble_eq_true rfl⟩) rfl hl.1 rfl (Nat.le_of_ble_eq_true rfl) dX4_about_79 ⟨Nat.le_of_ble_eq_true rfl, Nat.le_of_ble_eq_true rfl⟩) (fun r u H locs hp hM => ?_)
            subst hp
            have hM : bx_M D A s (bl_w t h a B Z) H locs := hM
            exact bx_reti E hr hlk hM B rfl (by subst c_32_2; first | (simp [bf_about, hp_1, hp_10, hq_23, c_32_0, c_32_1, hk3_79, hk2_79]; done) | (simp [bf_about, bf_sort, bf_wear, hp_1, hp_10, hq_23, c_32_0, c_32_1, hk3_79, hk2_79]; done) | (simp [bf_about, hp_1, hp_10, hq_23, c_32_0, c_32_1, hk3_79, hk2_79]; rfl)) dX4_about_82
          · refine bx_goi hM (bx_runU (As := []) (rest := []) E hM (bX0_strokesSoFar l D t A h a B Z y_23 hm_y_23 hk3_79) (bl_recv1 E hM hm_y_23 hk3_79 hk2_79) (va_cwO 0 E.1.2.2.2.2 gX4_about_X0_strokesSoFar_u135X0 rfl rfl rfl (show Cond.code yX3_strokesSoFar cX3_strokesSoFar 1 (some .int) ∈ wsX4_about by decide +kernel) (by decide +kernel) ⟨Nat.le_of_ble_eq_true rfl, Nat.le_of_ble_eq_true rfl⟩) rfl hl.1 rfl (Nat.le_of_ble_eq_true rfl) dX4_about_79 ⟨Nat.le_of_ble_eq_true rfl, Nat.le_of_ble_eq_true rfl⟩) (fun r u H locs hp hM => ?_)
            subst hp
            have hM : bx_M D A s (bl_w t h a B Z) H locs := hM
            exact bx_reti E hr hlk hM B rfl (by subst c_32_2; first | (simp [bf_about, hp_1, hp_10, hq_23, c_32_0, c_32_1, hk3_79, hk2_79]; done) | (simp [bf_about, bf_sort, bf_wear, hp_1, hp_10, hq_23, c_32_0, c_32_1, hk3_79, hk2_79]; done) | (simp [bf_about, hp_1, hp_10, hq_23, c_32_0, c_32_1, hk3_79, hk2_79]; rfl)) dX4_about_82
        by_cases c_32_3 : p1 = 3
        · refine lv_tableIn (tgt := 83) hx hb dX4_about_32 (by rw [c_32_3]; decide) (by rw [c_32_3]; decide) (by rw [c_32_3]; rfl) (by decide) ?_
          refine lv_aload_n hx hb dX4_about_83 rfl (lv_at hl 0 rfl) ?_
          by_cases hk3_84 : bK B y_23 = 3
          · refine bx_goi hM (bx_runU (As := []) (rest := []) E hM (bX3_humOrNone l D t A (bl_w t h a B Z) y_23) (bl_recv3 E hM hm_y_23 hk3_84) (va_cwU 0 E.1.2.2.2.2 gX4_about_X3_humOrNone_u138X1 rfl rfl rfl rfl (by decide +kernel) ⟨Nat.le_of_ble_eq_true rfl, Nat.le_of_ble_eq_true rfl⟩) rfl hl.1 rfl (Nat.le_of_ble_eq_true rfl) dX4_about_84 ⟨Nat.le_of_ble_eq_true rfl, Nat.le_of_ble_eq_true rfl⟩) (fun r u H locs hp hM => ?_)
            subst hp
            have hM : bx_M D A s (bl_w t h a B Z) H locs := hM
            exact bx_reti E hr hlk hM B rfl (by subst c_32_3; first | (simp [bf_about, hp_1, hp_10, hq_23, c_32_0, c_32_1, c_32_2, hk3_84]; done) | (simp [bf_about, bf_sort, bf_wear, hp_1, hp_10, hq_23, c_32_0, c_32_1, c_32_2, hk3_84]; done) | (simp [bf_about, hp_1, hp_10, hq_23, c_32_0, c_32_1, c_32_2, hk3_84]; rfl)) dX4_about_87
          by_cases hk2_84 : bK B y_23 = 2
          · refine bx_goi hM (bx_runU (As := []) (rest := []) E hM (bX2_humOrNone l D t A h a B Z y_23 hm_y_23 hk2_84) (bl_recv2 E hM hm_y_23 hk2_84) (va_cwO 0 E.1.2.2.2.2 gX4_about_X2_humOrNone_u138X2 rfl rfl rfl (show Cond.code yX3_humOrNone cX3_humOrNone 1 (some .int) ∈ wsX4_about by decide +kernel) (by decide +kernel) ⟨Nat.le_of_ble_eq_true rfl, Nat.le_of_ble_eq_true rfl⟩) rfl hl.1 rfl (Nat.le_of_ble_eq_true rfl) dX4_about_84 ⟨Nat.le_of_ble_eq_true rfl, Nat.le_of_ble_eq_true rfl⟩) (fun r u H locs hp hM => ?_)
            subst hp
            have hM : bx_M D A s (bl_w t h a B Z) H locs := hM
            exact bx_reti E hr hlk hM B rfl (by subst c_32_3; first | (simp [bf_about, hp_1, hp_10, hq_23, c_32_0, c_32_1, c_32_2, hk3_84, hk2_84]; done) | (simp [bf_about, bf_sort, bf_wear, hp_1, hp_10, hq_23, c_32_0, c_32_1, c_32_2, hk3_84, hk2_84]; done) | (simp [bf_about, hp_1, hp_10, hq_23, c_32_0, c_32_1, c_32_2, hk3_84, hk2_84]; rfl)) dX4_about_87
          · refine bx_goi hM (bx_runU (As := []) (rest := []) E hM (bX3_humOrNone l D t A (bl_w t h a B Z) y_23) (bl_recv1 E hM hm_y_23 hk3_84 hk2_84) (va_cwU 0 E.1.2.2.2.2 gX4_about_X3_humOrNone_u138X0 rfl rfl rfl rfl (by decide +kernel) ⟨Nat.le_of_ble_eq_true rfl, Nat.le_of_ble_eq_true rfl⟩) rfl hl.1 rfl (Nat.le_of_ble_eq_true rfl) dX4_about_84 ⟨Nat.le_of_ble_eq_true rfl, Nat.le_of_ble_eq_true rfl⟩) (fun r u H locs hp hM => ?_)
            subst hp
            have hM : bx_M D A s (bl_w t h a B Z) H locs := hM
            exact bx_reti E hr hlk hM B rfl (by subst c_32_3; first | (simp [bf_about, hp_1, hp_10, hq_23, c_32_0, c_32_1, c_32_2, hk3_84, hk2_84]; done) | (simp [bf_about, bf_sort, bf_wear, hp_1, hp_10, hq_23, c_32_0, c_32_1, c_32_2, hk3_84, hk2_84]; done) | (simp [bf_about, hp_1, hp_10, hq_23, c_32_0, c_32_1, c_32_2, hk3_84, hk2_84]; rfl)) dX4_about_87
        by_cases c_32_4 : p1 = 4
        · refine lv_tableIn (tgt := 88) hx hb dX4_about_32 (by rw [c_32_4]; decide) (by rw [c_32_4]; decide) (by rw [c_32_4]; rfl) (by decide) ?_
          refine lv_aload_n hx hb dX4_about_88 rfl (lv_at hl 0 rfl) ?_
          by_cases hk3_89 : bK B y_23 = 3
          · refine bx_goi hM (bx_runU (As := []) (rest := []) E hM (bX1_wearSoFar l D t A h a B Z y_23 hm_y_23 hk3_89) (bl_recv3 E hM hm_y_23 hk3_89) (va_cwA 0 E.1.2.2.2.2 gX4_about_X1_wearSoFar_u141X1 rfl rfl rfl E.2.1.2.2.2.2.2.2.2.2.2.2.2.2.2.2 (by decide +kernel) ⟨Nat.le_of_ble_eq_true rfl, Nat.le_of_ble_eq_true rfl⟩) rfl hl.1 rfl (Nat.le_of_ble_eq_true rfl) dX4_about_89 ⟨Nat.le_of_ble_eq_true rfl, Nat.le_of_ble_eq_true rfl⟩) (fun r u H locs hp hM => ?_)
            subst hp
            have hM : bx_M D A s (bl_w t h a B Z) H locs := hM
            exact bx_reti E hr hlk hM B rfl (by subst c_32_4; first | (simp [bf_about, hp_1, hp_10, hq_23, c_32_0, c_32_1, c_32_2, c_32_3, hk3_89]; done) | (simp [bf_about, bf_sort, bf_wear, hp_1, hp_10, hq_23, c_32_0, c_32_1, c_32_2, c_32_3, hk3_89]; done) | (simp [bf_about, hp_1, hp_10, hq_23, c_32_0, c_32_1, c_32_2, c_32_3, hk3_89]; rfl)) dX4_about_92
          by_cases hk2_89 : bK B y_23 = 2
          · refine bx_goi hM (bx_runU (As := []) (rest := []) E hM (bX0_wearSoFar l D t A h a B Z y_23 hI hm_y_23 (by rw [show bK B y_23 = 2 from hk2_89]; decide)) (bl_recv2 E hM hm_y_23 hk2_89) (va_cwA 0 E.1.2.2.2.2 gX4_about_X0_wearSoFar_u141X2 rfl rfl rfl E.2.1.2.2.2.2.2.2.2.2.2.2.2.2.2.2 (by decide +kernel) ⟨Nat.le_of_ble_eq_true rfl, Nat.le_of_ble_eq_true rfl⟩) rfl hl.1 rfl (Nat.le_of_ble_eq_true rfl) dX4_about_89 ⟨Nat.le_of_ble_eq_true rfl, Nat.le_of_ble_eq_true rfl⟩) (fun r u H locs hp hM => ?_)
            subst hp
            have hM : bx_M D A s (bl_w t h a B Z) H locs := hM
            exact bx_reti E hr hlk hM B rfl (by subst c_32_4; first | (simp [bf_about, hp_1, hp_10, hq_23, c_32_0, c_32_1, c_32_2, c_32_3, hk3_89, hk2_89]; done) | (simp [bf_about, bf_sort, bf_wear, hp_1, hp_10, hq_23, c_32_0, c_32_1, c_32_2, c_32_3, hk3_89, hk2_89]; done) | (simp [bf_about, hp_1, hp_10, hq_23, c_32_0, c_32_1, c_32_2, c_32_3, hk3_89, hk2_89]; rfl)) dX4_about_92
          · refine bx_goi hM (bx_runU (As := []) (rest := []) E hM (bX0_wearSoFar l D t A h a B Z y_23 hI hm_y_23 hk3_89) (bl_recv1 E hM hm_y_23 hk3_89 hk2_89) (va_cwA 0 E.1.2.2.2.2 gX4_about_X0_wearSoFar_u141X0 rfl rfl rfl E.2.1.2.2.2.2.2.2.2.2.2.2.2.2.2.2 (by decide +kernel) ⟨Nat.le_of_ble_eq_true rfl, Nat.le_of_ble_eq_true rfl⟩) rfl hl.1 rfl (Nat.le_of_ble_eq_true rfl) dX4_about_89 ⟨Nat.le_of_ble_eq_true rfl, Nat.le_of_ble_eq_true rfl⟩) (fun r u H locs hp hM => ?_)
            subst hp
            have hM : bx_M D A s (bl_w t h a B Z) H locs := hM
            exact bx_reti E hr hlk hM B rfl (by subst c_32_4; first | (simp [bf_about, hp_1, hp_10, hq_23, c_32_0, c_32_1, c_32_2, c_32_3, hk3_89, hk2_89]; done) | (simp [bf_about, bf_sort, bf_wear, hp_1, hp_10, hq_23, c_32_0, c_32_1, c_32_2, c_32_3, hk3_89, hk2_89]; done) | (simp [bf_about, hp_1, hp_10, hq_23, c_32_0, c_32_1, c_32_2, c_32_3, hk3_89, hk2_89]; rfl)) dX4_about_92
        refine lv_tableOut (tgt := 93) hx hb dX4_about_32 (by have q0 := lv_neT c_32_0 (a := 0) (by decide); have q1 := lv_neT c_32_1 (a := 1) (by decide); have q2 := lv_neT c_32_2 (a := 2) (by decide); have q3 := lv_neT c_32_3 (a := 3) (by decide); have q4 := lv_neT c_32_4 (a := 4) (by decide); omega) (by decide) ?_
        refine lv_aload_n hx hb dX4_about_93 rfl (lv_at hl 0 rfl) ?_
        by_cases hk3_94 : bK B y_23 = 3
        · refine bx_goi hM (bx_runU (As := []) (rest := []) E hM (bX3_alarmOrNone l D t A (bl_w t h a B Z) y_23) (bl_recv3 E hM hm_y_23 hk3_94) (va_cwU 0 E.1.2.2.2.2 gX4_about_X3_alarmOrNone_u144X1 rfl rfl rfl rfl (by decide +kernel) ⟨Nat.le_of_ble_eq_true rfl, Nat.le_of_ble_eq_true rfl⟩) rfl hl.1 rfl (Nat.le_of_ble_eq_true rfl) dX4_about_94 ⟨Nat.le_of_ble_eq_true rfl, Nat.le_of_ble_eq_true rfl⟩) (fun r u H locs hp hM => ?_)
          subst hp
          have hM : bx_M D A s (bl_w t h a B Z) H locs := hM
          exact bx_reti E hr hlk hM B rfl (by first | (simp [bf_about, hp_1, hp_10, hq_23, c_32_0, c_32_1, c_32_2, c_32_3, c_32_4, hk3_94]; done) | (simp [bf_about, hp_1, hp_10, hq_23, c_32_0, c_32_1, c_32_2, c_32_3, c_32_4, hk3_94]; rfl)) dX4_about_97
        by_cases hk2_94 : bK B y_23 = 2
        · refine bx_goi hM (bx_runU (As := []) (rest := []) E hM (bX0_alarmOrNone l D t A h a B Z y_23 hm_y_23 (by rw [show bK B y_23 = 2 from hk2_94]; decide)) (bl_recv2 E hM hm_y_23 hk2_94) (va_cwO 0 E.1.2.2.2.2 gX4_about_X0_alarmOrNone_u144X2 rfl rfl rfl (show Cond.code yX3_alarmOrNone cX3_alarmOrNone 1 (some .int) ∈ wsX4_about by decide +kernel) (by decide +kernel) ⟨Nat.le_of_ble_eq_true rfl, Nat.le_of_ble_eq_true rfl⟩) rfl hl.1 rfl (Nat.le_of_ble_eq_true rfl) dX4_about_94 ⟨Nat.le_of_ble_eq_true rfl, Nat.le_of_ble_eq_true rfl⟩) (fun r u H locs hp hM => ?_)
          subst hp
          have hM : bx_M D A s (bl_w t h a B Z) H locs := hM
          exact bx_reti E hr hlk hM B rfl (by first | (simp [bf_about, hp_1, hp_10, hq_23, c_32_0, c_32_1, c_32_2, c_32_3, c_32_4, hk3_94, hk2_94]; done) | (simp [bf_about, hp_1, hp_10, hq_23, c_32_0, c_32_1, c_32_2, c_32_3, c_32_4, hk3_94, hk2_94]; rfl)) dX4_about_97
        · refine bx_goi hM (bx_runU (As := []) (rest := []) E hM (bX0_alarmOrNone l D t A h a B Z y_23 hm_y_23 hk3_94) (bl_recv1 E hM hm_y_23 hk3_94 hk2_94) (va_cwO 0 E.1.2.2.2.2 gX4_about_X0_alarmOrNone_u144X0 rfl rfl rfl (show Cond.code yX3_alarmOrNone cX3_alarmOrNone 1 (some .int) ∈ wsX4_about by decide +kernel) (by decide +kernel) ⟨Nat.le_of_ble_eq_true rfl, Nat.le_of_ble_eq_true rfl⟩) rfl hl.1 rfl (Nat.le_of_ble_eq_true rfl) dX4_about_94 ⟨Nat.le_of_ble_eq_true rfl, Nat.le_of_ble_eq_true rfl⟩) (fun r u H locs hp hM => ?_)
          subst hp
          have hM : bx_M D A s (bl_w t h a B Z) H locs := hM
          exact bx_reti E hr hlk hM B rfl (by first | (simp [bf_about, hp_1, hp_10, hq_23, c_32_0, c_32_1, c_32_2, c_32_3, c_32_4, hk3_94, hk2_94]; done) | (simp [bf_about, hp_1, hp_10, hq_23, c_32_0, c_32_1, c_32_2, c_32_3, c_32_4, hk3_94, hk2_94]; rfl)) dX4_about_97
    · have hM : bx_M D A s (bl_w t h a B Z) H locs := hM
      refine lv_if_ne (tgt := 18) hx hb dX4_about_13 (by decide) (fun c => absurd c (by decide)) (fun _ => ?_)
      refine lv_iconst (v := (-1)) hx hb dX4_about_16 (by decide) ?_
      exact bx_reti E hr hlk hM B rfl (by first | (simp [bf_about, hp_1, hp_10]; done) | (simp [bf_about, hp_1, hp_10]; rfl)) dX4_about_17
  · have hM : bx_M D A s (bl_w t h a B Z) H locs := hM
    refine lv_if_eq (tgt := 16) hx hb dX4_about_4 (by decide) (fun _ => ?_) (fun c => absurd c (by decide))
    refine lv_iconst (v := (-1)) hx hb dX4_about_16 (by decide) ?_
    exact bx_reti E hr hlk hM B rfl (by first | (simp [bf_about, hp_1]; done) | (simp [bf_about, hp_1]; rfl)) dX4_about_17

set_option maxHeartbeats 4000000 in
set_option maxRecDepth 100000 in
theorem bX4_reasons (l : Launch) (D : va_G) (t : bx_T) (A : Nat → Prop) (h : Nat) (a : Nat → Nat) (B : bl_S) (Z : va_W) (p0 : Int32) : bx_Ci l yX4_reasons wsX4_reasons ({ frames := 1, cells := 0, slots := 0, locals := 22 }) D t A [.ref h, .int p0] (bl_w t h a B Z) (fun (r : Int32) (u : bl_S) => r = (bf_reasons B p0).1 ∧ u = (bf_reasons B p0).2) (fun u => bl_w t h a u Z) 0 0 := by
  refine bx_enter (cc := cX4_reasons) (maxL := 2) (ret := some .int) (by decide) rfl (Nat.le_of_ble_eq_true rfl) ?_
  intro p e s m below meth c ls E hr hlk hnm hM hl
  have hl : lv_has ls 2 [(0, .ref h), (1, .int p0)] := hl
  have hx := E.1.1
  have hb := E.1.2.1
  have hin : ∀ w ∈ wsX40, w ∈ wsX4_reasons := by decide +kernel
  refine lv_iload_n hx hb dX4_reasons_0 rfl (lv_at hl 1 rfl) ?_
  refine lv_iconst (v := 1) hx hb dX4_reasons_1 (by decide) ?_
  refine lv_bipush (v := 6) hx hb dX4_reasons_2 (by decide) ?_
  refine bx_goi hM (bx_runS (As := [.int p0, .int 1, .int 6]) (rest := []) E hM (bX4_isWithin l D t A (bl_w t h a B Z) p0 1 6) 3 gX4_reasons_X4_isWithin rfl rfl rfl (by decide +kernel) ⟨Nat.le_of_ble_eq_true rfl, Nat.le_of_ble_eq_true rfl⟩ rfl hl.1 rfl (Nat.le_of_ble_eq_true rfl) dX4_reasons_4 ⟨Nat.le_of_ble_eq_true rfl, Nat.le_of_ble_eq_true rfl⟩) (fun r u H locs hp hM => ?_)
  rcases hp with ⟨rfl, hp_4⟩ | ⟨rfl, hp_4⟩
  · have hM : bx_M D A s (bl_w t h a B Z) H locs := hM
    refine lv_if_eq (tgt := 19) hx hb dX4_reasons_7 (by decide) (fun c => absurd c (by decide)) (fun _ => ?_)
    refine lv_aload_n hx hb dX4_reasons_10 rfl (lv_at hl 0 rfl) ?_
    refine bl_get E hin hM 9 (by decide) (by decide +kernel) rfl dX4_reasons_11 ?_
    refine lv_iload_n hx hb dX4_reasons_14 rfl (lv_at hl 1 rfl) ?_
    refine bl_ald E hM 2 (by decide) (vp_in16 hp_4) dX4_reasons_15 ?_
    refine lv_goto (tgt := 20) hx hb dX4_reasons_16 (by decide) ?_
    exact bx_reti E hr hlk hM B rfl (by first | (simp [bf_reasons, hp_4]; done) | (simp [bf_reasons, hp_4]; rfl)) dX4_reasons_20
  · have hM : bx_M D A s (bl_w t h a B Z) H locs := hM
    refine lv_if_eq (tgt := 19) hx hb dX4_reasons_7 (by decide) (fun _ => ?_) (fun c => absurd c (by decide))
    refine lv_iconst (v := (-1)) hx hb dX4_reasons_19 (by decide) ?_
    exact bx_reti E hr hlk hM B rfl (by first | (simp [bf_reasons, hp_4]; done) | (simp [bf_reasons, hp_4]; rfl)) dX4_reasons_20
