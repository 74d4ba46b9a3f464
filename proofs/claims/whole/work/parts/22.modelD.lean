theorem free_up {P : Nat → Prop} {i : Nat} (h : ∀ j : Nat, j < i → ¬ P j) (hi : ¬ P i) : ∀ j : Nat, j < i + 1 → ¬ P j := by
  intro j hj
  rcases Nat.lt_or_ge j i with q | q
  · exact h j q
  · rw [show j = i by omega]; exact hi

set_option maxHeartbeats 4000000 in
set_option maxRecDepth 100000 in
theorem lpX5_free1 {p : Program} {l : Launch} {e : Env} {s : State} {m : MethodId} {args : Array Value} {below : List Frame} {meth : Method} {c : Code} {D : va_G} {t : bx_T} {A : Nat → Prop} {h : Nat} {a : Nat → Nat} {Z : va_W} {Q : State → Prop} (E : bx_E p m c cX5_free 4 s args wsX5_free RX5 D t A) (hin : ∀ w ∈ wsX50, w ∈ wsX5_free) (S : md_S) (hf : md_ln (S.2 0)) (n : Nat) (kk : ∀ (z : Int32) (H : Heap) (locs : List Loc) (ls : Array Slot), ((z = 1 ∧ md_taken S (nI n)) ∨ (z = 0 ∧ ¬ md_taken S (nI n))) → bx_M D A s (md_w t.1 h a S ++ Z) H locs → lv_has ls 4 [(3, .int (nI 64)), (2, .int z), (1, .int (nI n)), (0, .ref h)] → W p l e ({ frames := 1, cells := 0, slots := 0, locals := 23 }) s m args below meth c H locs 0 0 Q (F0 m 70 ls [])) : ∀ (k i : Nat) (z : Int32) (H : Heap) (locs : List Loc) (ls : Array Slot), i + k = 64 → ((z = 1 ∧ md_taken S (nI n)) ∨ (z = 0 ∧ ¬ md_held S (nI n) ∧ ∀ j : Nat, j < i → ¬ (S.1 3 j = nI n ∧ inB (S.1 0 j) 1 2 = true ∧ md_held S (nI j)))) → bx_M D A s (md_w t.1 h a S ++ Z) H locs → lv_has ls 4 [(3, .int (nI i)), (2, .int z), (1, .int (nI n)), (0, .ref h)] → W p l e ({ frames := 1, cells := 0, slots := 0, locals := 23 }) s m args below meth c H locs 0 0 Q (F0 m 16 ls []) := by
  have hx := E.1.1
  have hb := E.1.2.1
  intro k
  induction k with
  | zero =>
    intro i z H locs ls hi hz hM hl
    have hi : i = 64 := by omega
    subst hi
    have hlt : ¬ nI 64 < 64 := nI_nltl (n := 64) rfl (Nat.le_refl _) (by decide)
    refine lv_iload_n hx hb dX5_free_16 rfl (lv_at hl 0 rfl) ?_
    refine lv_bipush (v := 64) hx hb dX5_free_17 (by decide) ?_
    refine lv_icmp_ge (tgt := 70) hx hb dX5_free_19 (by decide) (fun _ => ?_) (fun c => absurd (Int32.not_le.mp c) hlt)
    exact kk z H locs ls (hz.imp id (fun q => ⟨q.1, fun g => g.elim q.2.1 (fun g => g.elim fun j hj => q.2.2 j hj.1 ⟨hj.2.1, hj.2.2.1, hj.2.2.2⟩)⟩)) hM hl
  | succ k ih =>
    intro i z H locs ls hi hz hM hl
    have hlt : nI i < 64 := nI_ltl (n := 64) rfl (by omega) (by decide)
    have hcl : (nI i).toNatClampNeg = i := nI_clamp (by omega)
    rcases hz with ⟨rfl, hz⟩ | ⟨rfl, hz⟩
    · have hlt := hlt
      refine lv_iload_n hx hb dX5_free_16 rfl (lv_at hl 0 rfl) ?_
      refine lv_bipush (v := 64) hx hb dX5_free_17 (by decide) ?_
      refine lv_icmp_ge (tgt := 70) hx hb dX5_free_19 (by decide) (fun c => absurd hlt (Int32.not_lt.mpr c)) (fun _ => ?_)
      refine lv_iload_n hx hb dX5_free_22 rfl (lv_at hl 1 rfl) ?_
      refine lv_if_ne (tgt := 58) hx hb dX5_free_23 (by decide) (fun _ => ?_) (fun c => absurd c (by decide))
      refine lv_iconst (v := 1) hx hb dX5_free_58 (by decide) ?_
      refine lv_goto (tgt := 63) hx hb dX5_free_59 (by decide) ?_
      refine lv_istore_n (lv' := [(2, .int 1), (3, .int (nI i)), (1, .int (nI n)), (0, .ref h)]) hx hb dX5_free_63 rfl hl (by decide) rfl (fun ls hl => ?_)
      refine lv_iinc (v := nI i + 1) (lv' := [(3, .int (nI i + 1)), (2, .int 1), (1, .int (nI n)), (0, .ref h)]) hx hb dX5_free_64 hl (k := 1) rfl rfl (by decide) rfl (fun ls hl => ?_)
      refine lv_goto (tgt := 16) hx hb dX5_free_67 (by decide) ?_
      rw [nI_1] at hl
      exact ih (i + 1) 1 _ _ ls (by omega) (Or.inl ⟨rfl, hz⟩) hM (lv_sub hl [0, 1, 2, 3] rfl)
    · have hlt := hlt
      refine lv_iload_n hx hb dX5_free_16 rfl (lv_at hl 0 rfl) ?_
      refine lv_bipush (v := 64) hx hb dX5_free_17 (by decide) ?_
      refine lv_icmp_ge (tgt := 70) hx hb dX5_free_19 (by decide) (fun c => absurd hlt (Int32.not_lt.mpr c)) (fun _ => ?_)
      refine lv_iload_n hx hb dX5_free_22 rfl (lv_at hl 1 rfl) ?_
      refine lv_if_ne (tgt := 58) hx hb dX5_free_23 (by decide) (fun c => absurd c (by decide)) (fun _ => ?_)
      refine lv_aload_n hx hb dX5_free_26 rfl (lv_at hl 3 rfl) ?_
      refine md_get E hin hM 3 (by decide) (by decide +kernel) rfl dX5_free_27 ?_
      refine lv_iload_n hx hb dX5_free_30 rfl (lv_at hl 0 rfl) ?_
      refine md_ald E hM 3 (by decide) (vp_in_nI (show i < 64 by omega) (by decide)) dX5_free_31 ?_
      refine lv_iload_n hx hb dX5_free_32 rfl (lv_at hl 2 rfl) ?_
      refine lv_icmp_ne (tgt := 62) hx hb dX5_free_33 (by decide) (fun c_33 => ?_) (fun c_33 => ?_)
      · refine lv_iconst (v := 0) hx hb dX5_free_62 (by decide) ?_
        refine lv_istore_n (lv' := [(2, .int 0), (3, .int (nI i)), (1, .int (nI n)), (0, .ref h)]) hx hb dX5_free_63 rfl hl (by decide) rfl (fun ls hl => ?_)
        refine lv_iinc (v := nI i + 1) (lv' := [(3, .int (nI i + 1)), (2, .int 0), (1, .int (nI n)), (0, .ref h)]) hx hb dX5_free_64 hl (k := 1) rfl rfl (by decide) rfl (fun ls hl => ?_)
        refine lv_goto (tgt := 16) hx hb dX5_free_67 (by decide) ?_
        rw [nI_1] at hl
        rw [hcl] at c_33
        exact ih (i + 1) 0 _ _ ls (by omega) (Or.inr ⟨rfl, hz.1, free_up hz.2 (fun q => c_33 q.1)⟩) hM (lv_sub hl [0, 1, 2, 3] rfl)
      · refine lv_aload_n hx hb dX5_free_36 rfl (lv_at hl 3 rfl) ?_
        refine md_get E hin hM 0 (by decide) (by decide +kernel) rfl dX5_free_37 ?_
        refine lv_iload_n hx hb dX5_free_40 rfl (lv_at hl 0 rfl) ?_
        refine md_ald E hM 0 (by decide) (vp_in_nI (show i < 64 by omega) (by decide)) dX5_free_41 ?_
        refine lv_iconst (v := 1) hx hb dX5_free_42 (by decide) ?_
        refine lv_iconst (v := 2) hx hb dX5_free_43 (by decide) ?_
        refine bx_goi hM (bx_runS (As := [.int (S.1 0 (nI i).toNatClampNeg), .int 1, .int 2]) (rest := []) E hM (cX5c_in l D t A (md_w t.1 h a S ++ Z) (S.1 0 (nI i).toNatClampNeg) 1 2) 3 gX5_free_X5_in rfl rfl rfl (by decide +kernel) ⟨Nat.le_of_ble_eq_true rfl, Nat.le_of_ble_eq_true rfl⟩ rfl hl.1 rfl (Nat.le_of_ble_eq_true rfl) dX5_free_44 ⟨Nat.le_of_ble_eq_true rfl, Nat.le_of_ble_eq_true rfl⟩) (fun r u H locs hp hM => ?_)
        rcases hp with ⟨rfl, hp_44⟩ | ⟨rfl, hp_44⟩
        · have hM : bx_M D A s (md_w t.1 h a S ++ Z) H locs := hM
          refine lv_if_eq (tgt := 62) hx hb dX5_free_47 (by decide) (fun c => absurd c (by decide)) (fun _ => ?_)
          refine lv_aload_n hx hb dX5_free_50 rfl (lv_at hl 3 rfl) ?_
          refine lv_iload_n hx hb dX5_free_51 rfl (lv_at hl 0 rfl) ?_
          refine bx_goi hM (bx_runV (As := [.int (nI i)]) (rest := []) E hM (cX5c_isHeld l D t A h a S Z (nI i) hf) (md_recv E hM) 1 gX5_free_X5_isHeld rfl rfl rfl (by decide +kernel) ⟨Nat.le_of_ble_eq_true rfl, Nat.le_of_ble_eq_true rfl⟩ rfl hl.1 rfl (Nat.le_of_ble_eq_true rfl) dX5_free_52 ⟨Nat.le_of_ble_eq_true rfl, Nat.le_of_ble_eq_true rfl⟩) (fun r u H locs hp hM => ?_)
          rcases hp with ⟨rfl, hp_52⟩ | ⟨rfl, hp_52⟩
          · have hM : bx_M D A s (md_w t.1 h a S ++ Z) H locs := hM
            refine lv_if_eq (tgt := 62) hx hb dX5_free_55 (by decide) (fun c => absurd c (by decide)) (fun _ => ?_)
            refine lv_iconst (v := 1) hx hb dX5_free_58 (by decide) ?_
            refine lv_goto (tgt := 63) hx hb dX5_free_59 (by decide) ?_
            refine lv_istore_n (lv' := [(2, .int 1), (3, .int (nI i)), (1, .int (nI n)), (0, .ref h)]) hx hb dX5_free_63 rfl hl (by decide) rfl (fun ls hl => ?_)
            refine lv_iinc (v := nI i + 1) (lv' := [(3, .int (nI i + 1)), (2, .int 1), (1, .int (nI n)), (0, .ref h)]) hx hb dX5_free_64 hl (k := 1) rfl rfl (by decide) rfl (fun ls hl => ?_)
            refine lv_goto (tgt := 16) hx hb dX5_free_67 (by decide) ?_
            rw [nI_1] at hl
            rw [hcl] at c_33
            rw [hcl] at hp_44
            exact ih (i + 1) 1 _ _ ls (by omega) (Or.inl ⟨rfl, Or.inr ⟨i, by omega, c_33, hp_44, hp_52⟩⟩) hM (lv_sub hl [0, 1, 2, 3] rfl)
          · have hM : bx_M D A s (md_w t.1 h a S ++ Z) H locs := hM
            refine lv_if_eq (tgt := 62) hx hb dX5_free_55 (by decide) (fun _ => ?_) (fun c => absurd c (by decide))
            refine lv_iconst (v := 0) hx hb dX5_free_62 (by decide) ?_
            refine lv_istore_n (lv' := [(2, .int 0), (3, .int (nI i)), (1, .int (nI n)), (0, .ref h)]) hx hb dX5_free_63 rfl hl (by decide) rfl (fun ls hl => ?_)
            refine lv_iinc (v := nI i + 1) (lv' := [(3, .int (nI i + 1)), (2, .int 0), (1, .int (nI n)), (0, .ref h)]) hx hb dX5_free_64 hl (k := 1) rfl rfl (by decide) rfl (fun ls hl => ?_)
            refine lv_goto (tgt := 16) hx hb dX5_free_67 (by decide) ?_
            rw [nI_1] at hl
            rw [hcl] at c_33
            rw [hcl] at hp_44
            exact ih (i + 1) 0 _ _ ls (by omega) (Or.inr ⟨rfl, hz.1, free_up hz.2 (fun q => hp_52 q.2.2)⟩) hM (lv_sub hl [0, 1, 2, 3] rfl)
        · have hM : bx_M D A s (md_w t.1 h a S ++ Z) H locs := hM
          refine lv_if_eq (tgt := 62) hx hb dX5_free_47 (by decide) (fun _ => ?_) (fun c => absurd c (by decide))
          refine lv_iconst (v := 0) hx hb dX5_free_62 (by decide) ?_
          refine lv_istore_n (lv' := [(2, .int 0), (3, .int (nI i)), (1, .int (nI n)), (0, .ref h)]) hx hb dX5_free_63 rfl hl (by decide) rfl (fun ls hl => ?_)
          refine lv_iinc (v := nI i + 1) (lv' := [(3, .int (nI i + 1)), (2, .int 0), (1, .int (nI n)), (0, .ref h)]) hx hb dX5_free_64 hl (k := 1) rfl rfl (by decide) rfl (fun ls hl => ?_)
          refine lv_goto (tgt := 16) hx hb dX5_free_67 (by decide) ?_
          rw [nI_1] at hl
          rw [hcl] at c_33
          rw [hcl] at hp_44
          exact ih (i + 1) 0 _ _ ls (by omega) (Or.inr ⟨rfl, hz.1, free_up hz.2 (fun q => absurd (q.2.1.symm.trans hp_44) (by decide))⟩) hM (lv_sub hl [0, 1, 2, 3] rfl)

set_option maxHeartbeats 4000000 in
set_option maxRecDepth 100000 in
theorem lpX5_free2 {p : Program} {l : Launch} {e : Env} {s : State} {m : MethodId} {args : Array Value} {below : List Frame} {meth : Method} {c : Code} {D : va_G} {t : bx_T} {A : Nat → Prop} {h : Nat} {a : Nat → Nat} {Z : va_W} (E : bx_E p m c cX5_free 4 s args wsX5_free RX5 D t A) (hin : ∀ w ∈ wsX50, w ∈ wsX5_free) (hr : meth.sig.returnType = some .int) (hlk : meth.locks = false) (S : md_S) (hf : md_ln (S.2 0)) (n0 : Nat) (hn0 : n0 < 64) (hfr : ¬ md_taken S (nI n0)) : ∀ (k n : Nat) (H : Heap) (locs : List Loc) (ls : Array Slot), n + k = n0 → bx_M D A s (md_w t.1 h a S ++ Z) H locs → lv_has ls 4 [(2, .int 1), (1, .int (nI n)), (0, .ref h)] → W p l e ({ frames := 1, cells := 0, slots := 0, locals := 23 }) s m args below meth c H locs 0 0 (MQ below (va_Qi (fun (r : Int32) (_ : Unit) => ∃ n : Nat, n < 64 ∧ r = nI n ∧ ¬ md_taken S (nI n)) (fun (_ : Unit) U => bx_J D A (md_w t.1 h a S ++ Z) U) A) args s 0 0 A) (F0 m 4 ls []) := by
  have hx := E.1.1
  have hb := E.1.2.1
  intro k
  induction k with
  | zero =>
    intro n H locs ls hi hM hl
    refine lv_iload_n hx hb dX5_free_4 rfl (lv_at hl 0 rfl) ?_
    refine lv_if_eq (tgt := 85) hx hb dX5_free_5 (by decide) (fun c => absurd c (by decide)) (fun _ => ?_)
    refine lv_aload_n hx hb dX5_free_8 rfl (lv_at hl 2 rfl) ?_
    refine lv_iload_n hx hb dX5_free_9 rfl (lv_at hl 1 rfl) ?_
    refine bx_goi hM (bx_runV (As := [.int (nI n)]) (rest := []) E hM (cX5c_isHeld l D t A h a S Z (nI n) hf) (md_recv E hM) 1 gX5_free_X5_isHeld rfl rfl rfl (by decide +kernel) ⟨Nat.le_of_ble_eq_true rfl, Nat.le_of_ble_eq_true rfl⟩ rfl hl.1 rfl (Nat.le_of_ble_eq_true rfl) dX5_free_10 ⟨Nat.le_of_ble_eq_true rfl, Nat.le_of_ble_eq_true rfl⟩) (fun r u H locs hp hM => ?_)
    rcases hp with ⟨rfl, hp_10⟩ | ⟨rfl, hp_10⟩
    · have hM : bx_M D A s (md_w t.1 h a S ++ Z) H locs := hM
      refine lv_istore_n (lv' := [(2, .int 1), (1, .int (nI n)), (0, .ref h)]) hx hb dX5_free_13 rfl hl (by decide) rfl (fun ls hl => ?_)
      refine lv_iconst (v := 0) hx hb dX5_free_14 (by decide) ?_
      refine lv_istore_n (lv' := [(3, .int 0), (2, .int 1), (1, .int (nI n)), (0, .ref h)]) hx hb dX5_free_15 rfl hl (by decide) rfl (fun ls hl => ?_)
      refine lpX5_free1 E hin S hf n (fun z H locs ls hz hM hl => ?_) 64 0 1 _ _ ls rfl (Or.inl ⟨rfl, Or.inl hp_10⟩) hM (lv_sub hl [0, 1, 2, 3] rfl)
      rcases hz with ⟨rfl, hz⟩ | ⟨rfl, hz⟩
      · have hl := hl
        exact absurd (by rw [← hi]; exact hz) hfr
      · have hl := hl
        refine lv_iload_n hx hb dX5_free_70 rfl (lv_at hl 2 rfl) ?_
        refine lv_iload_n hx hb dX5_free_71 rfl (lv_at hl 1 rfl) ?_
        refine lv_if_eq (tgt := 79) hx hb dX5_free_72 (by decide) (fun _ => ?_) (fun c => absurd c (by decide))
        refine lv_iconst (v := 0) hx hb dX5_free_79 (by decide) ?_
        refine lv_iadd hx hb dX5_free_80 ?_
        refine lv_istore_n (lv' := [(1, .int ((nI n) + 0)), (3, .int (nI 64)), (2, .int 0), (0, .ref h)]) hx hb dX5_free_81 rfl hl (by decide) rfl (fun ls hl => ?_)
        refine lv_goto (tgt := 4) hx hb dX5_free_82 (by decide) ?_
        refine lv_iload_n hx hb dX5_free_4 rfl (lv_at hl 2 rfl) ?_
        refine lv_if_eq (tgt := 85) hx hb dX5_free_5 (by decide) (fun _ => ?_) (fun c => absurd c (by decide))
        refine lv_iload_n hx hb dX5_free_85 rfl (lv_at hl 0 rfl) ?_
        exact bx_reti E hr hlk hM () rfl (⟨n, by omega, Int32.add_zero _, hz⟩) dX5_free_86
    · have hM : bx_M D A s (md_w t.1 h a S ++ Z) H locs := hM
      refine lv_istore_n (lv' := [(2, .int 0), (1, .int (nI n)), (0, .ref h)]) hx hb dX5_free_13 rfl hl (by decide) rfl (fun ls hl => ?_)
      refine lv_iconst (v := 0) hx hb dX5_free_14 (by decide) ?_
      refine lv_istore_n (lv' := [(3, .int 0), (2, .int 0), (1, .int (nI n)), (0, .ref h)]) hx hb dX5_free_15 rfl hl (by decide) rfl (fun ls hl => ?_)
      refine lpX5_free1 E hin S hf n (fun z H locs ls hz hM hl => ?_) 64 0 0 _ _ ls rfl (Or.inr ⟨rfl, hp_10, fun j hj => absurd hj (Nat.not_lt_zero j)⟩) hM (lv_sub hl [0, 1, 2, 3] rfl)
      rcases hz with ⟨rfl, hz⟩ | ⟨rfl, hz⟩
      · have hl := hl
        exact absurd (by rw [← hi]; exact hz) hfr
      · have hl := hl
        refine lv_iload_n hx hb dX5_free_70 rfl (lv_at hl 2 rfl) ?_
        refine lv_iload_n hx hb dX5_free_71 rfl (lv_at hl 1 rfl) ?_
        refine lv_if_eq (tgt := 79) hx hb dX5_free_72 (by decide) (fun _ => ?_) (fun c => absurd c (by decide))
        refine lv_iconst (v := 0) hx hb dX5_free_79 (by decide) ?_
        refine lv_iadd hx hb dX5_free_80 ?_
        refine lv_istore_n (lv' := [(1, .int ((nI n) + 0)), (3, .int (nI 64)), (2, .int 0), (0, .ref h)]) hx hb dX5_free_81 rfl hl (by decide) rfl (fun ls hl => ?_)
        refine lv_goto (tgt := 4) hx hb dX5_free_82 (by decide) ?_
        refine lv_iload_n hx hb dX5_free_4 rfl (lv_at hl 2 rfl) ?_
        refine lv_if_eq (tgt := 85) hx hb dX5_free_5 (by decide) (fun _ => ?_) (fun c => absurd c (by decide))
        refine lv_iload_n hx hb dX5_free_85 rfl (lv_at hl 0 rfl) ?_
        exact bx_reti E hr hlk hM () rfl (⟨n, by omega, Int32.add_zero _, hz⟩) dX5_free_86
  | succ k ih =>
    intro n H locs ls hi hM hl
    refine lv_iload_n hx hb dX5_free_4 rfl (lv_at hl 0 rfl) ?_
    refine lv_if_eq (tgt := 85) hx hb dX5_free_5 (by decide) (fun c => absurd c (by decide)) (fun _ => ?_)
    refine lv_aload_n hx hb dX5_free_8 rfl (lv_at hl 2 rfl) ?_
    refine lv_iload_n hx hb dX5_free_9 rfl (lv_at hl 1 rfl) ?_
    refine bx_goi hM (bx_runV (As := [.int (nI n)]) (rest := []) E hM (cX5c_isHeld l D t A h a S Z (nI n) hf) (md_recv E hM) 1 gX5_free_X5_isHeld rfl rfl rfl (by decide +kernel) ⟨Nat.le_of_ble_eq_true rfl, Nat.le_of_ble_eq_true rfl⟩ rfl hl.1 rfl (Nat.le_of_ble_eq_true rfl) dX5_free_10 ⟨Nat.le_of_ble_eq_true rfl, Nat.le_of_ble_eq_true rfl⟩) (fun r u H locs hp hM => ?_)
    rcases hp with ⟨rfl, hp_10⟩ | ⟨rfl, hp_10⟩
    · have hM : bx_M D A s (md_w t.1 h a S ++ Z) H locs := hM
      refine lv_istore_n (lv' := [(2, .int 1), (1, .int (nI n)), (0, .ref h)]) hx hb dX5_free_13 rfl hl (by decide) rfl (fun ls hl => ?_)
      refine lv_iconst (v := 0) hx hb dX5_free_14 (by decide) ?_
      refine lv_istore_n (lv' := [(3, .int 0), (2, .int 1), (1, .int (nI n)), (0, .ref h)]) hx hb dX5_free_15 rfl hl (by decide) rfl (fun ls hl => ?_)
      refine lpX5_free1 E hin S hf n (fun z H locs ls hz hM hl => ?_) 64 0 1 _ _ ls rfl (Or.inl ⟨rfl, Or.inl hp_10⟩) hM (lv_sub hl [0, 1, 2, 3] rfl)
      rcases hz with ⟨rfl, hz⟩ | ⟨rfl, hz⟩
      · have hl := hl
        refine lv_iload_n hx hb dX5_free_70 rfl (lv_at hl 2 rfl) ?_
        refine lv_iload_n hx hb dX5_free_71 rfl (lv_at hl 1 rfl) ?_
        refine lv_if_eq (tgt := 79) hx hb dX5_free_72 (by decide) (fun c => absurd c (by decide)) (fun _ => ?_)
        refine lv_iconst (v := 1) hx hb dX5_free_75 (by decide) ?_
        refine lv_goto (tgt := 80) hx hb dX5_free_76 (by decide) ?_
        refine lv_iadd hx hb dX5_free_80 ?_
        refine lv_istore_n (lv' := [(1, .int ((nI n) + 1)), (3, .int (nI 64)), (2, .int 1), (0, .ref h)]) hx hb dX5_free_81 rfl hl (by decide) rfl (fun ls hl => ?_)
        refine lv_goto (tgt := 4) hx hb dX5_free_82 (by decide) ?_
        rw [nI_1] at hl
        exact ih (n + 1) _ _ ls (by omega) hM (lv_sub hl [2, 0, 3] rfl)
      · have hl := hl
        refine lv_iload_n hx hb dX5_free_70 rfl (lv_at hl 2 rfl) ?_
        refine lv_iload_n hx hb dX5_free_71 rfl (lv_at hl 1 rfl) ?_
        refine lv_if_eq (tgt := 79) hx hb dX5_free_72 (by decide) (fun _ => ?_) (fun c => absurd c (by decide))
        refine lv_iconst (v := 0) hx hb dX5_free_79 (by decide) ?_
        refine lv_iadd hx hb dX5_free_80 ?_
        refine lv_istore_n (lv' := [(1, .int ((nI n) + 0)), (3, .int (nI 64)), (2, .int 0), (0, .ref h)]) hx hb dX5_free_81 rfl hl (by decide) rfl (fun ls hl => ?_)
        refine lv_goto (tgt := 4) hx hb dX5_free_82 (by decide) ?_
        refine lv_iload_n hx hb dX5_free_4 rfl (lv_at hl 2 rfl) ?_
        refine lv_if_eq (tgt := 85) hx hb dX5_free_5 (by decide) (fun _ => ?_) (fun c => absurd c (by decide))
        refine lv_iload_n hx hb dX5_free_85 rfl (lv_at hl 0 rfl) ?_
        exact bx_reti E hr hlk hM () rfl (⟨n, by omega, Int32.add_zero _, hz⟩) dX5_free_86
    · have hM : bx_M D A s (md_w t.1 h a S ++ Z) H locs := hM
      refine lv_istore_n (lv' := [(2, .int 0), (1, .int (nI n)), (0, .ref h)]) hx hb dX5_free_13 rfl hl (by decide) rfl (fun ls hl => ?_)
      refine lv_iconst (v := 0) hx hb dX5_free_14 (by decide) ?_
      refine lv_istore_n (lv' := [(3, .int 0), (2, .int 0), (1, .int (nI n)), (0, .ref h)]) hx hb dX5_free_15 rfl hl (by decide) rfl (fun ls hl => ?_)
      refine lpX5_free1 E hin S hf n (fun z H locs ls hz hM hl => ?_) 64 0 0 _ _ ls rfl (Or.inr ⟨rfl, hp_10, fun j hj => absurd hj (Nat.not_lt_zero j)⟩) hM (lv_sub hl [0, 1, 2, 3] rfl)
      rcases hz with ⟨rfl, hz⟩ | ⟨rfl, hz⟩
      · have hl := hl
        refine lv_iload_n hx hb dX5_free_70 rfl (lv_at hl 2 rfl) ?_
        refine lv_iload_n hx hb dX5_free_71 rfl (lv_at hl 1 rfl) ?_
        refine lv_if_eq (tgt := 79) hx hb dX5_free_72 (by decide) (fun c => absurd c (by decide)) (fun _ => ?_)
        refine lv_iconst (v := 1) hx hb dX5_free_75 (by decide) ?_
        refine lv_goto (tgt := 80) hx hb dX5_free_76 (by decide) ?_
        refine lv_iadd hx hb dX5_free_80 ?_
        refine lv_istore_n (lv' := [(1, .int ((nI n) + 1)), (3, .int (nI 64)), (2, .int 1), (0, .ref h)]) hx hb dX5_free_81 rfl hl (by decide) rfl (fun ls hl => ?_)
        refine lv_goto (tgt := 4) hx hb dX5_free_82 (by decide) ?_
        rw [nI_1] at hl
        exact ih (n + 1) _ _ ls (by omega) hM (lv_sub hl [2, 0, 3] rfl)
      · have hl := hl
        refine lv_iload_n hx hb dX5_free_70 rfl (lv_at hl 2 rfl) ?_
        refine lv_iload_n hx hb dX5_free_71 rfl (lv_at hl 1 rfl) ?_
        refine lv_if_eq (tgt := 79) hx hb dX5_free_72 (by decide) (fun _ => ?_) (fun c => absurd c (by decide))
        refine lv_iconst (v := 0) hx hb dX5_free_79 (by decide) ?_
        refine lv_iadd hx hb dX5_free_80 ?_
        refine lv_istore_n (lv' := [(1, .int ((nI n) + 0)), (3, .int (nI 64)), (2, .int 0), (0, .ref h)]) hx hb dX5_free_81 rfl hl (by decide) rfl (fun ls hl => ?_)
        refine lv_goto (tgt := 4) hx hb dX5_free_82 (by decide) ?_
        refine lv_iload_n hx hb dX5_free_4 rfl (lv_at hl 2 rfl) ?_
        refine lv_if_eq (tgt := 85) hx hb dX5_free_5 (by decide) (fun _ => ?_) (fun c => absurd c (by decide))
        refine lv_iload_n hx hb dX5_free_85 rfl (lv_at hl 0 rfl) ?_
        exact bx_reti E hr hlk hM () rfl (⟨n, by omega, Int32.add_zero _, hz⟩) dX5_free_86

set_option maxHeartbeats 4000000 in
set_option maxRecDepth 100000 in
theorem cX5c_free (l : Launch) (D : va_G) (t : bx_T) (A : Nat → Prop) (h : Nat) (a : Nat → Nat) (S : md_S) (Z : va_W) (hf : md_ln (S.2 0)) (hex : ∃ n : Nat, n < 64 ∧ ¬ md_taken S (nI n)) : bx_Ci l yX5_free wsX5_free ({ frames := 1, cells := 0, slots := 0, locals := 23 }) D t A [.ref h] (md_w t.1 h a S ++ Z) (fun (r : Int32) (_ : Unit) => ∃ n : Nat, n < 64 ∧ r = nI n ∧ ¬ md_taken S (nI n)) (fun _ => md_w t.1 h a S ++ Z) 0 0 := by
  refine bx_enter (cc := cX5_free) (maxL := 4) (ret := some .int) (by decide) rfl (Nat.le_of_ble_eq_true rfl) ?_
  intro p e s m below meth c ls E hr hlk hnm hM hl
  have hl : lv_has ls 4 [(0, .ref h)] := hl
  have hx := E.1.1
  have hb := E.1.2.1
  have hin : ∀ w ∈ wsX50, w ∈ wsX5_free := by decide +kernel
  refine lv_iconst (v := 0) hx hb dX5_free_0 (by decide) ?_
  refine lv_istore_n (lv' := [(1, .int 0), (0, .ref h)]) hx hb dX5_free_1 rfl hl (by decide) rfl (fun ls hl => ?_)
  refine lv_iconst (v := 1) hx hb dX5_free_2 (by decide) ?_
  refine lv_istore_n (lv' := [(2, .int 1), (1, .int 0), (0, .ref h)]) hx hb dX5_free_3 rfl hl (by decide) rfl (fun ls hl => ?_)
  obtain ⟨n0, hn0, hfr⟩ := hex
  exact lpX5_free2 E hin hr hlk S hf n0 hn0 hfr n0 0 _ _ ls (Nat.zero_add _) hM (lv_sub hl [0, 1, 2] rfl)

set_option maxHeartbeats 4000000 in
set_option maxRecDepth 100000 in
theorem cX5c_hang (l : Launch) (D : va_G) (t : bx_T) (A : Nat → Prop) (h : Nat) (a : Nat → Nat) (S : md_S) (Z : va_W) (p0 p1 p2 : Int32) (hI : md_I S) (hex : ∃ n : Nat, n < 64 ∧ ¬ md_taken (md_ai S 7 p0.toNatClampNeg (-1)) (nI n)) : bx_Ci l yX5_hang wsX5_hang ({ frames := 2, cells := 0, slots := 0, locals := 46 }) D t A [.ref h, .int p0, .int p1, .int p2] (md_w t.1 h a S ++ Z) (fun (r : Int32) (u : md_S) => ∃ n : Nat, n < 64 ∧ ¬ md_taken (md_ai S 7 p0.toNatClampNeg (-1)) (nI n) ∧ r = (mf_hang S p0 p1 p2 n).1 ∧ u = (mf_hang S p0 p1 p2 n).2) (fun u => md_w t.1 h a u ++ Z) 0 0 := by
  refine bx_enter (cc := cX5_hang) (maxL := 6) (ret := some .int) (by decide) rfl (Nat.le_of_ble_eq_true rfl) ?_
  intro p e s m below meth c ls E hr hlk hnm hM hl
  have hl : lv_has ls 6 [(0, .ref h), (1, .int p0), (2, .int p1), (3, .int p2)] := hl
  have hx := E.1.1
  have hb := E.1.2.1
  have hin : ∀ w ∈ wsX50, w ∈ wsX5_hang := by decide +kernel
  refine lv_iload_n hx hb dX5_hang_0 rfl (lv_at hl 1 rfl) ?_
  refine bx_goi hM (bx_runS (As := [.int p0]) (rest := []) E hM (cX5c_isHook l D t A (md_w t.1 h a S ++ Z) p0) 1 gX5_hang_X5_isHook rfl rfl rfl (by decide +kernel) ⟨Nat.le_of_ble_eq_true rfl, Nat.le_of_ble_eq_true rfl⟩ rfl hl.1 rfl (Nat.le_of_ble_eq_true rfl) dX5_hang_1 ⟨Nat.le_of_ble_eq_true rfl, Nat.le_of_ble_eq_true rfl⟩) (fun r u H locs hp hM => ?_)
  rcases hp with ⟨rfl, hp_1⟩ | ⟨rfl, hp_1⟩
  · have hM : bx_M D A s (md_w t.1 h a S ++ Z) H locs := hM
    refine lv_if_eq (tgt := 31) hx hb dX5_hang_4 (by decide) (fun c => absurd c (by decide)) (fun _ => ?_)
    refine lv_iload_n hx hb dX5_hang_7 rfl (lv_at hl 2 rfl) ?_
    refine lv_iconst (v := 0) hx hb dX5_hang_8 (by decide) ?_
    refine lv_iconst (v := 3) hx hb dX5_hang_9 (by decide) ?_
    refine bx_goi hM (bx_runS (As := [.int p1, .int 0, .int 3]) (rest := []) E hM (cX5c_in l D t A (md_w t.1 h a S ++ Z) p1 0 3) 3 gX5_hang_X5_in rfl rfl rfl (by decide +kernel) ⟨Nat.le_of_ble_eq_true rfl, Nat.le_of_ble_eq_true rfl⟩ rfl hl.1 rfl (Nat.le_of_ble_eq_true rfl) dX5_hang_10 ⟨Nat.le_of_ble_eq_true rfl, Nat.le_of_ble_eq_true rfl⟩) (fun r u H locs hp hM => ?_)
    rcases hp with ⟨rfl, hp_10⟩ | ⟨rfl, hp_10⟩
    · have hM : bx_M D A s (md_w t.1 h a S ++ Z) H locs := hM
      refine lv_if_eq (tgt := 31) hx hb dX5_hang_13 (by decide) (fun c => absurd c (by decide)) (fun _ => ?_)
      refine lv_iload_n hx hb dX5_hang_16 rfl (lv_at hl 2 rfl) ?_
      refine lv_if_le (tgt := 33) hx hb dX5_hang_17 (by decide) (fun c_17 => ?_) (fun c_17 => ?_)
      · have c_17 := Int32.not_lt.mpr c_17
        refine lv_aload_n hx hb dX5_hang_33 rfl (lv_at hl 0 rfl) ?_
        refine lv_iload_n hx hb dX5_hang_34 rfl (lv_at hl 1 rfl) ?_
        refine bx_goi hM (bx_runV (As := [.int p0]) (rest := []) E hM (cX5c_sortAt l D t A h a S Z p0 hI hp_1) (md_recv E hM) 1 gX5_hang_X5_sortAt rfl rfl rfl (by decide +kernel) ⟨Nat.le_of_ble_eq_true rfl, Nat.le_of_ble_eq_true rfl⟩ rfl hl.1 rfl (Nat.le_of_ble_eq_true rfl) dX5_hang_35 ⟨Nat.le_of_ble_eq_true rfl, Nat.le_of_ble_eq_true rfl⟩) (fun r u H locs hp hM => ?_)
        subst hp
        have hM : bx_M D A s (md_w t.1 h a S ++ Z) H locs := hM
        refine lv_istore (lv' := [(4, .int (mf_sortAt S p0)), (0, .ref h), (1, .int p0), (2, .int p1), (3, .int p2)]) hx hb dX5_hang_38 hl (by decide) rfl (fun ls hl => ?_)
        refine lv_aload_n hx hb dX5_hang_40 rfl (lv_at hl 1 rfl) ?_
        refine md_get E hin hM 7 (by decide) (by decide +kernel) rfl dX5_hang_41 ?_
        refine lv_iload_n hx hb dX5_hang_44 rfl (lv_at hl 2 rfl) ?_
        refine lv_iconst (v := (-1)) hx hb dX5_hang_45 (by decide) ?_
        refine md_ast E hM 7 (by decide) (md_hk hp_1) dX5_hang_46 (fun H locs hM => ?_)
        have hM : bx_M D A s (md_w t.1 h a (md_ai S 7 p0.toNatClampNeg (-1)) ++ Z) H locs := hM
        refine lv_iload_n hx hb dX5_hang_47 rfl (lv_at hl 3 rfl) ?_
        refine lv_if_le (tgt := 121) hx hb dX5_hang_48 (by decide) (fun _ => ?_) (fun c => absurd (Int32.not_le.mp c) c_17)
        refine lv_iload hx hb dX5_hang_121 (lv_at hl 0 rfl) ?_
        exact bx_reti E hr hlk hM (md_ai S 7 p0.toNatClampNeg (-1)) rfl (by obtain ⟨n, hn, hnt⟩ := hex; exact ⟨n, hn, hnt, by simp [mf_hang, hp_1, hp_10, c_17]⟩) dX5_hang_123
      · have c_17 := Int32.not_le.mp c_17
        refine lv_iload_n hx hb dX5_hang_20 rfl (lv_at hl 3 rfl) ?_
        refine lv_iconst (v := 1) hx hb dX5_hang_21 (by decide) ?_
        refine lv_sipush (v := 1000) hx hb dX5_hang_22 (by decide) ?_
        refine bx_goi hM (bx_runS (As := [.int p2, .int 1, .int 1000]) (rest := []) E hM (cX5c_in l D t A (md_w t.1 h a S ++ Z) p2 1 1000) 3 gX5_hang_X5_in rfl rfl rfl (by decide +kernel) ⟨Nat.le_of_ble_eq_true rfl, Nat.le_of_ble_eq_true rfl⟩ rfl hl.1 rfl (Nat.le_of_ble_eq_true rfl) dX5_hang_25 ⟨Nat.le_of_ble_eq_true rfl, Nat.le_of_ble_eq_true rfl⟩) (fun r u H locs hp hM => ?_)
        rcases hp with ⟨rfl, hp_25⟩ | ⟨rfl, hp_25⟩
        · have hM : bx_M D A s (md_w t.1 h a S ++ Z) H locs := hM
          refine lv_if_ne (tgt := 33) hx hb dX5_hang_28 (by decide) (fun _ => ?_) (fun c => absurd c (by decide))
          refine lv_aload_n hx hb dX5_hang_33 rfl (lv_at hl 0 rfl) ?_
          refine lv_iload_n hx hb dX5_hang_34 rfl (lv_at hl 1 rfl) ?_
          refine bx_goi hM (bx_runV (As := [.int p0]) (rest := []) E hM (cX5c_sortAt l D t A h a S Z p0 hI hp_1) (md_recv E hM) 1 gX5_hang_X5_sortAt rfl rfl rfl (by decide +kernel) ⟨Nat.le_of_ble_eq_true rfl, Nat.le_of_ble_eq_true rfl⟩ rfl hl.1 rfl (Nat.le_of_ble_eq_true rfl) dX5_hang_35 ⟨Nat.le_of_ble_eq_true rfl, Nat.le_of_ble_eq_true rfl⟩) (fun r u H locs hp hM => ?_)
          subst hp
          have hM : bx_M D A s (md_w t.1 h a S ++ Z) H locs := hM
          refine lv_istore (lv' := [(4, .int (mf_sortAt S p0)), (0, .ref h), (1, .int p0), (2, .int p1), (3, .int p2)]) hx hb dX5_hang_38 hl (by decide) rfl (fun ls hl => ?_)
          refine lv_aload_n hx hb dX5_hang_40 rfl (lv_at hl 1 rfl) ?_
          refine md_get E hin hM 7 (by decide) (by decide +kernel) rfl dX5_hang_41 ?_
          refine lv_iload_n hx hb dX5_hang_44 rfl (lv_at hl 2 rfl) ?_
          refine lv_iconst (v := (-1)) hx hb dX5_hang_45 (by decide) ?_
          refine md_ast E hM 7 (by decide) (md_hk hp_1) dX5_hang_46 (fun H locs hM => ?_)
          have hM : bx_M D A s (md_w t.1 h a (md_ai S 7 p0.toNatClampNeg (-1)) ++ Z) H locs := hM
          refine lv_iload_n hx hb dX5_hang_47 rfl (lv_at hl 3 rfl) ?_
          refine lv_if_le (tgt := 121) hx hb dX5_hang_48 (by decide) (fun c => absurd c_17 (Int32.not_lt.mpr c)) (fun _ => ?_)
          refine lv_aload_n hx hb dX5_hang_51 rfl (lv_at hl 1 rfl) ?_
          refine bx_goi hM (bx_runV (As := []) (rest := []) E hM (cX5c_free l D t A h a (md_ai S 7 p0.toNatClampNeg (-1)) Z hI.2.2.2.1 hex) (md_recv E hM) 0 gX5_hang_X5_free rfl rfl rfl (by decide +kernel) ⟨Nat.le_of_ble_eq_true rfl, Nat.le_of_ble_eq_true rfl⟩ rfl hl.1 rfl (Nat.le_of_ble_eq_true rfl) dX5_hang_52 ⟨Nat.le_of_ble_eq_true rfl, Nat.le_of_ble_eq_true rfl⟩) (fun r u H locs hp hM => ?_)
          obtain ⟨n, hn, rfl, hnt⟩ := hp
          have hM : bx_M D A s (md_w t.1 h a (md_ai S 7 p0.toNatClampNeg (-1)) ++ Z) H locs := hM
          refine lv_istore (lv' := [(5, .int (nI n)), (4, .int (mf_sortAt S p0)), (0, .ref h), (1, .int p0), (2, .int p1), (3, .int p2)]) hx hb dX5_hang_55 hl (by decide) rfl (fun ls hl => ?_)
          refine lv_aload_n hx hb dX5_hang_57 rfl (lv_at hl 2 rfl) ?_
          refine md_get E hin hM 0 (by decide) (by decide +kernel) rfl dX5_hang_58 ?_
          refine lv_iload hx hb dX5_hang_61 (lv_at hl 0 rfl) ?_
          refine lv_iload_n hx hb dX5_hang_63 rfl (lv_at hl 4 rfl) ?_
          refine md_ast E hM 0 (by decide) (vp_in_nI hn (by decide)) dX5_hang_64 (fun H locs hM => ?_)
          have hM : bx_M D A s (md_w t.1 h a (md_ai (md_ai S 7 p0.toNatClampNeg (-1)) 0 (nI n).toNatClampNeg p1) ++ Z) H locs := hM
          refine lv_aload_n hx hb dX5_hang_65 rfl (lv_at hl 2 rfl) ?_
          refine md_get E hin hM 1 (by decide) (by decide +kernel) rfl dX5_hang_66 ?_
          refine lv_iload hx hb dX5_hang_69 (lv_at hl 0 rfl) ?_
          refine lv_iload_n hx hb dX5_hang_71 rfl (lv_at hl 5 rfl) ?_
          refine md_ast E hM 1 (by decide) (vp_in_nI hn (by decide)) dX5_hang_72 (fun H locs hM => ?_)
          have hM : bx_M D A s (md_w t.1 h a (md_ai (md_ai (md_ai S 7 p0.toNatClampNeg (-1)) 0 (nI n).toNatClampNeg p1) 1 (nI n).toNatClampNeg p2) ++ Z) H locs := hM
          refine lv_aload_n hx hb dX5_hang_73 rfl (lv_at hl 2 rfl) ?_
          refine md_get E hin hM 2 (by decide) (by decide +kernel) rfl dX5_hang_74 ?_
          refine lv_iload hx hb dX5_hang_77 (lv_at hl 0 rfl) ?_
          refine lv_iconst (v := 0) hx hb dX5_hang_79 (by decide) ?_
          refine md_ast E hM 2 (by decide) (vp_in_nI hn (by decide)) dX5_hang_80 (fun H locs hM => ?_)
          have hM : bx_M D A s (md_w t.1 h a (md_ai (md_ai (md_ai (md_ai S 7 p0.toNatClampNeg (-1)) 0 (nI n).toNatClampNeg p1) 1 (nI n).toNatClampNeg p2) 2 (nI n).toNatClampNeg 0) ++ Z) H locs := hM
          refine lv_aload_n hx hb dX5_hang_81 rfl (lv_at hl 2 rfl) ?_
          refine md_get E hin hM 3 (by decide) (by decide +kernel) rfl dX5_hang_82 ?_
          refine lv_iload hx hb dX5_hang_85 (lv_at hl 0 rfl) ?_
          refine lv_iconst (v := (-1)) hx hb dX5_hang_87 (by decide) ?_
          refine md_ast E hM 3 (by decide) (vp_in_nI hn (by decide)) dX5_hang_88 (fun H locs hM => ?_)
          have hM : bx_M D A s (md_w t.1 h a (md_ai (md_ai (md_ai (md_ai (md_ai S 7 p0.toNatClampNeg (-1)) 0 (nI n).toNatClampNeg p1) 1 (nI n).toNatClampNeg p2) 2 (nI n).toNatClampNeg 0) 3 (nI n).toNatClampNeg (-1)) ++ Z) H locs := hM
          refine lv_aload_n hx hb dX5_hang_89 rfl (lv_at hl 2 rfl) ?_
          refine md_get E hin hM 4 (by decide) (by decide +kernel) rfl dX5_hang_90 ?_
          refine lv_iload hx hb dX5_hang_93 (lv_at hl 0 rfl) ?_
          refine lv_iconst (v := 0) hx hb dX5_hang_95 (by decide) ?_
          refine md_ast E hM 4 (by decide) (vp_in_nI hn (by decide)) dX5_hang_96 (fun H locs hM => ?_)
          have hM : bx_M D A s (md_w t.1 h a (md_ai (md_ai (md_ai (md_ai (md_ai (md_ai S 7 p0.toNatClampNeg (-1)) 0 (nI n).toNatClampNeg p1) 1 (nI n).toNatClampNeg p2) 2 (nI n).toNatClampNeg 0) 3 (nI n).toNatClampNeg (-1)) 4 (nI n).toNatClampNeg 0) ++ Z) H locs := hM
          refine lv_aload_n hx hb dX5_hang_97 rfl (lv_at hl 2 rfl) ?_
          refine md_get E hin hM 5 (by decide) (by decide +kernel) rfl dX5_hang_98 ?_
          refine lv_iload hx hb dX5_hang_101 (lv_at hl 0 rfl) ?_
          refine lv_iconst (v := 0) hx hb dX5_hang_103 (by decide) ?_
          refine md_ast E hM 5 (by decide) (vp_in_nI hn (by decide)) dX5_hang_104 (fun H locs hM => ?_)
          have hM : bx_M D A s (md_w t.1 h a (md_ai (md_ai (md_ai (md_ai (md_ai (md_ai (md_ai S 7 p0.toNatClampNeg (-1)) 0 (nI n).toNatClampNeg p1) 1 (nI n).toNatClampNeg p2) 2 (nI n).toNatClampNeg 0) 3 (nI n).toNatClampNeg (-1)) 4 (nI n).toNatClampNeg 0) 5 (nI n).toNatClampNeg 0) ++ Z) H locs := hM
          refine lv_aload_n hx hb dX5_hang_105 rfl (lv_at hl 2 rfl) ?_
          refine md_get E hin hM 6 (by decide) (by decide +kernel) rfl dX5_hang_106 ?_
          refine lv_iload hx hb dX5_hang_109 (lv_at hl 0 rfl) ?_
          refine lv_iconst (v := 0) hx hb dX5_hang_111 (by decide) ?_
          refine md_ast E hM 6 (by decide) (vp_in_nI hn (by decide)) dX5_hang_112 (fun H locs hM => ?_)
          have hM : bx_M D A s (md_w t.1 h a (md_ai (md_ai (md_ai (md_ai (md_ai (md_ai (md_ai (md_ai S 7 p0.toNatClampNeg (-1)) 0 (nI n).toNatClampNeg p1) 1 (nI n).toNatClampNeg p2) 2 (nI n).toNatClampNeg 0) 3 (nI n).toNatClampNeg (-1)) 4 (nI n).toNatClampNeg 0) 5 (nI n).toNatClampNeg 0) 6 (nI n).toNatClampNeg 0) ++ Z) H locs := hM
          refine lv_aload_n hx hb dX5_hang_113 rfl (lv_at hl 2 rfl) ?_
          refine md_get E hin hM 7 (by decide) (by decide +kernel) rfl dX5_hang_114 ?_
          refine lv_iload_n hx hb dX5_hang_117 rfl (lv_at hl 3 rfl) ?_
          refine lv_iload hx hb dX5_hang_118 (lv_at hl 0 rfl) ?_
          refine md_ast E hM 7 (by decide) (md_hk hp_1) dX5_hang_120 (fun H locs hM => ?_)
          have hM : bx_M D A s (md_w t.1 h a (md_ai (md_ai (md_ai (md_ai (md_ai (md_ai (md_ai (md_ai (md_ai S 7 p0.toNatClampNeg (-1)) 0 (nI n).toNatClampNeg p1) 1 (nI n).toNatClampNeg p2) 2 (nI n).toNatClampNeg 0) 3 (nI n).toNatClampNeg (-1)) 4 (nI n).toNatClampNeg 0) 5 (nI n).toNatClampNeg 0) 6 (nI n).toNatClampNeg 0) 7 p0.toNatClampNeg (nI n)) ++ Z) H locs := hM
          refine lv_iload hx hb dX5_hang_121 (lv_at hl 1 rfl) ?_
          exact bx_reti E hr hlk hM (md_ai (md_ai (md_ai (md_ai (md_ai (md_ai (md_ai (md_ai (md_ai S 7 p0.toNatClampNeg (-1)) 0 (nI n).toNatClampNeg p1) 1 (nI n).toNatClampNeg p2) 2 (nI n).toNatClampNeg 0) 3 (nI n).toNatClampNeg (-1)) 4 (nI n).toNatClampNeg 0) 5 (nI n).toNatClampNeg 0) 6 (nI n).toNatClampNeg 0) 7 p0.toNatClampNeg (nI n)) rfl (⟨n, hn, hnt, by simp [mf_hang, mf_new, nI_clamp (show n < 2 ^ 31 by omega), hp_1, hp_10, c_17, hp_25]⟩) dX5_hang_123
        · have hM : bx_M D A s (md_w t.1 h a S ++ Z) H locs := hM
          refine lv_if_ne (tgt := 33) hx hb dX5_hang_28 (by decide) (fun c => absurd c (by decide)) (fun _ => ?_)
          refine lv_iconst (v := (-1)) hx hb dX5_hang_31 (by decide) ?_
          exact bx_reti E hr hlk hM S rfl (by obtain ⟨n, hn, hnt⟩ := hex; exact ⟨n, hn, hnt, by simp [mf_hang, hp_1, hp_10, c_17, hp_25]⟩) dX5_hang_32
    · have hM : bx_M D A s (md_w t.1 h a S ++ Z) H locs := hM
      refine lv_if_eq (tgt := 31) hx hb dX5_hang_13 (by decide) (fun _ => ?_) (fun c => absurd c (by decide))
      refine lv_iconst (v := (-1)) hx hb dX5_hang_31 (by decide) ?_
      exact bx_reti E hr hlk hM S rfl (by obtain ⟨n, hn, hnt⟩ := hex; exact ⟨n, hn, hnt, by simp [mf_hang, hp_1, hp_10]⟩) dX5_hang_32
  · have hM : bx_M D A s (md_w t.1 h a S ++ Z) H locs := hM
    refine lv_if_eq (tgt := 31) hx hb dX5_hang_4 (by decide) (fun _ => ?_) (fun c => absurd c (by decide))
    refine lv_iconst (v := (-1)) hx hb dX5_hang_31 (by decide) ?_
    exact bx_reti E hr hlk hM S rfl (by obtain ⟨n, hn, hnt⟩ := hex; exact ⟨n, hn, hnt, by simp [mf_hang, hp_1]⟩) dX5_hang_32

set_option maxHeartbeats 4000000 in
set_option maxRecDepth 100000 in
theorem lpX5_chime {p : Program} {l : Launch} {e : Env} {s : State} {m : MethodId} {args : Array Value} {below : List Frame} {meth : Method} {c : Code} {D : va_G} {t : bx_T} {A : Nat → Prop} {h : Nat} {a : Nat → Nat} {Z : va_W} (E : bx_E p m c cX5_chime 5 s args wsX5_chime RX5 D t A) (hin : ∀ w ∈ wsX50, w ∈ wsX5_chime) (hr : meth.sig.returnType = some .int) (hlk : meth.locks = false) (mode : Int32) (F : Int32 × md_S) : ∀ (k i : Nat) (n : Int32) (S : md_S) (H : Heap) (locs : List Loc) (ls : Array Slot), S.2 2 = nI (i + k) → i + k ≤ 12 → md_I S → mf_loop mode k i n S = F → bx_M D A s (md_w t.1 h a S ++ Z) H locs → lv_has ls 5 [(3, .int (nI i)), (2, .int n), (0, .ref h), (1, .int mode)] → W p l e ({ frames := 2, cells := 0, slots := 0, locals := 45 }) s m args below meth c H locs 0 0 (MQ below (va_Qi (fun (r : Int32) (u : md_S) => r = F.1 ∧ u = F.2) (fun (u : md_S) U => bx_J D A (md_w t.1 h a u ++ Z) U) A) args s 0 0 A) (F0 m 29 ls []) := by
  have hx := E.1.1
  have hb := E.1.2.1
  intro k
  induction k with
  | zero =>
    intro i n S H locs ls he hle hI hF hM hl
    have hlt : ¬ nI i < S.2 2 := nI_nltl (n := i) he (Nat.le_refl _) (by omega)
    refine lv_iload_n hx hb dX5_chime_29 rfl (lv_at hl 0 rfl) ?_
    refine lv_aload_n hx hb dX5_chime_30 rfl (lv_at hl 2 rfl) ?_
    refine md_get E hin hM 11 (by decide) (by decide +kernel) rfl dX5_chime_31 ?_
    refine lv_icmp_ge (tgt := 76) hx hb dX5_chime_34 (by decide) (fun _ => ?_) (fun c => absurd (Int32.not_le.mp c) hlt)
    refine lv_iload_n hx hb dX5_chime_76 rfl (lv_at hl 1 rfl) ?_
    exact bx_reti E hr hlk hM S rfl (by rw [← hF]; exact ⟨rfl, rfl⟩) dX5_chime_77
  | succ k ih =>
    intro i n S H locs ls he hle hI hF hM hl
    have hlt : nI i < S.2 2 := nI_ltl (n := i + (k + 1)) he (by omega) (by omega)
    have hsm := md_same.strike S (nI i)
    refine lv_iload_n hx hb dX5_chime_29 rfl (lv_at hl 0 rfl) ?_
    refine lv_aload_n hx hb dX5_chime_30 rfl (lv_at hl 2 rfl) ?_
    refine md_get E hin hM 11 (by decide) (by decide +kernel) rfl dX5_chime_31 ?_
    refine lv_icmp_ge (tgt := 76) hx hb dX5_chime_34 (by decide) (fun c => absurd hlt (Int32.not_lt.mpr c)) (fun _ => ?_)
    refine lv_aload_n hx hb dX5_chime_37 rfl (lv_at hl 2 rfl) ?_
    refine lv_iload_n hx hb dX5_chime_38 rfl (lv_at hl 0 rfl) ?_
    refine bx_goi hM (bx_runV (As := [.int (nI i)]) (rest := []) E hM (cX5c_strike l D t A h a S Z (nI i) hI) (md_recv E hM) 1 gX5_chime_X5_strike rfl rfl rfl (by decide +kernel) ⟨Nat.le_of_ble_eq_true rfl, Nat.le_of_ble_eq_true rfl⟩ rfl hl.1 rfl (Nat.le_of_ble_eq_true rfl) dX5_chime_39 ⟨Nat.le_of_ble_eq_true rfl, Nat.le_of_ble_eq_true rfl⟩) (fun r u H locs hp hM => ?_)
    obtain ⟨rfl, rfl⟩ := hp
    have hM : bx_M D A s (md_w t.1 h a ((mf_strike S (nI i)).2) ++ Z) H locs := hM
    refine lv_istore (lv' := [(4, .int ((mf_strike S (nI i)).1)), (3, .int (nI i)), (2, .int n), (0, .ref h), (1, .int mode)]) hx hb dX5_chime_42 hl (by decide) rfl (fun ls hl => ?_)
    refine lv_iload hx hb dX5_chime_44 (lv_at hl 0 rfl) ?_
    refine lv_if_ge (tgt := 57) hx hb dX5_chime_46 (by decide) (fun c_46 => ?_) (fun c_46 => ?_)
    · have c_46 := Int32.not_lt.mpr c_46
      refine lv_iload_n hx hb dX5_chime_57 rfl (lv_at hl 2 rfl) ?_
      refine lv_iload hx hb dX5_chime_58 (lv_at hl 0 rfl) ?_
      refine lv_if_ge (tgt := 67) hx hb dX5_chime_60 (by decide) (fun _ => ?_) (fun c => absurd (Int32.not_le.mp c) c_46)
      refine lv_iconst (v := 1) hx hb dX5_chime_67 (by decide) ?_
      refine lv_iadd hx hb dX5_chime_68 ?_
      refine lv_istore_n (lv' := [(2, .int (n + 1)), (4, .int ((mf_strike S (nI i)).1)), (3, .int (nI i)), (0, .ref h), (1, .int mode)]) hx hb dX5_chime_69 rfl hl (by decide) rfl (fun ls hl => ?_)
      refine lv_iinc (v := nI i + 1) (lv' := [(3, .int (nI i + 1)), (2, .int (n + 1)), (4, .int ((mf_strike S (nI i)).1)), (0, .ref h), (1, .int mode)]) hx hb dX5_chime_70 hl (k := 2) rfl rfl (by decide) rfl (fun ls hl => ?_)
      refine lv_goto (tgt := 29) hx hb dX5_chime_73 (by decide) ?_
      rw [nI_1] at hl
      exact ih (i + 1) _ _ _ _ ls ((hsm.2 2 (by decide)).trans (by rw [he]; congr 1; omega)) (by omega) (hsm.I hI) (by rw [← hF]; simp [mf_loop, c_46]) hM (lv_sub hl [0, 1, 3, 4] rfl)
    · have c_46 := Int32.not_le.mp c_46
      refine lv_iload_n hx hb dX5_chime_49 rfl (lv_at hl 4 rfl) ?_
      refine lv_iconst (v := 1) hx hb dX5_chime_50 (by decide) ?_
      refine lv_icmp_ne (tgt := 57) hx hb dX5_chime_51 (by decide) (fun c_51 => ?_) (fun c_51 => ?_)
      · refine lv_iload_n hx hb dX5_chime_57 rfl (lv_at hl 2 rfl) ?_
        refine lv_iload hx hb dX5_chime_58 (lv_at hl 0 rfl) ?_
        refine lv_if_ge (tgt := 67) hx hb dX5_chime_60 (by decide) (fun c => absurd c_46 (Int32.not_lt.mpr c)) (fun _ => ?_)
        refine lv_iconst (v := 0) hx hb dX5_chime_63 (by decide) ?_
        refine lv_goto (tgt := 68) hx hb dX5_chime_64 (by decide) ?_
        refine lv_iadd hx hb dX5_chime_68 ?_
        refine lv_istore_n (lv' := [(2, .int (n + 0)), (4, .int ((mf_strike S (nI i)).1)), (3, .int (nI i)), (0, .ref h), (1, .int mode)]) hx hb dX5_chime_69 rfl hl (by decide) rfl (fun ls hl => ?_)
        refine lv_iinc (v := nI i + 1) (lv' := [(3, .int (nI i + 1)), (2, .int (n + 0)), (4, .int ((mf_strike S (nI i)).1)), (0, .ref h), (1, .int mode)]) hx hb dX5_chime_70 hl (k := 2) rfl rfl (by decide) rfl (fun ls hl => ?_)
        refine lv_goto (tgt := 29) hx hb dX5_chime_73 (by decide) ?_
        rw [nI_1] at hl
        exact ih (i + 1) _ _ _ _ ls ((hsm.2 2 (by decide)).trans (by rw [he]; congr 1; omega)) (by omega) (hsm.I hI) (by rw [← hF]; simp [mf_loop, c_46, c_51]) hM (lv_sub hl [0, 1, 3, 4] rfl)
      · refine lv_iload hx hb dX5_chime_54 (lv_at hl 0 rfl) ?_
        exact bx_reti E hr hlk hM ((mf_strike S (nI i)).2) rfl (by rw [← hF]; simp [mf_loop, c_46, c_51]) dX5_chime_56

set_option maxHeartbeats 4000000 in
set_option maxRecDepth 100000 in
theorem cX5c_chime (l : Launch) (D : va_G) (t : bx_T) (A : Nat → Prop) (h : Nat) (a : Nat → Nat) (S : md_S) (Z : va_W) (p0 : Int32) (hI : md_I S) : bx_Ci l yX5_chime wsX5_chime ({ frames := 2, cells := 0, slots := 0, locals := 45 }) D t A [.ref h, .int p0] (md_w t.1 h a S ++ Z) (fun (r : Int32) (u : md_S) => r = (mf_chime S p0).1 ∧ u = (mf_chime S p0).2) (fun u => md_w t.1 h a u ++ Z) 0 0 := by
  refine bx_enter (cc := cX5_chime) (maxL := 5) (ret := some .int) (by decide) rfl (Nat.le_of_ble_eq_true rfl) ?_
  intro p e s m below meth c ls E hr hlk hnm hM hl
  have hl : lv_has ls 5 [(0, .ref h), (1, .int p0)] := hl
  have hx := E.1.1
  have hb := E.1.2.1
  have hin : ∀ w ∈ wsX50, w ∈ wsX5_chime := by decide +kernel
  refine lv_iload_n hx hb dX5_chime_0 rfl (lv_at hl 1 rfl) ?_
  refine lv_iconst (v := 0) hx hb dX5_chime_1 (by decide) ?_
  refine lv_iconst (v := 1) hx hb dX5_chime_2 (by decide) ?_
  refine bx_goi hM (bx_runS (As := [.int p0, .int 0, .int 1]) (rest := []) E hM (cX5c_in l D t A (md_w t.1 h a S ++ Z) p0 0 1) 3 gX5_chime_X5_in rfl rfl rfl (by decide +kernel) ⟨Nat.le_of_ble_eq_true rfl, Nat.le_of_ble_eq_true rfl⟩ rfl hl.1 rfl (Nat.le_of_ble_eq_true rfl) dX5_chime_3 ⟨Nat.le_of_ble_eq_true rfl, Nat.le_of_ble_eq_true rfl⟩) (fun r u H locs hp hM => ?_)
  rcases hp with ⟨rfl, hp_3⟩ | ⟨rfl, hp_3⟩
  · have hM : bx_M D A s (md_w t.1 h a S ++ Z) H locs := hM
    refine lv_if_ne (tgt := 11) hx hb dX5_chime_6 (by decide) (fun _ => ?_) (fun c => absurd c (by decide))
    refine lv_aload_n hx hb dX5_chime_11 rfl (lv_at hl 0 rfl) ?_
    refine md_get E hin hM 11 (by decide) (by decide +kernel) rfl dX5_chime_12 ?_
    refine lv_iconst (v := (-1)) hx hb dX5_chime_15 (by decide) ?_
    refine lv_icmp_ne (tgt := 25) hx hb dX5_chime_16 (by decide) (fun c_16 => ?_) (fun c_16 => ?_)
    · refine lv_iconst (v := 0) hx hb dX5_chime_25 (by decide) ?_
      refine lv_istore_n (lv' := [(2, .int 0), (0, .ref h), (1, .int p0)]) hx hb dX5_chime_26 rfl hl (by decide) rfl (fun ls hl => ?_)
      refine lv_iconst (v := 0) hx hb dX5_chime_27 (by decide) ?_
      refine lv_istore_n (lv' := [(3, .int 0), (2, .int 0), (0, .ref h), (1, .int p0)]) hx hb dX5_chime_28 rfl hl (by decide) rfl (fun ls hl => ?_)
      rcases hI.2.2.2.2.1 with hq | ⟨n, hn, hq⟩
      · exact absurd hq c_16
      have hq2 : (S.2 2).toNatClampNeg = n := by rw [hq]; exact nI_clamp (by omega)
      exact lpX5_chime E hin hr hlk p0 (mf_chime S p0) n 0 0 S _ _ ls (by rw [hq]; congr 1; omega) (by omega) hI (by simp [mf_chime, hp_3, c_16, hq2]) hM (lv_sub hl [0, 1, 2, 3] rfl)
    · refine lv_aload_n hx hb dX5_chime_19 rfl (lv_at hl 0 rfl) ?_
      refine lv_iconst (v := 1) hx hb dX5_chime_20 (by decide) ?_
      refine bx_goi hM (bx_runV (As := [.int 1]) (rest := []) E hM (cX5c_no l D t A h a S Z 1 (vp_in_iff.mpr (by decide))) (md_recv E hM) 1 gX5_chime_X5_no rfl rfl rfl (by decide +kernel) ⟨Nat.le_of_ble_eq_true rfl, Nat.le_of_ble_eq_true rfl⟩ rfl hl.1 rfl (Nat.le_of_ble_eq_true rfl) dX5_chime_21 ⟨Nat.le_of_ble_eq_true rfl, Nat.le_of_ble_eq_true rfl⟩) (fun r u H locs hp hM => ?_)
      obtain ⟨rfl, rfl⟩ := hp
      have hM : bx_M D A s (md_w t.1 h a (mf_no S 1) ++ Z) H locs := hM
      exact bx_reti E hr hlk hM (mf_no S 1) rfl (by first | (simp [mf_chime, hp_3, c_16]; done) | (simp [mf_chime, hp_3, c_16]; rfl) | (simp [mf_chime, md_s, va_up, hp_3, c_16]; done)) dX5_chime_24
  · have hM : bx_M D A s (md_w t.1 h a S ++ Z) H locs := hM
    refine lv_if_ne (tgt := 11) hx hb dX5_chime_6 (by decide) (fun c => absurd c (by decide)) (fun _ => ?_)
    refine lv_iconst (v := (-1)) hx hb dX5_chime_9 (by decide) ?_
    exact bx_reti E hr hlk hM S rfl (by first | (simp [mf_chime, hp_3]; done) | (simp [mf_chime, hp_3]; rfl) | (simp [mf_chime, md_s, va_up, hp_3]; done)) dX5_chime_10
