set_option maxHeartbeats 4000000 in
set_option maxRecDepth 100000 in
theorem bX3_init (l : Launch) (D : va_G) (t : bx_T) (A : Nat → Prop) (h : Nat) (a : Nat → Nat) (B : bl_S) (Z : va_W) (y : Nat) (x : Int32) (hy : y ∈ bL B) : bx_Cv l yX3_init wsX3_init ({ frames := 1, cells := 0, slots := 0, locals := 20 }) D t A [.ref y, .int x] (bl_w t h a B Z) (fun (u : bl_S) => u = bl_v B 0 y x) (fun u => bl_w t h a u Z) 0 0 := by
  refine bx_enter (cc := cX3_init) (maxL := 2) (ret := none) (by decide) rfl (Nat.le_of_ble_eq_true rfl) ?_
  intro p e s m below meth c ls E hr hlk hnm hM hl
  have hl : lv_has ls 2 [(0, .ref y), (1, .int x)] := hl
  have hx := E.1.1
  have hb := E.1.2.1
  have h0 : ∀ w ∈ wsX00, w ∈ wsX3_init := by decide +kernel
  have h1 : ∀ w ∈ wsX10, w ∈ wsX3_init := by decide +kernel
  have h2 : ∀ w ∈ wsX20, w ∈ wsX3_init := by decide +kernel
  refine lv_aload_n hx hb dX3_init_0 rfl (lv_at hl 0 rfl) ?_
  refine W.objInit hx hb E.1.2.2.2.1 (E.1.2.2.2.2 (.methodLink RX3 1 objectInit) (by decide +kernel)) (E.1.2.2.2.2 (.instanceMethod objectInit) (by decide +kernel)) (E.1.2.2.2.2 (.code objectInit ⟨#[0xb1]⟩ 1 none) (List.mem_of_getElem? (i := 3) rfl)) rfl (by rw [E.1.2.2.1]; exact hl.1) rfl dX3_init_1 (Nat.le_of_ble_eq_true rfl) (Nat.le_of_ble_eq_true rfl) ?_
  refine W.eq (g2 := F0 m 4 ls []) rfl ?_
  refine lv_aload_n hx hb dX3_init_4 rfl (lv_at hl 0 rfl) ?_
  refine lv_iload_n hx hb dX3_init_5 rfl (lv_at hl 1 rfl) ?_
  refine bl_pW E h0 h1 h2 hM hy x (by decide +kernel) (fun _ h9 => h9) (hnm rfl) rfl dX3_init_6 (fun H locs hM => ?_)
  have hM : bx_M D A s (bl_w t h a (bl_v B 0 y x) Z) H locs := hM
  exact bx_retv E hr hlk hM (bl_v B 0 y x) rfl (rfl) dX3_init_9

set_option maxHeartbeats 4000000 in
set_option maxRecDepth 100000 in
theorem bX0_init (l : Launch) (D : va_G) (t : bx_T) (A : Nat → Prop) (h : Nat) (a : Nat → Nat) (B : bl_S) (Z : va_W) (y : Nat) (x : Int32) (hy : y ∈ bL B) : bx_Cv l yX0_init wsX0_init ({ frames := 2, cells := 0, slots := 0, locals := 41 }) D t A [.ref y, .int x] (bl_w t h a B Z) (fun (u : bl_S) => u = bl_v B 0 y x) (fun u => bl_w t h a u Z) 0 0 := by
  refine bx_enter (cc := cX0_init) (maxL := 2) (ret := none) (by decide) rfl (Nat.le_of_ble_eq_true rfl) ?_
  intro p e s m below meth c ls E hr hlk hnm hM hl
  have hl : lv_has ls 2 [(0, .ref y), (1, .int x)] := hl
  have hx := E.1.1
  have hb := E.1.2.1
  have h0 : ∀ w ∈ wsX00, w ∈ wsX0_init := by decide +kernel
  have h1 : ∀ w ∈ wsX10, w ∈ wsX0_init := by decide +kernel
  have h2 : ∀ w ∈ wsX20, w ∈ wsX0_init := by decide +kernel
  refine lv_aload_n hx hb dX0_init_0 rfl (lv_at hl 0 rfl) ?_
  refine lv_iload_n hx hb dX0_init_1 rfl (lv_at hl 1 rfl) ?_
  refine bx_gov hM (bx_runI (As := [.int x]) (rest := []) E hM (bX3_init l D t A h a B Z y x hy) 1 gX0_init_X3_init rfl rfl rfl (by decide +kernel) (by decide +kernel) (by decide +kernel) rfl (by decide +kernel) ⟨Nat.le_of_ble_eq_true rfl, Nat.le_of_ble_eq_true rfl⟩ rfl hl.1 rfl (Nat.le_of_ble_eq_true rfl) dX0_init_2 ⟨Nat.le_of_ble_eq_true rfl, Nat.le_of_ble_eq_true rfl⟩) (fun u H locs hp hM => ?_)
  subst hp
  have hM : bx_M D A s (bl_w t h a (bl_v B 0 y x) Z) H locs := hM
  exact bx_retv E hr hlk hM (bl_v B 0 y x) rfl (rfl) dX0_init_5

set_option maxHeartbeats 4000000 in
set_option maxRecDepth 100000 in
theorem bX1_init (l : Launch) (D : va_G) (t : bx_T) (A : Nat → Prop) (h : Nat) (a : Nat → Nat) (B : bl_S) (Z : va_W) (y : Nat) (x : Int32) (hy : y ∈ bL B) : bx_Cv l yX1_init wsX1_init ({ frames := 2, cells := 0, slots := 0, locals := 41 }) D t A [.ref y, .int x] (bl_w t h a B Z) (fun (u : bl_S) => u = bl_v B 0 y x) (fun u => bl_w t h a u Z) 0 0 := by
  refine bx_enter (cc := cX1_init) (maxL := 2) (ret := none) (by decide) rfl (Nat.le_of_ble_eq_true rfl) ?_
  intro p e s m below meth c ls E hr hlk hnm hM hl
  have hl : lv_has ls 2 [(0, .ref y), (1, .int x)] := hl
  have hx := E.1.1
  have hb := E.1.2.1
  have h0 : ∀ w ∈ wsX00, w ∈ wsX1_init := by decide +kernel
  have h1 : ∀ w ∈ wsX10, w ∈ wsX1_init := by decide +kernel
  have h2 : ∀ w ∈ wsX20, w ∈ wsX1_init := by decide +kernel
  refine lv_aload_n hx hb dX1_init_0 rfl (lv_at hl 0 rfl) ?_
  refine lv_iload_n hx hb dX1_init_1 rfl (lv_at hl 1 rfl) ?_
  refine bx_gov hM (bx_runI (As := [.int x]) (rest := []) E hM (bX3_init l D t A h a B Z y x hy) 1 gX1_init_X3_init rfl rfl rfl (by decide +kernel) (by decide +kernel) (by decide +kernel) rfl (by decide +kernel) ⟨Nat.le_of_ble_eq_true rfl, Nat.le_of_ble_eq_true rfl⟩ rfl hl.1 rfl (Nat.le_of_ble_eq_true rfl) dX1_init_2 ⟨Nat.le_of_ble_eq_true rfl, Nat.le_of_ble_eq_true rfl⟩) (fun u H locs hp hM => ?_)
  subst hp
  have hM : bx_M D A s (bl_w t h a (bl_v B 0 y x) Z) H locs := hM
  exact bx_retv E hr hlk hM (bl_v B 0 y x) rfl (rfl) dX1_init_5

set_option maxHeartbeats 4000000 in
set_option maxRecDepth 100000 in
theorem bX2_init (l : Launch) (D : va_G) (t : bx_T) (A : Nat → Prop) (h : Nat) (a : Nat → Nat) (B : bl_S) (Z : va_W) (y : Nat) (x : Int32) (hy : y ∈ bL B) : bx_Cv l yX2_init wsX2_init ({ frames := 3, cells := 0, slots := 0, locals := 62 }) D t A [.ref y, .int x] (bl_w t h a B Z) (fun (u : bl_S) => u = bl_v B 0 y x) (fun u => bl_w t h a u Z) 0 0 := by
  refine bx_enter (cc := cX2_init) (maxL := 2) (ret := none) (by decide) rfl (Nat.le_of_ble_eq_true rfl) ?_
  intro p e s m below meth c ls E hr hlk hnm hM hl
  have hl : lv_has ls 2 [(0, .ref y), (1, .int x)] := hl
  have hx := E.1.1
  have hb := E.1.2.1
  have h0 : ∀ w ∈ wsX00, w ∈ wsX2_init := by decide +kernel
  have h1 : ∀ w ∈ wsX10, w ∈ wsX2_init := by decide +kernel
  have h2 : ∀ w ∈ wsX20, w ∈ wsX2_init := by decide +kernel
  refine lv_aload_n hx hb dX2_init_0 rfl (lv_at hl 0 rfl) ?_
  refine lv_iload_n hx hb dX2_init_1 rfl (lv_at hl 1 rfl) ?_
  refine bx_gov hM (bx_runI (As := [.int x]) (rest := []) E hM (bX0_init l D t A h a B Z y x hy) 1 gX2_init_X0_init rfl rfl rfl (by decide +kernel) (by decide +kernel) (by decide +kernel) rfl (by decide +kernel) ⟨Nat.le_of_ble_eq_true rfl, Nat.le_of_ble_eq_true rfl⟩ rfl hl.1 rfl (Nat.le_of_ble_eq_true rfl) dX2_init_2 ⟨Nat.le_of_ble_eq_true rfl, Nat.le_of_ble_eq_true rfl⟩) (fun u H locs hp hM => ?_)
  subst hp
  have hM : bx_M D A s (bl_w t h a (bl_v B 0 y x) Z) H locs := hM
  exact bx_retv E hr hlk hM (bl_v B 0 y x) rfl (rfl) dX2_init_5

set_option maxHeartbeats 4000000 in
set_option maxRecDepth 100000 in
theorem bX4_newThing (l : Launch) (D : va_G) (t : bx_T) (A : Nat → Prop) (h : Nat) (a : Nat → Nat) (B : bl_S) (Z : va_W) (p0 : Int32) (p1 : Int32) : bx_Cq l yX4_newThing wsX4_newThing ({ frames := 4, cells := 1, slots := 5, locals := 83 }) D t A [.int p0, .int p1] (bl_w t h a B Z) (fun (r : Option Nat) (u : bl_S) => ((p0 = 1 ∨ p0 = 2 ∨ p0 = 3) ∧ ∃ q : Nat, q ∉ bL B ∧ r = some q ∧ u = bl_v (bl_n B q (bf_kd p0)) 0 q p1) ∨ (¬ (p0 = 1 ∨ p0 = 2 ∨ p0 = 3) ∧ r = none ∧ u = B)) (fun u => bl_w t h a u Z) 1 5 := by
  refine bx_enter (cc := cX4_newThing) (maxL := 2) (ret := some (.object "BellLoft$Thing")) (by decide) rfl (Nat.le_of_ble_eq_true rfl) ?_
  intro p e s m below meth c ls E hr hlk hnm hM hl
  have hl : lv_has ls 2 [(0, .int p0), (1, .int p1)] := hl
  have hx := E.1.1
  have hb := E.1.2.1
  have h0 : ∀ w ∈ wsX00, w ∈ wsX4_newThing := by decide +kernel
  have h1 : ∀ w ∈ wsX10, w ∈ wsX4_newThing := by decide +kernel
  have h2 : ∀ w ∈ wsX20, w ∈ wsX4_newThing := by decide +kernel
  refine lv_iload_n hx hb dX4_newThing_0 rfl (lv_at hl 0 rfl) ?_
  by_cases c_1_1 : p0 = 1
  · refine lv_tableIn (tgt := 28) hx hb dX4_newThing_1 (by rw [c_1_1]; decide) (by rw [c_1_1]; decide) (by rw [c_1_1]; rfl) (by decide) ?_
    refine bl_newB E h0 hM (by decide +kernel) (by decide +kernel) (by decide +kernel) (Nat.le_of_ble_eq_true rfl) (Nat.le_of_ble_eq_true rfl) dX4_newThing_28 (fun q H hq hM => ?_)
    have hM : bx_M D A s (bl_w t h a (bl_n B q 1) Z) H _ := hM
    refine lv_dup hx hb dX4_newThing_31 rfl ?_
    refine lv_iload_n hx hb dX4_newThing_32 rfl (lv_at hl 1 rfl) ?_
    refine bx_gov hM (bx_runI (As := [.int p1]) (rest := [.ref q]) E hM (bX0_init l D t A h a (bl_n B q 1) Z q p1 (List.mem_append_right _ (List.mem_singleton.mpr rfl))) 1 gX4_newThing_X0_init rfl rfl rfl (by decide +kernel) (by decide +kernel) (by decide +kernel) rfl (by decide +kernel) ⟨Nat.le_of_ble_eq_true rfl, Nat.le_of_ble_eq_true rfl⟩ rfl hl.1 rfl (Nat.le_of_ble_eq_true rfl) dX4_newThing_33 ⟨Nat.le_of_ble_eq_true rfl, Nat.le_of_ble_eq_true rfl⟩) (fun u H locs hp hM => ?_)
    subst hp
    have hM : bx_M D A s (bl_w t h a (bl_v (bl_n B q 1) 0 q p1) Z) H locs := hM
    refine W.widen (k := 1) (n := 5) (Nat.le_of_ble_eq_true rfl) (Nat.le_of_ble_eq_true rfl) ?_
    exact bx_retq (r := (some q)) E hr hlk hM (bl_v (bl_n B q 1) 0 q p1) rfl (Or.inl ⟨Or.inl c_1_1, q, hq, rfl, by rw [show bf_kd p0 = 1 by rw [c_1_1]; rfl]⟩) dX4_newThing_36
  by_cases c_1_2 : p0 = 2
  · refine lv_tableIn (tgt := 37) hx hb dX4_newThing_1 (by rw [c_1_2]; decide) (by rw [c_1_2]; decide) (by rw [c_1_2]; rfl) (by decide) ?_
    refine bl_newG E h2 hM (by decide +kernel) (by decide +kernel) (by decide +kernel) (Nat.le_of_ble_eq_true rfl) (Nat.le_of_ble_eq_true rfl) dX4_newThing_37 (fun q H hq hM => ?_)
    have hM : bx_M D A s (bl_w t h a (bl_n B q 2) Z) H _ := hM
    refine lv_dup hx hb dX4_newThing_40 rfl ?_
    refine lv_iload_n hx hb dX4_newThing_41 rfl (lv_at hl 1 rfl) ?_
    refine bx_gov hM (bx_runI (As := [.int p1]) (rest := [.ref q]) E hM (bX2_init l D t A h a (bl_n B q 2) Z q p1 (List.mem_append_right _ (List.mem_singleton.mpr rfl))) 1 gX4_newThing_X2_init rfl rfl rfl (by decide +kernel) (by decide +kernel) (by decide +kernel) rfl (by decide +kernel) ⟨Nat.le_of_ble_eq_true rfl, Nat.le_of_ble_eq_true rfl⟩ rfl hl.1 rfl (Nat.le_of_ble_eq_true rfl) dX4_newThing_42 ⟨Nat.le_of_ble_eq_true rfl, Nat.le_of_ble_eq_true rfl⟩) (fun u H locs hp hM => ?_)
    subst hp
    have hM : bx_M D A s (bl_w t h a (bl_v (bl_n B q 2) 0 q p1) Z) H locs := hM
    refine W.widen (k := 1) (n := 5) (Nat.le_of_ble_eq_true rfl) (Nat.le_of_ble_eq_true rfl) ?_
    exact bx_retq (r := (some q)) E hr hlk hM (bl_v (bl_n B q 2) 0 q p1) rfl (Or.inl ⟨Or.inr (Or.inl c_1_2), q, hq, rfl, by rw [show bf_kd p0 = 2 by rw [c_1_2]; rfl]⟩) dX4_newThing_45
  by_cases c_1_3 : p0 = 3
  · refine lv_tableIn (tgt := 46) hx hb dX4_newThing_1 (by rw [c_1_3]; decide) (by rw [c_1_3]; decide) (by rw [c_1_3]; rfl) (by decide) ?_
    refine bl_newC E h1 hM (by decide +kernel) (by decide +kernel) (by decide +kernel) (Nat.le_of_ble_eq_true rfl) (Nat.le_of_ble_eq_true rfl) dX4_newThing_46 (fun q H hq hM => ?_)
    have hM : bx_M D A s (bl_w t h a (bl_n B q 3) Z) H _ := hM
    refine lv_dup hx hb dX4_newThing_49 rfl ?_
    refine lv_iload_n hx hb dX4_newThing_50 rfl (lv_at hl 1 rfl) ?_
    refine bx_gov hM (bx_runI (As := [.int p1]) (rest := [.ref q]) E hM (bX1_init l D t A h a (bl_n B q 3) Z q p1 (List.mem_append_right _ (List.mem_singleton.mpr rfl))) 1 gX4_newThing_X1_init rfl rfl rfl (by decide +kernel) (by decide +kernel) (by decide +kernel) rfl (by decide +kernel) ⟨Nat.le_of_ble_eq_true rfl, Nat.le_of_ble_eq_true rfl⟩ rfl hl.1 rfl (Nat.le_of_ble_eq_true rfl) dX4_newThing_51 ⟨Nat.le_of_ble_eq_true rfl, Nat.le_of_ble_eq_true rfl⟩) (fun u H locs hp hM => ?_)
    subst hp
    have hM : bx_M D A s (bl_w t h a (bl_v (bl_n B q 3) 0 q p1) Z) H locs := hM
    refine W.widen (k := 1) (n := 5) (Nat.le_of_ble_eq_true rfl) (Nat.le_of_ble_eq_true rfl) ?_
    exact bx_retq (r := (some q)) E hr hlk hM (bl_v (bl_n B q 3) 0 q p1) rfl (Or.inl ⟨Or.inr (Or.inr c_1_3), q, hq, rfl, by rw [show bf_kd p0 = 3 by rw [c_1_3]; rfl]⟩) dX4_newThing_54
  refine lv_tableOut (tgt := 55) hx hb dX4_newThing_1 (by have q0 := lv_neT c_1_1 (a := 1) (by decide); have q1 := lv_neT c_1_2 (a := 2) (by decide); have q2 := lv_neT c_1_3 (a := 3) (by decide); omega) (by decide) ?_
  refine lv_null hx hb dX4_newThing_55 ?_
  refine W.widen (k := 1) (n := 5) (Nat.le_of_ble_eq_true rfl) (Nat.le_of_ble_eq_true rfl) ?_
  exact bx_retq (r := none) E hr hlk hM B rfl (Or.inr ⟨fun g => g.elim c_1_1 (fun g => g.elim c_1_2 c_1_3), rfl, rfl⟩) dX4_newThing_56

set_option maxHeartbeats 4000000 in
set_option maxRecDepth 100000 in
theorem bX4_hang (l : Launch) (D : va_G) (t : bx_T) (A : Nat → Prop) (h : Nat) (a : Nat → Nat) (B : bl_S) (Z : va_W) (p0 : Int32) (p1 : Int32) (p2 : Int32) (hI : bl_I B) : bx_Ci l yX4_hang wsX4_hang ({ frames := 5, cells := 1, slots := 5, locals := 104 }) D t A [.ref h, .int p0, .int p1, .int p2] (bl_w t h a B Z) (fun (r : Int32) (u : bl_S) => ∃ q : Nat, q ∉ bL B ∧ r = (bf_hang B p0 p1 p2 q).1 ∧ u = (bf_hang B p0 p1 p2 q).2) (fun u => bl_w t h a u Z) 1 5 := by
  refine bx_enter (cc := cX4_hang) (maxL := 5) (ret := some .int) (by decide) rfl (Nat.le_of_ble_eq_true rfl) ?_
  intro p e s m below meth c ls E hr hlk hnm hM hl
  have hl : lv_has ls 5 [(0, .ref h), (1, .int p0), (2, .int p1), (3, .int p2)] := hl
  have hx := E.1.1
  have hb := E.1.2.1
  have hin : ∀ w ∈ wsX40, w ∈ wsX4_hang := by decide +kernel
  have h0 : ∀ w ∈ wsX00, w ∈ wsX4_hang := by decide +kernel
  have h1 : ∀ w ∈ wsX10, w ∈ wsX4_hang := by decide +kernel
  have h2 : ∀ w ∈ wsX20, w ∈ wsX4_hang := by decide +kernel
  refine lv_iload_n hx hb dX4_hang_0 rfl (lv_at hl 1 rfl) ?_
  refine bx_goi hM (bx_runS (As := [.int p0]) (rest := []) E hM (bX4_isHook l D t A (bl_w t h a B Z) p0) 1 gX4_hang_X4_isHook rfl rfl rfl (by decide +kernel) ⟨Nat.le_of_ble_eq_true rfl, Nat.le_of_ble_eq_true rfl⟩ rfl hl.1 rfl (Nat.le_of_ble_eq_true rfl) dX4_hang_1 ⟨Nat.le_of_ble_eq_true rfl, Nat.le_of_ble_eq_true rfl⟩) (fun r u H locs hp hM => ?_)
  rcases hp with ⟨rfl, hp_1⟩ | ⟨rfl, hp_1⟩
  · have hM : bx_M D A s (bl_w t h a B Z) H locs := hM
    refine lv_if_eq (tgt := 16) hx hb dX4_hang_4 (by decide) (fun c => absurd c (by decide)) (fun _ => ?_)
    refine lv_iload_n hx hb dX4_hang_7 rfl (lv_at hl 2 rfl) ?_
    refine lv_iconst (v := 0) hx hb dX4_hang_8 (by decide) ?_
    refine lv_iconst (v := 3) hx hb dX4_hang_9 (by decide) ?_
    refine bx_goi hM (bx_runS (As := [.int p1, .int 0, .int 3]) (rest := []) E hM (bX4_isWithin l D t A (bl_w t h a B Z) p1 0 3) 3 gX4_hang_X4_isWithin rfl rfl rfl (by decide +kernel) ⟨Nat.le_of_ble_eq_true rfl, Nat.le_of_ble_eq_true rfl⟩ rfl hl.1 rfl (Nat.le_of_ble_eq_true rfl) dX4_hang_10 ⟨Nat.le_of_ble_eq_true rfl, Nat.le_of_ble_eq_true rfl⟩) (fun r u H locs hp hM => ?_)
    rcases hp with ⟨rfl, hp_10⟩ | ⟨rfl, hp_10⟩
    · have hM : bx_M D A s (bl_w t h a B Z) H locs := hM
      refine lv_if_ne (tgt := 18) hx hb dX4_hang_13 (by decide) (fun _ => ?_) (fun c => absurd c (by decide))
      refine lv_iload_n hx hb dX4_hang_18 rfl (lv_at hl 2 rfl) ?_
      refine lv_if_eq (tgt := 35) hx hb dX4_hang_19 (by decide) (fun c_19 => ?_) (fun c_19 => ?_)
      · refine lv_aload_n hx hb dX4_hang_35 rfl (lv_at hl 0 rfl) ?_
        refine bl_get E hin hM 0 (by decide) (by decide +kernel) rfl dX4_hang_36 ?_
        refine lv_iload_n hx hb dX4_hang_39 rfl (lv_at hl 1 rfl) ?_
        refine bl_hk E hM (vp_inB hp_1 (by decide)) dX4_hang_40 (fun hq_40 => ?_) (fun y_40 hq_40 => ?_)
        · have hq_40 := hq_40
          refine bx_goi hM (bx_runS (As := [.null]) (rest := []) E hM (bX4_sortOfN l D t A h a B Z) 1 gX4_hang_X4_sortOf rfl rfl rfl (by decide +kernel) ⟨Nat.le_of_ble_eq_true rfl, Nat.le_of_ble_eq_true rfl⟩ rfl hl.1 rfl (Nat.le_of_ble_eq_true rfl) dX4_hang_41 ⟨Nat.le_of_ble_eq_true rfl, Nat.le_of_ble_eq_true rfl⟩) (fun r u H locs hp hM => ?_)
          subst hp
          have hM : bx_M D A s (bl_w t h a B Z) H locs := hM
          refine lv_istore (lv' := [(4, .int 0), (0, .ref h), (1, .int p0), (2, .int p1), (3, .int p2)]) hx hb dX4_hang_44 hl (by decide) rfl (fun ls hl => ?_)
          refine lv_aload_n hx hb dX4_hang_46 rfl (lv_at hl 1 rfl) ?_
          refine bl_get E hin hM 0 (by decide) (by decide +kernel) rfl dX4_hang_47 ?_
          refine lv_iload_n hx hb dX4_hang_50 rfl (lv_at hl 2 rfl) ?_
          refine lv_iload_n hx hb dX4_hang_51 rfl (lv_at hl 3 rfl) ?_
          refine lv_iload_n hx hb dX4_hang_52 rfl (lv_at hl 4 rfl) ?_
          refine bx_goq hM (bx_runS (As := [.int p1, .int p2]) (rest := [.int p0, .ref (a 0)]) E hM (bX4_newThing l D t A h a B Z p1 p2) 2 gX4_hang_X4_newThing rfl rfl rfl (by decide +kernel) ⟨Nat.le_of_ble_eq_true rfl, Nat.le_of_ble_eq_true rfl⟩ rfl hl.1 rfl (Nat.le_of_ble_eq_true rfl) dX4_hang_53 ⟨Nat.le_of_ble_eq_true rfl, Nat.le_of_ble_eq_true rfl⟩) (fun r u H locs hp hM => ?_)
          rcases hp with ⟨hkd, q, hq, rfl, rfl⟩ | ⟨hkd, rfl, hu⟩
          · have hM : bx_M D A s (bl_w t h a (bl_v (bl_n B q (bf_kd p1)) 0 q p2) Z) H locs := hM
            exact absurd hkd (by rw [c_19]; decide)
          · rw [hu] at hM
            have hM : bx_M D A s (bl_w t h a B Z) H locs := hM
            refine bl_hkN E hM (vp_inB hp_1 (by decide)) dX4_hang_56 (fun H locs hM => ?_)
            have hM : bx_M D A s (bl_w t h a (bl_ri B 0 p0.toNatClampNeg none) Z) H locs := hM
            refine lv_iload hx hb dX4_hang_57 (lv_at hl 0 rfl) ?_
            refine W.widen (k := 1) (n := 5) (Nat.le_of_ble_eq_true rfl) (Nat.le_of_ble_eq_true rfl) ?_
            exact bx_reti E hr hlk hM (bl_ri B 0 p0.toNatClampNeg none) rfl (by obtain ⟨q, hq⟩ := fresh_ex (bL B); exact ⟨q, hq, by subst c_19; simp [bf_hang, hp_1, hp_10, hq_40]⟩) dX4_hang_59
        · have hm_y_40 := hI.1 _ (vp_lt (vp_inB (n := 10) hp_1 (by decide))) y_40 hq_40
          refine bx_goi hM (bx_runS (As := [.ref y_40]) (rest := []) E hM (bX4_sortOfS l D t A h a B Z y_40 hm_y_40) 1 gX4_hang_X4_sortOf rfl rfl rfl (by decide +kernel) ⟨Nat.le_of_ble_eq_true rfl, Nat.le_of_ble_eq_true rfl⟩ rfl hl.1 rfl (Nat.le_of_ble_eq_true rfl) dX4_hang_41 ⟨Nat.le_of_ble_eq_true rfl, Nat.le_of_ble_eq_true rfl⟩) (fun r u H locs hp hM => ?_)
          subst hp
          have hM : bx_M D A s (bl_w t h a B Z) H locs := hM
          refine lv_istore (lv' := [(4, .int (bf_sort B y_40)), (0, .ref h), (1, .int p0), (2, .int p1), (3, .int p2)]) hx hb dX4_hang_44 hl (by decide) rfl (fun ls hl => ?_)
          refine lv_aload_n hx hb dX4_hang_46 rfl (lv_at hl 1 rfl) ?_
          refine bl_get E hin hM 0 (by decide) (by decide +kernel) rfl dX4_hang_47 ?_
          refine lv_iload_n hx hb dX4_hang_50 rfl (lv_at hl 2 rfl) ?_
          refine lv_iload_n hx hb dX4_hang_51 rfl (lv_at hl 3 rfl) ?_
          refine lv_iload_n hx hb dX4_hang_52 rfl (lv_at hl 4 rfl) ?_
          refine bx_goq hM (bx_runS (As := [.int p1, .int p2]) (rest := [.int p0, .ref (a 0)]) E hM (bX4_newThing l D t A h a B Z p1 p2) 2 gX4_hang_X4_newThing rfl rfl rfl (by decide +kernel) ⟨Nat.le_of_ble_eq_true rfl, Nat.le_of_ble_eq_true rfl⟩ rfl hl.1 rfl (Nat.le_of_ble_eq_true rfl) dX4_hang_53 ⟨Nat.le_of_ble_eq_true rfl, Nat.le_of_ble_eq_true rfl⟩) (fun r u H locs hp hM => ?_)
          rcases hp with ⟨hkd, q, hq, rfl, rfl⟩ | ⟨hkd, rfl, hu⟩
          · have hM : bx_M D A s (bl_w t h a (bl_v (bl_n B q (bf_kd p1)) 0 q p2) Z) H locs := hM
            exact absurd hkd (by rw [c_19]; decide)
          · rw [hu] at hM
            have hM : bx_M D A s (bl_w t h a B Z) H locs := hM
            refine bl_hkN E hM (vp_inB hp_1 (by decide)) dX4_hang_56 (fun H locs hM => ?_)
            have hM : bx_M D A s (bl_w t h a (bl_ri B 0 p0.toNatClampNeg none) Z) H locs := hM
            refine lv_iload hx hb dX4_hang_57 (lv_at hl 0 rfl) ?_
            refine W.widen (k := 1) (n := 5) (Nat.le_of_ble_eq_true rfl) (Nat.le_of_ble_eq_true rfl) ?_
            exact bx_reti E hr hlk hM (bl_ri B 0 p0.toNatClampNeg none) rfl (by obtain ⟨q, hq⟩ := fresh_ex (bL B); exact ⟨q, hq, by subst c_19; simp [bf_hang, hp_1, hp_10, hq_40]⟩) dX4_hang_59
      · refine lv_iload_n hx hb dX4_hang_22 rfl (lv_at hl 3 rfl) ?_
        refine lv_iconst (v := 1) hx hb dX4_hang_23 (by decide) ?_
        refine lv_sipush (v := 1000) hx hb dX4_hang_24 (by decide) ?_
        refine bx_goi hM (bx_runS (As := [.int p2, .int 1, .int 1000]) (rest := []) E hM (bX4_isWithin l D t A (bl_w t h a B Z) p2 1 1000) 3 gX4_hang_X4_isWithin rfl rfl rfl (by decide +kernel) ⟨Nat.le_of_ble_eq_true rfl, Nat.le_of_ble_eq_true rfl⟩ rfl hl.1 rfl (Nat.le_of_ble_eq_true rfl) dX4_hang_27 ⟨Nat.le_of_ble_eq_true rfl, Nat.le_of_ble_eq_true rfl⟩) (fun r u H locs hp hM => ?_)
        rcases hp with ⟨rfl, hp_27⟩ | ⟨rfl, hp_27⟩
        · have hM : bx_M D A s (bl_w t h a B Z) H locs := hM
          refine lv_if_ne (tgt := 35) hx hb dX4_hang_30 (by decide) (fun _ => ?_) (fun c => absurd c (by decide))
          refine lv_aload_n hx hb dX4_hang_35 rfl (lv_at hl 0 rfl) ?_
          refine bl_get E hin hM 0 (by decide) (by decide +kernel) rfl dX4_hang_36 ?_
          refine lv_iload_n hx hb dX4_hang_39 rfl (lv_at hl 1 rfl) ?_
          refine bl_hk E hM (vp_inB hp_1 (by decide)) dX4_hang_40 (fun hq_40 => ?_) (fun y_40 hq_40 => ?_)
          · have hq_40 := hq_40
            refine bx_goi hM (bx_runS (As := [.null]) (rest := []) E hM (bX4_sortOfN l D t A h a B Z) 1 gX4_hang_X4_sortOf rfl rfl rfl (by decide +kernel) ⟨Nat.le_of_ble_eq_true rfl, Nat.le_of_ble_eq_true rfl⟩ rfl hl.1 rfl (Nat.le_of_ble_eq_true rfl) dX4_hang_41 ⟨Nat.le_of_ble_eq_true rfl, Nat.le_of_ble_eq_true rfl⟩) (fun r u H locs hp hM => ?_)
            subst hp
            have hM : bx_M D A s (bl_w t h a B Z) H locs := hM
            refine lv_istore (lv' := [(4, .int 0), (0, .ref h), (1, .int p0), (2, .int p1), (3, .int p2)]) hx hb dX4_hang_44 hl (by decide) rfl (fun ls hl => ?_)
            refine lv_aload_n hx hb dX4_hang_46 rfl (lv_at hl 1 rfl) ?_
            refine bl_get E hin hM 0 (by decide) (by decide +kernel) rfl dX4_hang_47 ?_
            refine lv_iload_n hx hb dX4_hang_50 rfl (lv_at hl 2 rfl) ?_
            refine lv_iload_n hx hb dX4_hang_51 rfl (lv_at hl 3 rfl) ?_
            refine lv_iload_n hx hb dX4_hang_52 rfl (lv_at hl 4 rfl) ?_
            refine bx_goq hM (bx_runS (As := [.int p1, .int p2]) (rest := [.int p0, .ref (a 0)]) E hM (bX4_newThing l D t A h a B Z p1 p2) 2 gX4_hang_X4_newThing rfl rfl rfl (by decide +kernel) ⟨Nat.le_of_ble_eq_true rfl, Nat.le_of_ble_eq_true rfl⟩ rfl hl.1 rfl (Nat.le_of_ble_eq_true rfl) dX4_hang_53 ⟨Nat.le_of_ble_eq_true rfl, Nat.le_of_ble_eq_true rfl⟩) (fun r u H locs hp hM => ?_)
            rcases hp with ⟨hkd, q, hq, rfl, rfl⟩ | ⟨hkd, rfl, hu⟩
            · have hM : bx_M D A s (bl_w t h a (bl_v (bl_n B q (bf_kd p1)) 0 q p2) Z) H locs := hM
              refine bl_hkS E hM (List.mem_append_right _ (List.mem_singleton.mpr rfl)) (vp_inB hp_1 (by decide)) dX4_hang_56 (fun H locs hM => ?_)
              have hM : bx_M D A s (bl_w t h a (bl_ri (bl_v (bl_n B q (bf_kd p1)) 0 q p2) 0 p0.toNatClampNeg (some q)) Z) H locs := hM
              refine lv_iload hx hb dX4_hang_57 (lv_at hl 0 rfl) ?_
              refine W.widen (k := 1) (n := 5) (Nat.le_of_ble_eq_true rfl) (Nat.le_of_ble_eq_true rfl) ?_
              exact bx_reti E hr hlk hM (bl_ri (bl_v (bl_n B q (bf_kd p1)) 0 q p2) 0 p0.toNatClampNeg (some q)) rfl (⟨q, hq, by simp [bf_hang, hp_1, hp_10, c_19, hp_27, hq_40]⟩) dX4_hang_59
            · rw [hu] at hM
              have hM : bx_M D A s (bl_w t h a B Z) H locs := hM
              exact absurd (in03 hp_10 c_19) hkd
          · have hm_y_40 := hI.1 _ (vp_lt (vp_inB (n := 10) hp_1 (by decide))) y_40 hq_40
            refine bx_goi hM (bx_runS (As := [.ref y_40]) (rest := []) E hM (bX4_sortOfS l D t A h a B Z y_40 hm_y_40) 1 gX4_hang_X4_sortOf rfl rfl rfl (by decide +kernel) ⟨Nat.le_of_ble_eq_true rfl, Nat.le_of_ble_eq_true rfl⟩ rfl hl.1 rfl (Nat.le_of_ble_eq_true rfl) dX4_hang_41 ⟨Nat.le_of_ble_eq_true rfl, Nat.le_of_ble_eq_true rfl⟩) (fun r u H locs hp hM => ?_)
            subst hp
            have hM : bx_M D A s (bl_w t h a B Z) H locs := hM
            refine lv_istore (lv' := [(4, .int (bf_sort B y_40)), (0, .ref h), (1, .int p0), (2, .int p1), (3, .int p2)]) hx hb dX4_hang_44 hl (by decide) rfl (fun ls hl => ?_)
            refine lv_aload_n hx hb dX4_hang_46 rfl (lv_at hl 1 rfl) ?_
            refine bl_get E hin hM 0 (by decide) (by decide +kernel) rfl dX4_hang_47 ?_
            refine lv_iload_n hx hb dX4_hang_50 rfl (lv_at hl 2 rfl) ?_
            refine lv_iload_n hx hb dX4_hang_51 rfl (lv_at hl 3 rfl) ?_
            refine lv_iload_n hx hb dX4_hang_52 rfl (lv_at hl 4 rfl) ?_
            refine bx_goq hM (bx_runS (As := [.int p1, .int p2]) (rest := [.int p0, .ref (a 0)]) E hM (bX4_newThing l D t A h a B Z p1 p2) 2 gX4_hang_X4_newThing rfl rfl rfl (by decide +kernel) ⟨Nat.le_of_ble_eq_true rfl, Nat.le_of_ble_eq_true rfl⟩ rfl hl.1 rfl (Nat.le_of_ble_eq_true rfl) dX4_hang_53 ⟨Nat.le_of_ble_eq_true rfl, Nat.le_of_ble_eq_true rfl⟩) (fun r u H locs hp hM => ?_)
            rcases hp with ⟨hkd, q, hq, rfl, rfl⟩ | ⟨hkd, rfl, hu⟩
            · have hM : bx_M D A s (bl_w t h a (bl_v (bl_n B q (bf_kd p1)) 0 q p2) Z) H locs := hM
              refine bl_hkS E hM (List.mem_append_right _ (List.mem_singleton.mpr rfl)) (vp_inB hp_1 (by decide)) dX4_hang_56 (fun H locs hM => ?_)
              have hM : bx_M D A s (bl_w t h a (bl_ri (bl_v (bl_n B q (bf_kd p1)) 0 q p2) 0 p0.toNatClampNeg (some q)) Z) H locs := hM
              refine lv_iload hx hb dX4_hang_57 (lv_at hl 0 rfl) ?_
              refine W.widen (k := 1) (n := 5) (Nat.le_of_ble_eq_true rfl) (Nat.le_of_ble_eq_true rfl) ?_
              exact bx_reti E hr hlk hM (bl_ri (bl_v (bl_n B q (bf_kd p1)) 0 q p2) 0 p0.toNatClampNeg (some q)) rfl (⟨q, hq, by simp [bf_hang, hp_1, hp_10, c_19, hp_27, hq_40]⟩) dX4_hang_59
            · rw [hu] at hM
              have hM : bx_M D A s (bl_w t h a B Z) H locs := hM
              exact absurd (in03 hp_10 c_19) hkd
        · have hM : bx_M D A s (bl_w t h a B Z) H locs := hM
          refine lv_if_ne (tgt := 35) hx hb dX4_hang_30 (by decide) (fun c => absurd c (by decide)) (fun _ => ?_)
          refine lv_iconst (v := (-1)) hx hb dX4_hang_33 (by decide) ?_
          refine W.widen (k := 1) (n := 5) (Nat.le_of_ble_eq_true rfl) (Nat.le_of_ble_eq_true rfl) ?_
          exact bx_reti E hr hlk hM B rfl (by obtain ⟨q, hq⟩ := fresh_ex (bL B); exact ⟨q, hq, by simp [bf_hang, hp_1, hp_10, c_19, hp_27]⟩) dX4_hang_34
    · have hM : bx_M D A s (bl_w t h a B Z) H locs := hM
      refine lv_if_ne (tgt := 18) hx hb dX4_hang_13 (by decide) (fun c => absurd c (by decide)) (fun _ => ?_)
      refine lv_iconst (v := (-1)) hx hb dX4_hang_16 (by decide) ?_
      refine W.widen (k := 1) (n := 5) (Nat.le_of_ble_eq_true rfl) (Nat.le_of_ble_eq_true rfl) ?_
      exact bx_reti E hr hlk hM B rfl (by obtain ⟨q, hq⟩ := fresh_ex (bL B); exact ⟨q, hq, by simp [bf_hang, hp_1, hp_10]⟩) dX4_hang_17
  · have hM : bx_M D A s (bl_w t h a B Z) H locs := hM
    refine lv_if_eq (tgt := 16) hx hb dX4_hang_4 (by decide) (fun _ => ?_) (fun c => absurd c (by decide))
    refine lv_iconst (v := (-1)) hx hb dX4_hang_16 (by decide) ?_
    refine W.widen (k := 1) (n := 5) (Nat.le_of_ble_eq_true rfl) (Nat.le_of_ble_eq_true rfl) ?_
    exact bx_reti E hr hlk hM B rfl (by obtain ⟨q, hq⟩ := fresh_ex (bL B); exact ⟨q, hq, by simp [bf_hang, hp_1]⟩) dX4_hang_17

set_option maxHeartbeats 4000000 in
set_option maxRecDepth 100000 in
theorem lbX4_chime {p : Program} {l : Launch} {e : Env} {s : State} {m : MethodId} {args : Array Value} {below : List Frame} {meth : Method} {c : Code} {D : va_G} {t : bx_T} {A : Nat → Prop} {h : Nat} {a : Nat → Nat} {Z : va_W} (E : bx_E p m c cX4_chime 5 s args wsX4_chime RX4 D t A) (hin : ∀ w ∈ wsX40, w ∈ wsX4_chime) (hr : meth.sig.returnType = some .int) (hlk : meth.locks = false) (mode : Int32) (F : Int32 × bl_S) : ∀ (k i : Nat) (n : Int32) (B : bl_S) (H : Heap) (locs : List Loc) (ls : Array Slot), B.2.1 2 = nI (i + k) → i + k ≤ 12 → bl_I B → bf_loop mode k i n B = F → bx_M D A s (bl_w t h a B Z) H locs → lv_has ls 5 [(3, .int (nI i)), (2, .int n), (0, .ref h), (1, .int mode)] → W p l e ({ frames := 5, cells := 0, slots := 0, locals := 109 }) s m args below meth c H locs 0 0 (MQ below (va_Qi (fun (r : Int32) (u : bl_S) => r = F.1 ∧ u = F.2) (fun (u : bl_S) U => bx_J D A (bl_w t h a u Z) U) A) args s 0 0 A) (F0 m 29 ls []) := by
  have hx := E.1.1
  have hb := E.1.2.1
  intro k
  induction k with
  | zero =>
    intro i n B H locs ls he hle hI hF hM hl
    have hlt : ¬ nI i < B.2.1 2 := nI_nltl (n := i) he (Nat.le_refl _) (by omega)
    refine lv_iload_n hx hb dX4_chime_29 rfl (lv_at hl 0 rfl) ?_
    refine lv_aload_n hx hb dX4_chime_30 rfl (lv_at hl 2 rfl) ?_
    refine bl_get E hin hM 5 (by decide) (by decide +kernel) rfl dX4_chime_31 ?_
    refine lv_icmp_ge (tgt := 69) hx hb dX4_chime_34 (by decide) (fun _ => ?_) (fun c => absurd (Int32.not_le.mp c) hlt)
    refine lv_iload_n hx hb dX4_chime_69 rfl (lv_at hl 1 rfl) ?_
    exact bx_reti E hr hlk hM B rfl (by rw [← hF]; exact ⟨rfl, rfl⟩) dX4_chime_70
  | succ k ih =>
    intro i n B H locs ls he hle hI hF hM hl
    have hlt : nI i < B.2.1 2 := nI_ltl (n := i + (k + 1)) he (by omega) (by omega)
    have hsm := bl_same.strike B (nI i)
    refine lv_iload_n hx hb dX4_chime_29 rfl (lv_at hl 0 rfl) ?_
    refine lv_aload_n hx hb dX4_chime_30 rfl (lv_at hl 2 rfl) ?_
    refine bl_get E hin hM 5 (by decide) (by decide +kernel) rfl dX4_chime_31 ?_
    refine lv_icmp_ge (tgt := 69) hx hb dX4_chime_34 (by decide) (fun c => absurd hlt (Int32.not_lt.mpr c)) (fun _ => ?_)
    refine lv_aload_n hx hb dX4_chime_37 rfl (lv_at hl 2 rfl) ?_
    refine lv_iload_n hx hb dX4_chime_38 rfl (lv_at hl 0 rfl) ?_
    refine bx_goi hM (bx_runV (As := [.int (nI i)]) (rest := []) E hM (bX4_strike l D t A h a B Z (nI i) hI) (bl_recv E hM) 1 gX4_chime_X4_strike rfl rfl rfl (by decide +kernel) ⟨Nat.le_of_ble_eq_true rfl, Nat.le_of_ble_eq_true rfl⟩ rfl hl.1 rfl (Nat.le_of_ble_eq_true rfl) dX4_chime_39 ⟨Nat.le_of_ble_eq_true rfl, Nat.le_of_ble_eq_true rfl⟩) (fun r u H locs hp hM => ?_)
    obtain ⟨rfl, rfl⟩ := hp
    have hM : bx_M D A s (bl_w t h a ((bf_strike B (nI i)).2) Z) H locs := hM
    refine lv_istore (lv' := [(4, .int ((bf_strike B (nI i)).1)), (3, .int (nI i)), (2, .int n), (0, .ref h), (1, .int mode)]) hx hb dX4_chime_42 hl (by decide) rfl (fun ls hl => ?_)
    refine lv_iload hx hb dX4_chime_44 (lv_at hl 0 rfl) ?_
    refine lv_if_lt (tgt := 55) hx hb dX4_chime_46 (by decide) (fun c_46 => ?_) (fun c_46 => ?_)
    · refine lv_iload_n hx hb dX4_chime_55 rfl (lv_at hl 4 rfl) ?_
      refine lv_iconst (v := 1) hx hb dX4_chime_56 (by decide) ?_
      refine lv_icmp_ne (tgt := 63) hx hb dX4_chime_57 (by decide) (fun c_57 => ?_) (fun c_57 => ?_)
      · refine lv_iinc (v := nI i + 1) (lv' := [(3, .int (nI i + 1)), (4, .int ((bf_strike B (nI i)).1)), (2, .int n), (0, .ref h), (1, .int mode)]) hx hb dX4_chime_63 hl (k := 1) rfl rfl (by decide) rfl (fun ls hl => ?_)
        refine lv_goto (tgt := 29) hx hb dX4_chime_66 (by decide) ?_
        rw [nI_1] at hl
        exact ih (i + 1) _ _ _ _ ls ((hsm.2.1 2 (by decide)).trans (by rw [he]; congr 1; omega)) (by omega) (hsm.I hI) (by rw [← hF]; simp [bf_loop, c_46, c_57]) hM (lv_sub hl [0, 2, 3, 4] rfl)
      · refine lv_iload hx hb dX4_chime_60 (lv_at hl 0 rfl) ?_
        exact bx_reti E hr hlk hM ((bf_strike B (nI i)).2) rfl (by rw [← hF]; simp [bf_loop, c_46, c_57]) dX4_chime_62
    · refine lv_iinc (v := n + 1) (lv' := [(2, .int (n + 1)), (4, .int ((bf_strike B (nI i)).1)), (3, .int (nI i)), (0, .ref h), (1, .int mode)]) hx hb dX4_chime_49 hl (k := 2) rfl rfl (by decide) rfl (fun ls hl => ?_)
      refine lv_goto (tgt := 63) hx hb dX4_chime_52 (by decide) ?_
      refine lv_iinc (v := nI i + 1) (lv' := [(3, .int (nI i + 1)), (2, .int (n + 1)), (4, .int ((bf_strike B (nI i)).1)), (0, .ref h), (1, .int mode)]) hx hb dX4_chime_63 hl (k := 2) rfl rfl (by decide) rfl (fun ls hl => ?_)
      refine lv_goto (tgt := 29) hx hb dX4_chime_66 (by decide) ?_
      rw [nI_1] at hl
      exact ih (i + 1) _ _ _ _ ls ((hsm.2.1 2 (by decide)).trans (by rw [he]; congr 1; omega)) (by omega) (hsm.I hI) (by rw [← hF]; simp [bf_loop, c_46]) hM (lv_sub hl [0, 1, 3, 4] rfl)

set_option maxHeartbeats 4000000 in
set_option maxRecDepth 100000 in
theorem bX4_chime (l : Launch) (D : va_G) (t : bx_T) (A : Nat → Prop) (h : Nat) (a : Nat → Nat) (B : bl_S) (Z : va_W) (p0 : Int32) (hI : bl_I B) (hn : md_ln (B.2.1 2)) : bx_Ci l yX4_chime wsX4_chime ({ frames := 5, cells := 0, slots := 0, locals := 109 }) D t A [.ref h, .int p0] (bl_w t h a B Z) (fun (r : Int32) (u : bl_S) => r = (bf_chime B p0).1 ∧ u = (bf_chime B p0).2) (fun u => bl_w t h a u Z) 0 0 := by
  refine bx_enter (cc := cX4_chime) (maxL := 5) (ret := some .int) (by decide) rfl (Nat.le_of_ble_eq_true rfl) ?_
  intro p e s m below meth c ls E hr hlk hnm hM hl
  have hl : lv_has ls 5 [(0, .ref h), (1, .int p0)] := hl
  have hx := E.1.1
  have hb := E.1.2.1
  have hin : ∀ w ∈ wsX40, w ∈ wsX4_chime := by decide +kernel
  have h0 : ∀ w ∈ wsX00, w ∈ wsX4_chime := by decide +kernel
  have h1 : ∀ w ∈ wsX10, w ∈ wsX4_chime := by decide +kernel
  have h2 : ∀ w ∈ wsX20, w ∈ wsX4_chime := by decide +kernel
  refine lv_iload_n hx hb dX4_chime_0 rfl (lv_at hl 1 rfl) ?_
  refine lv_iconst (v := 0) hx hb dX4_chime_1 (by decide) ?_
  refine lv_iconst (v := 1) hx hb dX4_chime_2 (by decide) ?_
  refine bx_goi hM (bx_runS (As := [.int p0, .int 0, .int 1]) (rest := []) E hM (bX4_isWithin l D t A (bl_w t h a B Z) p0 0 1) 3 gX4_chime_X4_isWithin rfl rfl rfl (by decide +kernel) ⟨Nat.le_of_ble_eq_true rfl, Nat.le_of_ble_eq_true rfl⟩ rfl hl.1 rfl (Nat.le_of_ble_eq_true rfl) dX4_chime_3 ⟨Nat.le_of_ble_eq_true rfl, Nat.le_of_ble_eq_true rfl⟩) (fun r u H locs hp hM => ?_)
  rcases hp with ⟨rfl, hp_3⟩ | ⟨rfl, hp_3⟩
  · have hM : bx_M D A s (bl_w t h a B Z) H locs := hM
    refine lv_if_ne (tgt := 11) hx hb dX4_chime_6 (by decide) (fun _ => ?_) (fun c => absurd c (by decide))
    refine lv_aload_n hx hb dX4_chime_11 rfl (lv_at hl 0 rfl) ?_
    refine bl_get E hin hM 5 (by decide) (by decide +kernel) rfl dX4_chime_12 ?_
    refine lv_iconst (v := (-1)) hx hb dX4_chime_15 (by decide) ?_
    refine lv_icmp_ne (tgt := 25) hx hb dX4_chime_16 (by decide) (fun c_16 => ?_) (fun c_16 => ?_)
    · refine lv_iconst (v := 0) hx hb dX4_chime_25 (by decide) ?_
      refine lv_istore_n (lv' := [(2, .int 0), (0, .ref h), (1, .int p0)]) hx hb dX4_chime_26 rfl hl (by decide) rfl (fun ls hl => ?_)
      refine lv_iconst (v := 0) hx hb dX4_chime_27 (by decide) ?_
      refine lv_istore_n (lv' := [(3, .int 0), (2, .int 0), (0, .ref h), (1, .int p0)]) hx hb dX4_chime_28 rfl hl (by decide) rfl (fun ls hl => ?_)
      rcases hn with hq | ⟨n, hn, hq⟩
      · exact absurd hq c_16
      have hq2 : (B.2.1 2).toNatClampNeg = n := by rw [hq]; exact nI_clamp (by omega)
      exact lbX4_chime E hin hr hlk p0 (bf_chime B p0) n 0 0 B _ _ ls (by rw [hq]; congr 1; omega) (by omega) hI (by simp [bf_chime, hp_3, c_16, hq2]) hM (lv_sub hl [0, 1, 2, 3] rfl)
    · refine lv_aload_n hx hb dX4_chime_19 rfl (lv_at hl 0 rfl) ?_
      refine lv_iconst (v := 1) hx hb dX4_chime_20 (by decide) ?_
      refine bx_goi hM (bx_runV (As := [.int 1]) (rest := []) E hM (bX4_tell l D t A h a B Z 1) (bl_recv E hM) 1 gX4_chime_X4_tell rfl rfl rfl (by decide +kernel) ⟨Nat.le_of_ble_eq_true rfl, Nat.le_of_ble_eq_true rfl⟩ rfl hl.1 rfl (Nat.le_of_ble_eq_true rfl) dX4_chime_21 ⟨Nat.le_of_ble_eq_true rfl, Nat.le_of_ble_eq_true rfl⟩) (fun r u H locs hp hM => ?_)
      obtain ⟨rfl, rfl⟩ := hp
      have hM : bx_M D A s (bl_w t h a (bf_tell B 1) Z) H locs := hM
      exact bx_reti E hr hlk hM (bf_tell B 1) rfl (by first | (simp [bf_chime, hp_3, c_16]; done) | (simp [bf_chime, hp_3, c_16]; rfl)) dX4_chime_24
  · have hM : bx_M D A s (bl_w t h a B Z) H locs := hM
    refine lv_if_ne (tgt := 11) hx hb dX4_chime_6 (by decide) (fun c => absurd c (by decide)) (fun _ => ?_)
    refine lv_iconst (v := (-1)) hx hb dX4_chime_9 (by decide) ?_
    exact bx_reti E hr hlk hM B rfl (by first | (simp [bf_chime, hp_3]; done) | (simp [bf_chime, hp_3]; rfl)) dX4_chime_10
