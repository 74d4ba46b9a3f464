theorem Inv.num {B : bl_S} {S : md_S} (h : Inv B S) : md_ln (B.2.1 2) := by
  obtain ⟨-, hI, ad, V, h⟩ := h
  rw [h.2.1.1 2 (by decide)]
  exact hI.2.2.2.2.1
theorem law_sw1 {D : va_G} {A : Nat → Prop} {s : State} {t : bx_T} {x y : Nat} {ax ay : Nat → Nat} {B : bl_S} {S : md_S} {H : Heap} {locs : List Loc} (h : bx_M D A s (bl_w t x ax B (md_w t.1 y ay S)) H locs) : bx_M D A s (md_w t.1 y ay S ++ (bl_x t x ax B [] ++ va_pl (bL B) (bl_tf B))) H locs := by
  obtain ⟨h1, h2, h3⟩ := h
  have g1 : va_P D vwCl ((bl_x t x ax B [] ++ md_w t.1 y ay S) ++ va_pl (bL B) (bl_tf B)) H := h1
  have g2 : va_D A ((bl_x t x ax B [] ++ md_w t.1 y ay S) ++ va_pl (bL B) (bl_tf B)) := h2
  have k1 : va_P D vwCl (([] ++ (bl_x t x ax B [] ++ va_pl (bL B) (bl_tf B))) ++ md_w t.1 y ay S) H := g1.swap
  have k2 : va_D A (([] ++ (bl_x t x ax B [] ++ va_pl (bL B) (bl_tf B))) ++ md_w t.1 y ay S) := g2.swap
  exact ⟨k1.swap, k2.swap, h3⟩
theorem law_sw2 {D : va_G} {A : Nat → Prop} {s : State} {t : bx_T} {x y : Nat} {ax ay : Nat → Nat} {B : bl_S} {S : md_S} {H : Heap} {locs : List Loc} (h : bx_M D A s (md_w t.1 y ay S ++ (bl_x t x ax B [] ++ va_pl (bL B) (bl_tf B))) H locs) : bx_M D A s (bl_w t x ax B (md_w t.1 y ay S)) H locs := by
  obtain ⟨h1, h2, h3⟩ := h
  have g1 : va_P D vwCl (([] ++ md_w t.1 y ay S) ++ (bl_x t x ax B [] ++ va_pl (bL B) (bl_tf B))) H := h1
  have g2 : va_D A (([] ++ md_w t.1 y ay S) ++ (bl_x t x ax B [] ++ va_pl (bL B) (bl_tf B))) := h2
  have k1 : va_P D vwCl ((bl_x t x ax B [] ++ va_pl (bL B) (bl_tf B)) ++ md_w t.1 y ay S) H := g1.swap
  have k2 : va_D A ((bl_x t x ax B [] ++ va_pl (bL B) (bl_tf B)) ++ md_w t.1 y ay S) := g2.swap
  exact ⟨k1.swap, k2.swap, h3⟩

set_option maxHeartbeats 4000000 in
set_option maxRecDepth 100000 in
theorem law_hang {p : Program} {l : Launch} {e : Env} {s : State} {m : MethodId} {below : List Frame} {meth : Method} {c : Code} {Q : State → Prop} {D : va_G} {t : bx_T} {A : Nat → Prop} {b L i x y : Nat} {xs : Nat → Int32} {ax ay : Nat → Nat} {B : bl_S} {S : md_S} {H : Heap} {locs : List Loc} {ls : Array Slot} (E : bx_E p m c code 4 s #[Value.ref b] wsL_law RL D t A) (hX : va_X b L xs s s.heap) (hbl : b < s.heap.size) (hbA : ¬ A b) (hi : i + 4 ≤ L) (hL : L ≤ 2048) (HI : Inv B S) (hM : bx_M D A s (bl_w t x ax B (md_w t.1 y ay S)) H locs) (hl : lv_has ls 4 [(3, .int (nI i)), (0, .ref b), (1, .ref x), (2, .ref y)])
    (kk : ∀ (B : bl_S) (S : md_S) (H : Heap) (locs : List Loc) (ls : Array Slot), Inv B S → bx_M D A s (bl_w t x ax B (md_w t.1 y ay S)) H locs → lv_has ls 4 [(3, .int (nI i)), (0, .ref b), (1, .ref x), (2, .ref y)] → W p l e room_1 s m #[Value.ref b] below meth c H locs (19 + i + 1) (847 + 5 * i + 5) Q (F0 m 795 ls [])) : W p l e room_1 s m #[Value.ref b] below meth c H locs (19 + i) (847 + 5 * i) Q (F0 m 140 ls []) := by
  have hx := E.1.1
  have hb := E.1.2.1
  have hB := HI.1
  have hI := HI.2.1
  have v1 : vp_in (nI i + 1) L := by rw [show (1 : Int32) = nI 1 from rfl, nI_add]; exact vp_in_nI (by omega) (by omega)
  have v2 : vp_in (nI i + 2) L := by rw [show (2 : Int32) = nI 2 from rfl, nI_add]; exact vp_in_nI (by omega) (by omega)
  have v3 : vp_in (nI i + 3) L := by rw [show (3 : Int32) = nI 3 from rfl, nI_add]; exact vp_in_nI (by omega) (by omega)
  refine lv_aload_n hx hb dL_law_140 rfl (lv_at hl 2 rfl) ?_
  refine lv_aload_n hx hb dL_law_141 rfl (lv_at hl 1 rfl) ?_
  refine lv_iload_n hx hb dL_law_142 rfl (lv_at hl 0 rfl) ?_
  refine lv_iconst (v := 1) hx hb dL_law_143 (by decide) ?_
  refine lv_iadd hx hb dL_law_144 ?_
  refine va_sld hx hb hX hbl hbA hM.2.2 v1 dL_law_145 ?_
  refine lv_aload_n hx hb dL_law_146 rfl (lv_at hl 1 rfl) ?_
  refine lv_iload_n hx hb dL_law_147 rfl (lv_at hl 0 rfl) ?_
  refine lv_iconst (v := 2) hx hb dL_law_148 (by decide) ?_
  refine lv_iadd hx hb dL_law_149 ?_
  refine va_sld hx hb hX hbl hbA hM.2.2 v2 dL_law_150 ?_
  refine lv_aload_n hx hb dL_law_151 rfl (lv_at hl 1 rfl) ?_
  refine lv_iload_n hx hb dL_law_152 rfl (lv_at hl 0 rfl) ?_
  refine lv_iconst (v := 3) hx hb dL_law_153 (by decide) ?_
  refine lv_iadd hx hb dL_law_154 ?_
  refine va_sld hx hb hX hbl hbA hM.2.2 v3 dL_law_155 ?_
  refine bx_goi hM (bx_runV (As := [.int (xs ((nI i) + 1).toNatClampNeg), .int (xs ((nI i) + 2).toNatClampNeg), .int (xs ((nI i) + 3).toNatClampNeg)]) (rest := []) E hM (bX4_hang l D t A x ax B (md_w t.1 y ay S) (xs ((nI i) + 1).toNatClampNeg) (xs ((nI i) + 2).toNatClampNeg) (xs ((nI i) + 3).toNatClampNeg) hB) (bl_recv E hM) 3 gL_law_X4_hang rfl rfl rfl (by decide +kernel) ⟨Nat.le_of_ble_eq_true rfl, Nat.le_of_ble_eq_true rfl⟩ rfl hl.1 rfl (Nat.le_of_ble_eq_true rfl) dL_law_156 ⟨show 19 + i + 1 ≤ 715299 by omega, show 847 + 5 * i + 5 ≤ 6956352 by omega⟩) (fun r u H locs hp hM => ?_)
  obtain ⟨q, hq, rfl, rfl⟩ := hp
  have hM := law_sw1 (B := (bf_hang B (xs ((nI i) + 1).toNatClampNeg) (xs ((nI i) + 2).toNatClampNeg) (xs ((nI i) + 3).toNatClampNeg) q).2) hM
  refine lv_aload_n hx hb dL_law_159 rfl (lv_at hl 3 rfl) ?_
  refine lv_aload_n hx hb dL_law_160 rfl (lv_at hl 1 rfl) ?_
  refine lv_iload_n hx hb dL_law_161 rfl (lv_at hl 0 rfl) ?_
  refine lv_iconst (v := 1) hx hb dL_law_162 (by decide) ?_
  refine lv_iadd hx hb dL_law_163 ?_
  refine va_sld hx hb hX hbl hbA hM.2.2 v1 dL_law_164 ?_
  refine lv_aload_n hx hb dL_law_165 rfl (lv_at hl 1 rfl) ?_
  refine lv_iload_n hx hb dL_law_166 rfl (lv_at hl 0 rfl) ?_
  refine lv_iconst (v := 2) hx hb dL_law_167 (by decide) ?_
  refine lv_iadd hx hb dL_law_168 ?_
  refine va_sld hx hb hX hbl hbA hM.2.2 v2 dL_law_169 ?_
  refine lv_aload_n hx hb dL_law_170 rfl (lv_at hl 1 rfl) ?_
  refine lv_iload_n hx hb dL_law_171 rfl (lv_at hl 0 rfl) ?_
  refine lv_iconst (v := 3) hx hb dL_law_172 (by decide) ?_
  refine lv_iadd hx hb dL_law_173 ?_
  refine va_sld hx hb hX hbl hbA hM.2.2 v3 dL_law_174 ?_
  refine bx_goi hM (bx_runV (As := [.int (xs ((nI i) + 1).toNatClampNeg), .int (xs ((nI i) + 2).toNatClampNeg), .int (xs ((nI i) + 3).toNatClampNeg)]) (rest := [.int ((bf_hang B (xs ((nI i) + 1).toNatClampNeg) (xs ((nI i) + 2).toNatClampNeg) (xs ((nI i) + 3).toNatClampNeg) q).1)]) E hM (cX5c_hang l D t A y ay S (bl_x t x ax (bf_hang B (xs ((nI i) + 1).toNatClampNeg) (xs ((nI i) + 2).toNatClampNeg) (xs ((nI i) + 3).toNatClampNeg) q).2 [] ++ va_pl (bL (bf_hang B (xs ((nI i) + 1).toNatClampNeg) (xs ((nI i) + 2).toNatClampNeg) (xs ((nI i) + 3).toNatClampNeg) q).2) (bl_tf (bf_hang B (xs ((nI i) + 1).toNatClampNeg) (xs ((nI i) + 2).toNatClampNeg) (xs ((nI i) + 3).toNatClampNeg) q).2)) (xs ((nI i) + 1).toNatClampNeg) (xs ((nI i) + 2).toNatClampNeg) (xs ((nI i) + 3).toNatClampNeg) hI (md_free hI.2.2.2.1)) (md_recv E hM) 3 gL_law_X5_hang rfl rfl rfl (by decide +kernel) ⟨Nat.le_of_ble_eq_true rfl, Nat.le_of_ble_eq_true rfl⟩ rfl hl.1 rfl (Nat.le_of_ble_eq_true rfl) dL_law_175 ⟨show 19 + i + 1 + 0 ≤ 715299 by omega, show 847 + 5 * i + 5 + 0 ≤ 6956352 by omega⟩) (fun r u H locs hp hM => ?_)
  obtain ⟨n, hn, hnt, rfl, rfl⟩ := hp
  have hM := law_sw2 (B := (bf_hang B (xs ((nI i) + 1).toNatClampNeg) (xs ((nI i) + 2).toNatClampNeg) (xs ((nI i) + 3).toNatClampNeg) q).2) (S := (mf_hang S (xs ((nI i) + 1).toNatClampNeg) (xs ((nI i) + 2).toNatClampNeg) (xs ((nI i) + 3).toNatClampNeg) n).2) hM
  have HR := op_hang HI (xs ((nI i) + 1).toNatClampNeg) (xs ((nI i) + 2).toNatClampNeg) (xs ((nI i) + 3).toNatClampNeg) hq hn hnt
  refine lv_icmp_eq (tgt := 795) hx hb dL_law_178 (by decide) (fun _ => ?_) (fun c => absurd HR.1 c)
  refine W.widen (k := 19 + i + 1) (n := 847 + 5 * i + 5) (by omega) (by omega) ?_
  exact kk _ _ H locs ls HR.2 hM hl

set_option maxHeartbeats 4000000 in
set_option maxRecDepth 100000 in
theorem law_weigh {p : Program} {l : Launch} {e : Env} {s : State} {m : MethodId} {below : List Frame} {meth : Method} {c : Code} {Q : State → Prop} {D : va_G} {t : bx_T} {A : Nat → Prop} {b L i x y : Nat} {xs : Nat → Int32} {ax ay : Nat → Nat} {B : bl_S} {S : md_S} {H : Heap} {locs : List Loc} {ls : Array Slot} (E : bx_E p m c code 4 s #[Value.ref b] wsL_law RL D t A) (hX : va_X b L xs s s.heap) (hbl : b < s.heap.size) (hbA : ¬ A b) (hi : i + 4 ≤ L) (hL : L ≤ 2048) (HI : Inv B S) (hM : bx_M D A s (bl_w t x ax B (md_w t.1 y ay S)) H locs) (hl : lv_has ls 4 [(3, .int (nI i)), (0, .ref b), (1, .ref x), (2, .ref y)])
    (kk : ∀ (B : bl_S) (S : md_S) (H : Heap) (locs : List Loc) (ls : Array Slot), Inv B S → bx_M D A s (bl_w t x ax B (md_w t.1 y ay S)) H locs → lv_has ls 4 [(3, .int (nI i)), (0, .ref b), (1, .ref x), (2, .ref y)] → W p l e room_1 s m #[Value.ref b] below meth c H locs (19 + i + 1) (847 + 5 * i + 5) Q (F0 m 795 ls [])) : W p l e room_1 s m #[Value.ref b] below meth c H locs (19 + i) (847 + 5 * i) Q (F0 m 183 ls []) := by
  have hx := E.1.1
  have hb := E.1.2.1
  have hB := HI.1
  have hI := HI.2.1
  have v1 : vp_in (nI i + 1) L := by rw [show (1 : Int32) = nI 1 from rfl, nI_add]; exact vp_in_nI (by omega) (by omega)
  refine lv_aload_n hx hb dL_law_183 rfl (lv_at hl 2 rfl) ?_
  refine lv_aload_n hx hb dL_law_184 rfl (lv_at hl 1 rfl) ?_
  refine lv_iload_n hx hb dL_law_185 rfl (lv_at hl 0 rfl) ?_
  refine lv_iconst (v := 1) hx hb dL_law_186 (by decide) ?_
  refine lv_iadd hx hb dL_law_187 ?_
  refine va_sld hx hb hX hbl hbA hM.2.2 v1 dL_law_188 ?_
  refine bx_goi hM (bx_runV (As := [.int (xs ((nI i) + 1).toNatClampNeg)]) (rest := []) E hM (bX4_weigh l D t A x ax B (md_w t.1 y ay S) (xs ((nI i) + 1).toNatClampNeg) hB) (bl_recv E hM) 1 gL_law_X4_weigh rfl rfl rfl (by decide +kernel) ⟨Nat.le_of_ble_eq_true rfl, Nat.le_of_ble_eq_true rfl⟩ rfl hl.1 rfl (Nat.le_of_ble_eq_true rfl) dL_law_189 ⟨show 19 + i + 0 ≤ 715299 by omega, show 847 + 5 * i + 0 ≤ 6956352 by omega⟩) (fun r u H locs hp hM => ?_)
  obtain ⟨rfl, rfl⟩ := hp
  have hM := law_sw1 (B := (bf_weigh B (xs ((nI i) + 1).toNatClampNeg)).2) hM
  refine lv_aload_n hx hb dL_law_192 rfl (lv_at hl 3 rfl) ?_
  refine lv_aload_n hx hb dL_law_193 rfl (lv_at hl 1 rfl) ?_
  refine lv_iload_n hx hb dL_law_194 rfl (lv_at hl 0 rfl) ?_
  refine lv_iconst (v := 1) hx hb dL_law_195 (by decide) ?_
  refine lv_iadd hx hb dL_law_196 ?_
  refine va_sld hx hb hX hbl hbA hM.2.2 v1 dL_law_197 ?_
  refine bx_goi hM (bx_runV (As := [.int (xs ((nI i) + 1).toNatClampNeg)]) (rest := [.int ((bf_weigh B (xs ((nI i) + 1).toNatClampNeg)).1)]) E hM (cX5c_weigh l D t A y ay S (bl_x t x ax (bf_weigh B (xs ((nI i) + 1).toNatClampNeg)).2 [] ++ va_pl (bL (bf_weigh B (xs ((nI i) + 1).toNatClampNeg)).2) (bl_tf (bf_weigh B (xs ((nI i) + 1).toNatClampNeg)).2)) (xs ((nI i) + 1).toNatClampNeg) hI) (md_recv E hM) 1 gL_law_X5_weigh rfl rfl rfl (by decide +kernel) ⟨Nat.le_of_ble_eq_true rfl, Nat.le_of_ble_eq_true rfl⟩ rfl hl.1 rfl (Nat.le_of_ble_eq_true rfl) dL_law_198 ⟨show 19 + i + 0 + 0 ≤ 715299 by omega, show 847 + 5 * i + 0 + 0 ≤ 6956352 by omega⟩) (fun r u H locs hp hM => ?_)
  obtain ⟨rfl, rfl⟩ := hp
  have hM := law_sw2 (B := (bf_weigh B (xs ((nI i) + 1).toNatClampNeg)).2) (S := (mf_weigh S (xs ((nI i) + 1).toNatClampNeg)).2) hM
  have HR := op_weigh HI (xs ((nI i) + 1).toNatClampNeg) 
  refine lv_icmp_eq (tgt := 795) hx hb dL_law_201 (by decide) (fun _ => ?_) (fun c => absurd HR.1 c)
  refine W.widen (k := 19 + i + 1) (n := 847 + 5 * i + 5) (by omega) (by omega) ?_
  exact kk _ _ H locs ls HR.2 hM hl

set_option maxHeartbeats 4000000 in
set_option maxRecDepth 100000 in
theorem law_ring {p : Program} {l : Launch} {e : Env} {s : State} {m : MethodId} {below : List Frame} {meth : Method} {c : Code} {Q : State → Prop} {D : va_G} {t : bx_T} {A : Nat → Prop} {b L i x y : Nat} {xs : Nat → Int32} {ax ay : Nat → Nat} {B : bl_S} {S : md_S} {H : Heap} {locs : List Loc} {ls : Array Slot} (E : bx_E p m c code 4 s #[Value.ref b] wsL_law RL D t A) (hX : va_X b L xs s s.heap) (hbl : b < s.heap.size) (hbA : ¬ A b) (hi : i + 4 ≤ L) (hL : L ≤ 2048) (HI : Inv B S) (hM : bx_M D A s (bl_w t x ax B (md_w t.1 y ay S)) H locs) (hl : lv_has ls 4 [(3, .int (nI i)), (0, .ref b), (1, .ref x), (2, .ref y)])
    (kk : ∀ (B : bl_S) (S : md_S) (H : Heap) (locs : List Loc) (ls : Array Slot), Inv B S → bx_M D A s (bl_w t x ax B (md_w t.1 y ay S)) H locs → lv_has ls 4 [(3, .int (nI i)), (0, .ref b), (1, .ref x), (2, .ref y)] → W p l e room_1 s m #[Value.ref b] below meth c H locs (19 + i + 1) (847 + 5 * i + 5) Q (F0 m 795 ls [])) : W p l e room_1 s m #[Value.ref b] below meth c H locs (19 + i) (847 + 5 * i) Q (F0 m 206 ls []) := by
  have hx := E.1.1
  have hb := E.1.2.1
  have hB := HI.1
  have hI := HI.2.1
  have v1 : vp_in (nI i + 1) L := by rw [show (1 : Int32) = nI 1 from rfl, nI_add]; exact vp_in_nI (by omega) (by omega)
  refine lv_aload_n hx hb dL_law_206 rfl (lv_at hl 2 rfl) ?_
  refine lv_aload_n hx hb dL_law_207 rfl (lv_at hl 1 rfl) ?_
  refine lv_iload_n hx hb dL_law_208 rfl (lv_at hl 0 rfl) ?_
  refine lv_iconst (v := 1) hx hb dL_law_209 (by decide) ?_
  refine lv_iadd hx hb dL_law_210 ?_
  refine va_sld hx hb hX hbl hbA hM.2.2 v1 dL_law_211 ?_
  refine bx_goi hM (bx_runV (As := [.int (xs ((nI i) + 1).toNatClampNeg)]) (rest := []) E hM (bX4_ring l D t A x ax B (md_w t.1 y ay S) (xs ((nI i) + 1).toNatClampNeg) hB) (bl_recv E hM) 1 gL_law_X4_ring rfl rfl rfl (by decide +kernel) ⟨Nat.le_of_ble_eq_true rfl, Nat.le_of_ble_eq_true rfl⟩ rfl hl.1 rfl (Nat.le_of_ble_eq_true rfl) dL_law_212 ⟨show 19 + i + 0 ≤ 715299 by omega, show 847 + 5 * i + 0 ≤ 6956352 by omega⟩) (fun r u H locs hp hM => ?_)
  obtain ⟨rfl, rfl⟩ := hp
  have hM := law_sw1 (B := (bf_ring B (xs ((nI i) + 1).toNatClampNeg)).2) hM
  refine lv_aload_n hx hb dL_law_215 rfl (lv_at hl 3 rfl) ?_
  refine lv_aload_n hx hb dL_law_216 rfl (lv_at hl 1 rfl) ?_
  refine lv_iload_n hx hb dL_law_217 rfl (lv_at hl 0 rfl) ?_
  refine lv_iconst (v := 1) hx hb dL_law_218 (by decide) ?_
  refine lv_iadd hx hb dL_law_219 ?_
  refine va_sld hx hb hX hbl hbA hM.2.2 v1 dL_law_220 ?_
  refine bx_goi hM (bx_runV (As := [.int (xs ((nI i) + 1).toNatClampNeg)]) (rest := [.int ((bf_ring B (xs ((nI i) + 1).toNatClampNeg)).1)]) E hM (cX5c_ring l D t A y ay S (bl_x t x ax (bf_ring B (xs ((nI i) + 1).toNatClampNeg)).2 [] ++ va_pl (bL (bf_ring B (xs ((nI i) + 1).toNatClampNeg)).2) (bl_tf (bf_ring B (xs ((nI i) + 1).toNatClampNeg)).2)) (xs ((nI i) + 1).toNatClampNeg) hI) (md_recv E hM) 1 gL_law_X5_ring rfl rfl rfl (by decide +kernel) ⟨Nat.le_of_ble_eq_true rfl, Nat.le_of_ble_eq_true rfl⟩ rfl hl.1 rfl (Nat.le_of_ble_eq_true rfl) dL_law_221 ⟨show 19 + i + 0 + 0 ≤ 715299 by omega, show 847 + 5 * i + 0 + 0 ≤ 6956352 by omega⟩) (fun r u H locs hp hM => ?_)
  obtain ⟨rfl, rfl⟩ := hp
  have hM := law_sw2 (B := (bf_ring B (xs ((nI i) + 1).toNatClampNeg)).2) (S := (mf_ring S (xs ((nI i) + 1).toNatClampNeg)).2) hM
  have HR := op_ring HI (xs ((nI i) + 1).toNatClampNeg) 
  refine lv_icmp_eq (tgt := 795) hx hb dL_law_224 (by decide) (fun _ => ?_) (fun c => absurd HR.1 c)
  refine W.widen (k := 19 + i + 1) (n := 847 + 5 * i + 5) (by omega) (by omega) ?_
  exact kk _ _ H locs ls HR.2 hM hl

set_option maxHeartbeats 4000000 in
set_option maxRecDepth 100000 in
theorem law_hum {p : Program} {l : Launch} {e : Env} {s : State} {m : MethodId} {below : List Frame} {meth : Method} {c : Code} {Q : State → Prop} {D : va_G} {t : bx_T} {A : Nat → Prop} {b L i x y : Nat} {xs : Nat → Int32} {ax ay : Nat → Nat} {B : bl_S} {S : md_S} {H : Heap} {locs : List Loc} {ls : Array Slot} (E : bx_E p m c code 4 s #[Value.ref b] wsL_law RL D t A) (hX : va_X b L xs s s.heap) (hbl : b < s.heap.size) (hbA : ¬ A b) (hi : i + 4 ≤ L) (hL : L ≤ 2048) (HI : Inv B S) (hM : bx_M D A s (bl_w t x ax B (md_w t.1 y ay S)) H locs) (hl : lv_has ls 4 [(3, .int (nI i)), (0, .ref b), (1, .ref x), (2, .ref y)])
    (kk : ∀ (B : bl_S) (S : md_S) (H : Heap) (locs : List Loc) (ls : Array Slot), Inv B S → bx_M D A s (bl_w t x ax B (md_w t.1 y ay S)) H locs → lv_has ls 4 [(3, .int (nI i)), (0, .ref b), (1, .ref x), (2, .ref y)] → W p l e room_1 s m #[Value.ref b] below meth c H locs (19 + i + 1) (847 + 5 * i + 5) Q (F0 m 795 ls [])) : W p l e room_1 s m #[Value.ref b] below meth c H locs (19 + i) (847 + 5 * i) Q (F0 m 229 ls []) := by
  have hx := E.1.1
  have hb := E.1.2.1
  have hB := HI.1
  have hI := HI.2.1
  have v1 : vp_in (nI i + 1) L := by rw [show (1 : Int32) = nI 1 from rfl, nI_add]; exact vp_in_nI (by omega) (by omega)
  refine lv_aload_n hx hb dL_law_229 rfl (lv_at hl 2 rfl) ?_
  refine lv_aload_n hx hb dL_law_230 rfl (lv_at hl 1 rfl) ?_
  refine lv_iload_n hx hb dL_law_231 rfl (lv_at hl 0 rfl) ?_
  refine lv_iconst (v := 1) hx hb dL_law_232 (by decide) ?_
  refine lv_iadd hx hb dL_law_233 ?_
  refine va_sld hx hb hX hbl hbA hM.2.2 v1 dL_law_234 ?_
  refine bx_goi hM (bx_runV (As := [.int (xs ((nI i) + 1).toNatClampNeg)]) (rest := []) E hM (bX4_hum l D t A x ax B (md_w t.1 y ay S) (xs ((nI i) + 1).toNatClampNeg) hB) (bl_recv E hM) 1 gL_law_X4_hum rfl rfl rfl (by decide +kernel) ⟨Nat.le_of_ble_eq_true rfl, Nat.le_of_ble_eq_true rfl⟩ rfl hl.1 rfl (Nat.le_of_ble_eq_true rfl) dL_law_235 ⟨show 19 + i + 0 ≤ 715299 by omega, show 847 + 5 * i + 0 ≤ 6956352 by omega⟩) (fun r u H locs hp hM => ?_)
  obtain ⟨rfl, rfl⟩ := hp
  have hM := law_sw1 (B := (bf_hum B (xs ((nI i) + 1).toNatClampNeg)).2) hM
  refine lv_aload_n hx hb dL_law_238 rfl (lv_at hl 3 rfl) ?_
  refine lv_aload_n hx hb dL_law_239 rfl (lv_at hl 1 rfl) ?_
  refine lv_iload_n hx hb dL_law_240 rfl (lv_at hl 0 rfl) ?_
  refine lv_iconst (v := 1) hx hb dL_law_241 (by decide) ?_
  refine lv_iadd hx hb dL_law_242 ?_
  refine va_sld hx hb hX hbl hbA hM.2.2 v1 dL_law_243 ?_
  refine bx_goi hM (bx_runV (As := [.int (xs ((nI i) + 1).toNatClampNeg)]) (rest := [.int ((bf_hum B (xs ((nI i) + 1).toNatClampNeg)).1)]) E hM (cX5c_hum l D t A y ay S (bl_x t x ax (bf_hum B (xs ((nI i) + 1).toNatClampNeg)).2 [] ++ va_pl (bL (bf_hum B (xs ((nI i) + 1).toNatClampNeg)).2) (bl_tf (bf_hum B (xs ((nI i) + 1).toNatClampNeg)).2)) (xs ((nI i) + 1).toNatClampNeg) hI) (md_recv E hM) 1 gL_law_X5_hum rfl rfl rfl (by decide +kernel) ⟨Nat.le_of_ble_eq_true rfl, Nat.le_of_ble_eq_true rfl⟩ rfl hl.1 rfl (Nat.le_of_ble_eq_true rfl) dL_law_244 ⟨show 19 + i + 0 + 0 ≤ 715299 by omega, show 847 + 5 * i + 0 + 0 ≤ 6956352 by omega⟩) (fun r u H locs hp hM => ?_)
  obtain ⟨rfl, rfl⟩ := hp
  have hM := law_sw2 (B := (bf_hum B (xs ((nI i) + 1).toNatClampNeg)).2) (S := (mf_hum S (xs ((nI i) + 1).toNatClampNeg)).2) hM
  have HR := op_hum HI (xs ((nI i) + 1).toNatClampNeg) 
  refine lv_icmp_eq (tgt := 795) hx hb dL_law_247 (by decide) (fun _ => ?_) (fun c => absurd HR.1 c)
  refine W.widen (k := 19 + i + 1) (n := 847 + 5 * i + 5) (by omega) (by omega) ?_
  exact kk _ _ H locs ls HR.2 hM hl

set_option maxHeartbeats 4000000 in
set_option maxRecDepth 100000 in
theorem law_tune {p : Program} {l : Launch} {e : Env} {s : State} {m : MethodId} {below : List Frame} {meth : Method} {c : Code} {Q : State → Prop} {D : va_G} {t : bx_T} {A : Nat → Prop} {b L i x y : Nat} {xs : Nat → Int32} {ax ay : Nat → Nat} {B : bl_S} {S : md_S} {H : Heap} {locs : List Loc} {ls : Array Slot} (E : bx_E p m c code 4 s #[Value.ref b] wsL_law RL D t A) (hX : va_X b L xs s s.heap) (hbl : b < s.heap.size) (hbA : ¬ A b) (hi : i + 4 ≤ L) (hL : L ≤ 2048) (HI : Inv B S) (hM : bx_M D A s (bl_w t x ax B (md_w t.1 y ay S)) H locs) (hl : lv_has ls 4 [(3, .int (nI i)), (0, .ref b), (1, .ref x), (2, .ref y)])
    (kk : ∀ (B : bl_S) (S : md_S) (H : Heap) (locs : List Loc) (ls : Array Slot), Inv B S → bx_M D A s (bl_w t x ax B (md_w t.1 y ay S)) H locs → lv_has ls 4 [(3, .int (nI i)), (0, .ref b), (1, .ref x), (2, .ref y)] → W p l e room_1 s m #[Value.ref b] below meth c H locs (19 + i + 1) (847 + 5 * i + 5) Q (F0 m 795 ls [])) : W p l e room_1 s m #[Value.ref b] below meth c H locs (19 + i) (847 + 5 * i) Q (F0 m 252 ls []) := by
  have hx := E.1.1
  have hb := E.1.2.1
  have hB := HI.1
  have hI := HI.2.1
  have v1 : vp_in (nI i + 1) L := by rw [show (1 : Int32) = nI 1 from rfl, nI_add]; exact vp_in_nI (by omega) (by omega)
  have v2 : vp_in (nI i + 2) L := by rw [show (2 : Int32) = nI 2 from rfl, nI_add]; exact vp_in_nI (by omega) (by omega)
  refine lv_aload_n hx hb dL_law_252 rfl (lv_at hl 2 rfl) ?_
  refine lv_aload_n hx hb dL_law_253 rfl (lv_at hl 1 rfl) ?_
  refine lv_iload_n hx hb dL_law_254 rfl (lv_at hl 0 rfl) ?_
  refine lv_iconst (v := 1) hx hb dL_law_255 (by decide) ?_
  refine lv_iadd hx hb dL_law_256 ?_
  refine va_sld hx hb hX hbl hbA hM.2.2 v1 dL_law_257 ?_
  refine lv_aload_n hx hb dL_law_258 rfl (lv_at hl 1 rfl) ?_
  refine lv_iload_n hx hb dL_law_259 rfl (lv_at hl 0 rfl) ?_
  refine lv_iconst (v := 2) hx hb dL_law_260 (by decide) ?_
  refine lv_iadd hx hb dL_law_261 ?_
  refine va_sld hx hb hX hbl hbA hM.2.2 v2 dL_law_262 ?_
  refine bx_goi hM (bx_runV (As := [.int (xs ((nI i) + 1).toNatClampNeg), .int (xs ((nI i) + 2).toNatClampNeg)]) (rest := []) E hM (bX4_tune l D t A x ax B (md_w t.1 y ay S) (xs ((nI i) + 1).toNatClampNeg) (xs ((nI i) + 2).toNatClampNeg) hB) (bl_recv E hM) 2 gL_law_X4_tune rfl rfl rfl (by decide +kernel) ⟨Nat.le_of_ble_eq_true rfl, Nat.le_of_ble_eq_true rfl⟩ rfl hl.1 rfl (Nat.le_of_ble_eq_true rfl) dL_law_263 ⟨show 19 + i + 0 ≤ 715299 by omega, show 847 + 5 * i + 0 ≤ 6956352 by omega⟩) (fun r u H locs hp hM => ?_)
  obtain ⟨rfl, rfl⟩ := hp
  have hM := law_sw1 (B := (bf_tune B (xs ((nI i) + 1).toNatClampNeg) (xs ((nI i) + 2).toNatClampNeg)).2) hM
  refine lv_aload_n hx hb dL_law_266 rfl (lv_at hl 3 rfl) ?_
  refine lv_aload_n hx hb dL_law_267 rfl (lv_at hl 1 rfl) ?_
  refine lv_iload_n hx hb dL_law_268 rfl (lv_at hl 0 rfl) ?_
  refine lv_iconst (v := 1) hx hb dL_law_269 (by decide) ?_
  refine lv_iadd hx hb dL_law_270 ?_
  refine va_sld hx hb hX hbl hbA hM.2.2 v1 dL_law_271 ?_
  refine lv_aload_n hx hb dL_law_272 rfl (lv_at hl 1 rfl) ?_
  refine lv_iload_n hx hb dL_law_273 rfl (lv_at hl 0 rfl) ?_
  refine lv_iconst (v := 2) hx hb dL_law_274 (by decide) ?_
  refine lv_iadd hx hb dL_law_275 ?_
  refine va_sld hx hb hX hbl hbA hM.2.2 v2 dL_law_276 ?_
  refine bx_goi hM (bx_runV (As := [.int (xs ((nI i) + 1).toNatClampNeg), .int (xs ((nI i) + 2).toNatClampNeg)]) (rest := [.int ((bf_tune B (xs ((nI i) + 1).toNatClampNeg) (xs ((nI i) + 2).toNatClampNeg)).1)]) E hM (cX5c_tune l D t A y ay S (bl_x t x ax (bf_tune B (xs ((nI i) + 1).toNatClampNeg) (xs ((nI i) + 2).toNatClampNeg)).2 [] ++ va_pl (bL (bf_tune B (xs ((nI i) + 1).toNatClampNeg) (xs ((nI i) + 2).toNatClampNeg)).2) (bl_tf (bf_tune B (xs ((nI i) + 1).toNatClampNeg) (xs ((nI i) + 2).toNatClampNeg)).2)) (xs ((nI i) + 1).toNatClampNeg) (xs ((nI i) + 2).toNatClampNeg) hI) (md_recv E hM) 2 gL_law_X5_tune rfl rfl rfl (by decide +kernel) ⟨Nat.le_of_ble_eq_true rfl, Nat.le_of_ble_eq_true rfl⟩ rfl hl.1 rfl (Nat.le_of_ble_eq_true rfl) dL_law_277 ⟨show 19 + i + 0 + 0 ≤ 715299 by omega, show 847 + 5 * i + 0 + 0 ≤ 6956352 by omega⟩) (fun r u H locs hp hM => ?_)
  obtain ⟨rfl, rfl⟩ := hp
  have hM := law_sw2 (B := (bf_tune B (xs ((nI i) + 1).toNatClampNeg) (xs ((nI i) + 2).toNatClampNeg)).2) (S := (mf_tune S (xs ((nI i) + 1).toNatClampNeg) (xs ((nI i) + 2).toNatClampNeg)).2) hM
  have HR := op_tune HI (xs ((nI i) + 1).toNatClampNeg) (xs ((nI i) + 2).toNatClampNeg) 
  refine lv_icmp_eq (tgt := 795) hx hb dL_law_280 (by decide) (fun _ => ?_) (fun c => absurd HR.1 c)
  refine W.widen (k := 19 + i + 1) (n := 847 + 5 * i + 5) (by omega) (by omega) ?_
  exact kk _ _ H locs ls HR.2 hM hl

set_option maxHeartbeats 4000000 in
set_option maxRecDepth 100000 in
theorem law_fit {p : Program} {l : Launch} {e : Env} {s : State} {m : MethodId} {below : List Frame} {meth : Method} {c : Code} {Q : State → Prop} {D : va_G} {t : bx_T} {A : Nat → Prop} {b L i x y : Nat} {xs : Nat → Int32} {ax ay : Nat → Nat} {B : bl_S} {S : md_S} {H : Heap} {locs : List Loc} {ls : Array Slot} (E : bx_E p m c code 4 s #[Value.ref b] wsL_law RL D t A) (hX : va_X b L xs s s.heap) (hbl : b < s.heap.size) (hbA : ¬ A b) (hi : i + 4 ≤ L) (hL : L ≤ 2048) (HI : Inv B S) (hM : bx_M D A s (bl_w t x ax B (md_w t.1 y ay S)) H locs) (hl : lv_has ls 4 [(3, .int (nI i)), (0, .ref b), (1, .ref x), (2, .ref y)])
    (kk : ∀ (B : bl_S) (S : md_S) (H : Heap) (locs : List Loc) (ls : Array Slot), Inv B S → bx_M D A s (bl_w t x ax B (md_w t.1 y ay S)) H locs → lv_has ls 4 [(3, .int (nI i)), (0, .ref b), (1, .ref x), (2, .ref y)] → W p l e room_1 s m #[Value.ref b] below meth c H locs (19 + i + 1) (847 + 5 * i + 5) Q (F0 m 795 ls [])) : W p l e room_1 s m #[Value.ref b] below meth c H locs (19 + i) (847 + 5 * i) Q (F0 m 285 ls []) := by
  have hx := E.1.1
  have hb := E.1.2.1
  have hB := HI.1
  have hI := HI.2.1
  have v1 : vp_in (nI i + 1) L := by rw [show (1 : Int32) = nI 1 from rfl, nI_add]; exact vp_in_nI (by omega) (by omega)
  have v2 : vp_in (nI i + 2) L := by rw [show (2 : Int32) = nI 2 from rfl, nI_add]; exact vp_in_nI (by omega) (by omega)
  refine lv_aload_n hx hb dL_law_285 rfl (lv_at hl 2 rfl) ?_
  refine lv_aload_n hx hb dL_law_286 rfl (lv_at hl 1 rfl) ?_
  refine lv_iload_n hx hb dL_law_287 rfl (lv_at hl 0 rfl) ?_
  refine lv_iconst (v := 1) hx hb dL_law_288 (by decide) ?_
  refine lv_iadd hx hb dL_law_289 ?_
  refine va_sld hx hb hX hbl hbA hM.2.2 v1 dL_law_290 ?_
  refine lv_aload_n hx hb dL_law_291 rfl (lv_at hl 1 rfl) ?_
  refine lv_iload_n hx hb dL_law_292 rfl (lv_at hl 0 rfl) ?_
  refine lv_iconst (v := 2) hx hb dL_law_293 (by decide) ?_
  refine lv_iadd hx hb dL_law_294 ?_
  refine va_sld hx hb hX hbl hbA hM.2.2 v2 dL_law_295 ?_
  refine bx_goi hM (bx_runV (As := [.int (xs ((nI i) + 1).toNatClampNeg), .int (xs ((nI i) + 2).toNatClampNeg)]) (rest := []) E hM (bX4_fit l D t A x ax B (md_w t.1 y ay S) (xs ((nI i) + 1).toNatClampNeg) (xs ((nI i) + 2).toNatClampNeg) hB) (bl_recv E hM) 2 gL_law_X4_fit rfl rfl rfl (by decide +kernel) ⟨Nat.le_of_ble_eq_true rfl, Nat.le_of_ble_eq_true rfl⟩ rfl hl.1 rfl (Nat.le_of_ble_eq_true rfl) dL_law_296 ⟨show 19 + i + 0 ≤ 715299 by omega, show 847 + 5 * i + 0 ≤ 6956352 by omega⟩) (fun r u H locs hp hM => ?_)
  obtain ⟨rfl, rfl⟩ := hp
  have hM := law_sw1 (B := (bf_fit B (xs ((nI i) + 1).toNatClampNeg) (xs ((nI i) + 2).toNatClampNeg)).2) hM
  refine lv_aload_n hx hb dL_law_299 rfl (lv_at hl 3 rfl) ?_
  refine lv_aload_n hx hb dL_law_300 rfl (lv_at hl 1 rfl) ?_
  refine lv_iload_n hx hb dL_law_301 rfl (lv_at hl 0 rfl) ?_
  refine lv_iconst (v := 1) hx hb dL_law_302 (by decide) ?_
  refine lv_iadd hx hb dL_law_303 ?_
  refine va_sld hx hb hX hbl hbA hM.2.2 v1 dL_law_304 ?_
  refine lv_aload_n hx hb dL_law_305 rfl (lv_at hl 1 rfl) ?_
  refine lv_iload_n hx hb dL_law_306 rfl (lv_at hl 0 rfl) ?_
  refine lv_iconst (v := 2) hx hb dL_law_307 (by decide) ?_
  refine lv_iadd hx hb dL_law_308 ?_
  refine va_sld hx hb hX hbl hbA hM.2.2 v2 dL_law_309 ?_
  refine bx_goi hM (bx_runV (As := [.int (xs ((nI i) + 1).toNatClampNeg), .int (xs ((nI i) + 2).toNatClampNeg)]) (rest := [.int ((bf_fit B (xs ((nI i) + 1).toNatClampNeg) (xs ((nI i) + 2).toNatClampNeg)).1)]) E hM (cX5c_fit l D t A y ay S (bl_x t x ax (bf_fit B (xs ((nI i) + 1).toNatClampNeg) (xs ((nI i) + 2).toNatClampNeg)).2 [] ++ va_pl (bL (bf_fit B (xs ((nI i) + 1).toNatClampNeg) (xs ((nI i) + 2).toNatClampNeg)).2) (bl_tf (bf_fit B (xs ((nI i) + 1).toNatClampNeg) (xs ((nI i) + 2).toNatClampNeg)).2)) (xs ((nI i) + 1).toNatClampNeg) (xs ((nI i) + 2).toNatClampNeg) hI) (md_recv E hM) 2 gL_law_X5_fit rfl rfl rfl (by decide +kernel) ⟨Nat.le_of_ble_eq_true rfl, Nat.le_of_ble_eq_true rfl⟩ rfl hl.1 rfl (Nat.le_of_ble_eq_true rfl) dL_law_310 ⟨show 19 + i + 0 + 0 ≤ 715299 by omega, show 847 + 5 * i + 0 + 0 ≤ 6956352 by omega⟩) (fun r u H locs hp hM => ?_)
  obtain ⟨rfl, rfl⟩ := hp
  have hM := law_sw2 (B := (bf_fit B (xs ((nI i) + 1).toNatClampNeg) (xs ((nI i) + 2).toNatClampNeg)).2) (S := (mf_fit S (xs ((nI i) + 1).toNatClampNeg) (xs ((nI i) + 2).toNatClampNeg)).2) hM
  have HR := op_fit HI (xs ((nI i) + 1).toNatClampNeg) (xs ((nI i) + 2).toNatClampNeg) 
  refine lv_icmp_eq (tgt := 795) hx hb dL_law_313 (by decide) (fun _ => ?_) (fun c => absurd HR.1 c)
  refine W.widen (k := 19 + i + 1) (n := 847 + 5 * i + 5) (by omega) (by omega) ?_
  exact kk _ _ H locs ls HR.2 hM hl

set_option maxHeartbeats 4000000 in
set_option maxRecDepth 100000 in
theorem law_alarm {p : Program} {l : Launch} {e : Env} {s : State} {m : MethodId} {below : List Frame} {meth : Method} {c : Code} {Q : State → Prop} {D : va_G} {t : bx_T} {A : Nat → Prop} {b L i x y : Nat} {xs : Nat → Int32} {ax ay : Nat → Nat} {B : bl_S} {S : md_S} {H : Heap} {locs : List Loc} {ls : Array Slot} (E : bx_E p m c code 4 s #[Value.ref b] wsL_law RL D t A) (hX : va_X b L xs s s.heap) (hbl : b < s.heap.size) (hbA : ¬ A b) (hi : i + 4 ≤ L) (hL : L ≤ 2048) (HI : Inv B S) (hM : bx_M D A s (bl_w t x ax B (md_w t.1 y ay S)) H locs) (hl : lv_has ls 4 [(3, .int (nI i)), (0, .ref b), (1, .ref x), (2, .ref y)])
    (kk : ∀ (B : bl_S) (S : md_S) (H : Heap) (locs : List Loc) (ls : Array Slot), Inv B S → bx_M D A s (bl_w t x ax B (md_w t.1 y ay S)) H locs → lv_has ls 4 [(3, .int (nI i)), (0, .ref b), (1, .ref x), (2, .ref y)] → W p l e room_1 s m #[Value.ref b] below meth c H locs (19 + i + 1) (847 + 5 * i + 5) Q (F0 m 795 ls [])) : W p l e room_1 s m #[Value.ref b] below meth c H locs (19 + i) (847 + 5 * i) Q (F0 m 318 ls []) := by
  have hx := E.1.1
  have hb := E.1.2.1
  have hB := HI.1
  have hI := HI.2.1
  have v1 : vp_in (nI i + 1) L := by rw [show (1 : Int32) = nI 1 from rfl, nI_add]; exact vp_in_nI (by omega) (by omega)
  have v2 : vp_in (nI i + 2) L := by rw [show (2 : Int32) = nI 2 from rfl, nI_add]; exact vp_in_nI (by omega) (by omega)
  refine lv_aload_n hx hb dL_law_318 rfl (lv_at hl 2 rfl) ?_
  refine lv_aload_n hx hb dL_law_319 rfl (lv_at hl 1 rfl) ?_
  refine lv_iload_n hx hb dL_law_320 rfl (lv_at hl 0 rfl) ?_
  refine lv_iconst (v := 1) hx hb dL_law_321 (by decide) ?_
  refine lv_iadd hx hb dL_law_322 ?_
  refine va_sld hx hb hX hbl hbA hM.2.2 v1 dL_law_323 ?_
  refine lv_aload_n hx hb dL_law_324 rfl (lv_at hl 1 rfl) ?_
  refine lv_iload_n hx hb dL_law_325 rfl (lv_at hl 0 rfl) ?_
  refine lv_iconst (v := 2) hx hb dL_law_326 (by decide) ?_
  refine lv_iadd hx hb dL_law_327 ?_
  refine va_sld hx hb hX hbl hbA hM.2.2 v2 dL_law_328 ?_
  refine bx_goi hM (bx_runV (As := [.int (xs ((nI i) + 1).toNatClampNeg), .int (xs ((nI i) + 2).toNatClampNeg)]) (rest := []) E hM (bX4_alarm l D t A x ax B (md_w t.1 y ay S) (xs ((nI i) + 1).toNatClampNeg) (xs ((nI i) + 2).toNatClampNeg) hB) (bl_recv E hM) 2 gL_law_X4_alarm rfl rfl rfl (by decide +kernel) ⟨Nat.le_of_ble_eq_true rfl, Nat.le_of_ble_eq_true rfl⟩ rfl hl.1 rfl (Nat.le_of_ble_eq_true rfl) dL_law_329 ⟨show 19 + i + 0 ≤ 715299 by omega, show 847 + 5 * i + 0 ≤ 6956352 by omega⟩) (fun r u H locs hp hM => ?_)
  obtain ⟨rfl, rfl⟩ := hp
  have hM := law_sw1 (B := (bf_alarm B (xs ((nI i) + 1).toNatClampNeg) (xs ((nI i) + 2).toNatClampNeg)).2) hM
  refine lv_aload_n hx hb dL_law_332 rfl (lv_at hl 3 rfl) ?_
  refine lv_aload_n hx hb dL_law_333 rfl (lv_at hl 1 rfl) ?_
  refine lv_iload_n hx hb dL_law_334 rfl (lv_at hl 0 rfl) ?_
  refine lv_iconst (v := 1) hx hb dL_law_335 (by decide) ?_
  refine lv_iadd hx hb dL_law_336 ?_
  refine va_sld hx hb hX hbl hbA hM.2.2 v1 dL_law_337 ?_
  refine lv_aload_n hx hb dL_law_338 rfl (lv_at hl 1 rfl) ?_
  refine lv_iload_n hx hb dL_law_339 rfl (lv_at hl 0 rfl) ?_
  refine lv_iconst (v := 2) hx hb dL_law_340 (by decide) ?_
  refine lv_iadd hx hb dL_law_341 ?_
  refine va_sld hx hb hX hbl hbA hM.2.2 v2 dL_law_342 ?_
  refine bx_goi hM (bx_runV (As := [.int (xs ((nI i) + 1).toNatClampNeg), .int (xs ((nI i) + 2).toNatClampNeg)]) (rest := [.int ((bf_alarm B (xs ((nI i) + 1).toNatClampNeg) (xs ((nI i) + 2).toNatClampNeg)).1)]) E hM (cX5c_alarm l D t A y ay S (bl_x t x ax (bf_alarm B (xs ((nI i) + 1).toNatClampNeg) (xs ((nI i) + 2).toNatClampNeg)).2 [] ++ va_pl (bL (bf_alarm B (xs ((nI i) + 1).toNatClampNeg) (xs ((nI i) + 2).toNatClampNeg)).2) (bl_tf (bf_alarm B (xs ((nI i) + 1).toNatClampNeg) (xs ((nI i) + 2).toNatClampNeg)).2)) (xs ((nI i) + 1).toNatClampNeg) (xs ((nI i) + 2).toNatClampNeg) hI) (md_recv E hM) 2 gL_law_X5_alarm rfl rfl rfl (by decide +kernel) ⟨Nat.le_of_ble_eq_true rfl, Nat.le_of_ble_eq_true rfl⟩ rfl hl.1 rfl (Nat.le_of_ble_eq_true rfl) dL_law_343 ⟨show 19 + i + 0 + 0 ≤ 715299 by omega, show 847 + 5 * i + 0 + 0 ≤ 6956352 by omega⟩) (fun r u H locs hp hM => ?_)
  obtain ⟨rfl, rfl⟩ := hp
  have hM := law_sw2 (B := (bf_alarm B (xs ((nI i) + 1).toNatClampNeg) (xs ((nI i) + 2).toNatClampNeg)).2) (S := (mf_alarm S (xs ((nI i) + 1).toNatClampNeg) (xs ((nI i) + 2).toNatClampNeg)).2) hM
  have HR := op_alarm HI (xs ((nI i) + 1).toNatClampNeg) (xs ((nI i) + 2).toNatClampNeg) 
  refine lv_icmp_eq (tgt := 795) hx hb dL_law_346 (by decide) (fun _ => ?_) (fun c => absurd HR.1 c)
  refine W.widen (k := 19 + i + 1) (n := 847 + 5 * i + 5) (by omega) (by omega) ?_
  exact kk _ _ H locs ls HR.2 hM hl

set_option maxHeartbeats 4000000 in
set_option maxRecDepth 100000 in
theorem law_raise {p : Program} {l : Launch} {e : Env} {s : State} {m : MethodId} {below : List Frame} {meth : Method} {c : Code} {Q : State → Prop} {D : va_G} {t : bx_T} {A : Nat → Prop} {b L i x y : Nat} {xs : Nat → Int32} {ax ay : Nat → Nat} {B : bl_S} {S : md_S} {H : Heap} {locs : List Loc} {ls : Array Slot} (E : bx_E p m c code 4 s #[Value.ref b] wsL_law RL D t A) (hX : va_X b L xs s s.heap) (hbl : b < s.heap.size) (hbA : ¬ A b) (hi : i + 4 ≤ L) (hL : L ≤ 2048) (HI : Inv B S) (hM : bx_M D A s (bl_w t x ax B (md_w t.1 y ay S)) H locs) (hl : lv_has ls 4 [(3, .int (nI i)), (0, .ref b), (1, .ref x), (2, .ref y)])
    (kk : ∀ (B : bl_S) (S : md_S) (H : Heap) (locs : List Loc) (ls : Array Slot), Inv B S → bx_M D A s (bl_w t x ax B (md_w t.1 y ay S)) H locs → lv_has ls 4 [(3, .int (nI i)), (0, .ref b), (1, .ref x), (2, .ref y)] → W p l e room_1 s m #[Value.ref b] below meth c H locs (19 + i + 1) (847 + 5 * i + 5) Q (F0 m 795 ls [])) : W p l e room_1 s m #[Value.ref b] below meth c H locs (19 + i) (847 + 5 * i) Q (F0 m 351 ls []) := by
  have hx := E.1.1
  have hb := E.1.2.1
  have hB := HI.1
  have hI := HI.2.1
  have v1 : vp_in (nI i + 1) L := by rw [show (1 : Int32) = nI 1 from rfl, nI_add]; exact vp_in_nI (by omega) (by omega)
  refine lv_aload_n hx hb dL_law_351 rfl (lv_at hl 2 rfl) ?_
  refine lv_aload_n hx hb dL_law_352 rfl (lv_at hl 1 rfl) ?_
  refine lv_iload_n hx hb dL_law_353 rfl (lv_at hl 0 rfl) ?_
  refine lv_iconst (v := 1) hx hb dL_law_354 (by decide) ?_
  refine lv_iadd hx hb dL_law_355 ?_
  refine va_sld hx hb hX hbl hbA hM.2.2 v1 dL_law_356 ?_
  refine bx_goi hM (bx_runV (As := [.int (xs ((nI i) + 1).toNatClampNeg)]) (rest := []) E hM (bX4_raise l D t A x ax B (md_w t.1 y ay S) (xs ((nI i) + 1).toNatClampNeg) hB) (bl_recv E hM) 1 gL_law_X4_raise rfl rfl rfl (by decide +kernel) ⟨Nat.le_of_ble_eq_true rfl, Nat.le_of_ble_eq_true rfl⟩ rfl hl.1 rfl (Nat.le_of_ble_eq_true rfl) dL_law_357 ⟨show 19 + i + 0 ≤ 715299 by omega, show 847 + 5 * i + 0 ≤ 6956352 by omega⟩) (fun r u H locs hp hM => ?_)
  obtain ⟨rfl, rfl⟩ := hp
  have hM := law_sw1 (B := (bf_raise B (xs ((nI i) + 1).toNatClampNeg)).2) hM
  refine lv_aload_n hx hb dL_law_360 rfl (lv_at hl 3 rfl) ?_
  refine lv_aload_n hx hb dL_law_361 rfl (lv_at hl 1 rfl) ?_
  refine lv_iload_n hx hb dL_law_362 rfl (lv_at hl 0 rfl) ?_
  refine lv_iconst (v := 1) hx hb dL_law_363 (by decide) ?_
  refine lv_iadd hx hb dL_law_364 ?_
  refine va_sld hx hb hX hbl hbA hM.2.2 v1 dL_law_365 ?_
  refine bx_goi hM (bx_runV (As := [.int (xs ((nI i) + 1).toNatClampNeg)]) (rest := [.int ((bf_raise B (xs ((nI i) + 1).toNatClampNeg)).1)]) E hM (cX5c_raise l D t A y ay S (bl_x t x ax (bf_raise B (xs ((nI i) + 1).toNatClampNeg)).2 [] ++ va_pl (bL (bf_raise B (xs ((nI i) + 1).toNatClampNeg)).2) (bl_tf (bf_raise B (xs ((nI i) + 1).toNatClampNeg)).2)) (xs ((nI i) + 1).toNatClampNeg) hI) (md_recv E hM) 1 gL_law_X5_raise rfl rfl rfl (by decide +kernel) ⟨Nat.le_of_ble_eq_true rfl, Nat.le_of_ble_eq_true rfl⟩ rfl hl.1 rfl (Nat.le_of_ble_eq_true rfl) dL_law_366 ⟨show 19 + i + 0 + 0 ≤ 715299 by omega, show 847 + 5 * i + 0 + 0 ≤ 6956352 by omega⟩) (fun r u H locs hp hM => ?_)
  obtain ⟨rfl, rfl⟩ := hp
  have hM := law_sw2 (B := (bf_raise B (xs ((nI i) + 1).toNatClampNeg)).2) (S := (mf_raise S (xs ((nI i) + 1).toNatClampNeg)).2) hM
  have HR := op_raise HI (xs ((nI i) + 1).toNatClampNeg) 
  refine lv_icmp_eq (tgt := 795) hx hb dL_law_369 (by decide) (fun _ => ?_) (fun c => absurd HR.1 c)
  refine W.widen (k := 19 + i + 1) (n := 847 + 5 * i + 5) (by omega) (by omega) ?_
  exact kk _ _ H locs ls HR.2 hM hl

set_option maxHeartbeats 4000000 in
set_option maxRecDepth 100000 in
theorem law_level {p : Program} {l : Launch} {e : Env} {s : State} {m : MethodId} {below : List Frame} {meth : Method} {c : Code} {Q : State → Prop} {D : va_G} {t : bx_T} {A : Nat → Prop} {b L i x y : Nat} {xs : Nat → Int32} {ax ay : Nat → Nat} {B : bl_S} {S : md_S} {H : Heap} {locs : List Loc} {ls : Array Slot} (E : bx_E p m c code 4 s #[Value.ref b] wsL_law RL D t A) (hX : va_X b L xs s s.heap) (hbl : b < s.heap.size) (hbA : ¬ A b) (hi : i + 4 ≤ L) (hL : L ≤ 2048) (HI : Inv B S) (hM : bx_M D A s (bl_w t x ax B (md_w t.1 y ay S)) H locs) (hl : lv_has ls 4 [(3, .int (nI i)), (0, .ref b), (1, .ref x), (2, .ref y)])
    (kk : ∀ (B : bl_S) (S : md_S) (H : Heap) (locs : List Loc) (ls : Array Slot), Inv B S → bx_M D A s (bl_w t x ax B (md_w t.1 y ay S)) H locs → lv_has ls 4 [(3, .int (nI i)), (0, .ref b), (1, .ref x), (2, .ref y)] → W p l e room_1 s m #[Value.ref b] below meth c H locs (19 + i + 1) (847 + 5 * i + 5) Q (F0 m 795 ls [])) : W p l e room_1 s m #[Value.ref b] below meth c H locs (19 + i) (847 + 5 * i) Q (F0 m 374 ls []) := by
  have hx := E.1.1
  have hb := E.1.2.1
  have hB := HI.1
  have hI := HI.2.1
  refine lv_aload_n hx hb dL_law_374 rfl (lv_at hl 2 rfl) ?_
  refine bx_goi hM (bx_runV (As := []) (rest := []) E hM (bX4_level l D t A x ax B (md_w t.1 y ay S)  ) (bl_recv E hM) 0 gL_law_X4_level rfl rfl rfl (by decide +kernel) ⟨Nat.le_of_ble_eq_true rfl, Nat.le_of_ble_eq_true rfl⟩ rfl hl.1 rfl (Nat.le_of_ble_eq_true rfl) dL_law_375 ⟨show 19 + i + 0 ≤ 715299 by omega, show 847 + 5 * i + 0 ≤ 6956352 by omega⟩) (fun r u H locs hp hM => ?_)
  obtain ⟨rfl, hu⟩ := hp
  rw [hu] at hM
  have hM := law_sw1 (B := (bf_level B ).2) hM
  refine lv_aload_n hx hb dL_law_378 rfl (lv_at hl 3 rfl) ?_
  refine bx_goi hM (bx_runV (As := []) (rest := [.int ((bf_level B ).1)]) E hM (cX5c_level l D t A y ay S (bl_x t x ax (bf_level B ).2 [] ++ va_pl (bL (bf_level B ).2) (bl_tf (bf_level B ).2))  ) (md_recv E hM) 0 gL_law_X5_level rfl rfl rfl (by decide +kernel) ⟨Nat.le_of_ble_eq_true rfl, Nat.le_of_ble_eq_true rfl⟩ rfl hl.1 rfl (Nat.le_of_ble_eq_true rfl) dL_law_379 ⟨show 19 + i + 0 + 0 ≤ 715299 by omega, show 847 + 5 * i + 0 + 0 ≤ 6956352 by omega⟩) (fun r u H locs hp hM => ?_)
  obtain ⟨rfl, hu⟩ := hp
  rw [hu] at hM
  have hM := law_sw2 (B := (bf_level B ).2) (S := (mf_level S ).2) hM
  have HR := op_level HI  
  refine lv_icmp_eq (tgt := 795) hx hb dL_law_382 (by decide) (fun _ => ?_) (fun c => absurd HR.1 c)
  refine W.widen (k := 19 + i + 1) (n := 847 + 5 * i + 5) (by omega) (by omega) ?_
  exact kk _ _ H locs ls HR.2 hM hl

set_option maxHeartbeats 4000000 in
set_option maxRecDepth 100000 in
theorem law_frame {p : Program} {l : Launch} {e : Env} {s : State} {m : MethodId} {below : List Frame} {meth : Method} {c : Code} {Q : State → Prop} {D : va_G} {t : bx_T} {A : Nat → Prop} {b L i x y : Nat} {xs : Nat → Int32} {ax ay : Nat → Nat} {B : bl_S} {S : md_S} {H : Heap} {locs : List Loc} {ls : Array Slot} (E : bx_E p m c code 4 s #[Value.ref b] wsL_law RL D t A) (hX : va_X b L xs s s.heap) (hbl : b < s.heap.size) (hbA : ¬ A b) (hi : i + 4 ≤ L) (hL : L ≤ 2048) (HI : Inv B S) (hM : bx_M D A s (bl_w t x ax B (md_w t.1 y ay S)) H locs) (hl : lv_has ls 4 [(3, .int (nI i)), (0, .ref b), (1, .ref x), (2, .ref y)])
    (kk : ∀ (B : bl_S) (S : md_S) (H : Heap) (locs : List Loc) (ls : Array Slot), Inv B S → bx_M D A s (bl_w t x ax B (md_w t.1 y ay S)) H locs → lv_has ls 4 [(3, .int (nI i)), (0, .ref b), (1, .ref x), (2, .ref y)] → W p l e room_1 s m #[Value.ref b] below meth c H locs (19 + i + 1) (847 + 5 * i + 5) Q (F0 m 795 ls [])) : W p l e room_1 s m #[Value.ref b] below meth c H locs (19 + i) (847 + 5 * i) Q (F0 m 387 ls []) := by
  have hx := E.1.1
  have hb := E.1.2.1
  have hB := HI.1
  have hI := HI.2.1
  have v1 : vp_in (nI i + 1) L := by rw [show (1 : Int32) = nI 1 from rfl, nI_add]; exact vp_in_nI (by omega) (by omega)
  have v2 : vp_in (nI i + 2) L := by rw [show (2 : Int32) = nI 2 from rfl, nI_add]; exact vp_in_nI (by omega) (by omega)
  refine lv_aload_n hx hb dL_law_387 rfl (lv_at hl 2 rfl) ?_
  refine lv_aload_n hx hb dL_law_388 rfl (lv_at hl 1 rfl) ?_
  refine lv_iload_n hx hb dL_law_389 rfl (lv_at hl 0 rfl) ?_
  refine lv_iconst (v := 1) hx hb dL_law_390 (by decide) ?_
  refine lv_iadd hx hb dL_law_391 ?_
  refine va_sld hx hb hX hbl hbA hM.2.2 v1 dL_law_392 ?_
  refine lv_aload_n hx hb dL_law_393 rfl (lv_at hl 1 rfl) ?_
  refine lv_iload_n hx hb dL_law_394 rfl (lv_at hl 0 rfl) ?_
  refine lv_iconst (v := 2) hx hb dL_law_395 (by decide) ?_
  refine lv_iadd hx hb dL_law_396 ?_
  refine va_sld hx hb hX hbl hbA hM.2.2 v2 dL_law_397 ?_
  refine lv_if_eq (tgt := 405) hx hb dL_law_398 (by decide) (fun c_398 => ?_) (fun c_398 => ?_)
  · refine lv_iconst (v := 0) hx hb dL_law_405 (by decide) ?_
    refine bx_goi hM (bx_runV (As := [.int (xs ((nI i) + 1).toNatClampNeg), .int 0]) (rest := []) E hM (bX4_frame l D t A x ax B (md_w t.1 y ay S) (xs ((nI i) + 1).toNatClampNeg) 0 (by first | exact Or.inl rfl | exact Or.inr rfl)) (bl_recv E hM) 2 gL_law_X4_frame rfl rfl rfl (by decide +kernel) ⟨Nat.le_of_ble_eq_true rfl, Nat.le_of_ble_eq_true rfl⟩ rfl hl.1 rfl (Nat.le_of_ble_eq_true rfl) dL_law_406 ⟨show 19 + i + 0 ≤ 715299 by omega, show 847 + 5 * i + 0 ≤ 6956352 by omega⟩) (fun r u H locs hp hM => ?_)
    obtain ⟨rfl, rfl⟩ := hp
    have hM := law_sw1 (B := (bf_frame B (xs ((nI i) + 1).toNatClampNeg) 0).2) hM
    refine lv_aload_n hx hb dL_law_409 rfl (lv_at hl 3 rfl) ?_
    refine lv_aload_n hx hb dL_law_410 rfl (lv_at hl 1 rfl) ?_
    refine lv_iload_n hx hb dL_law_411 rfl (lv_at hl 0 rfl) ?_
    refine lv_iconst (v := 1) hx hb dL_law_412 (by decide) ?_
    refine lv_iadd hx hb dL_law_413 ?_
    refine va_sld hx hb hX hbl hbA hM.2.2 v1 dL_law_414 ?_
    refine lv_aload_n hx hb dL_law_415 rfl (lv_at hl 1 rfl) ?_
    refine lv_iload_n hx hb dL_law_416 rfl (lv_at hl 0 rfl) ?_
    refine lv_iconst (v := 2) hx hb dL_law_417 (by decide) ?_
    refine lv_iadd hx hb dL_law_418 ?_
    refine va_sld hx hb hX hbl hbA hM.2.2 v2 dL_law_419 ?_
    refine lv_if_eq (tgt := 427) hx hb dL_law_420 (by decide) (fun _ => ?_) (fun c => absurd c_398 c)
    refine lv_iconst (v := 0) hx hb dL_law_427 (by decide) ?_
    refine bx_goi hM (bx_runV (As := [.int (xs ((nI i) + 1).toNatClampNeg), .int 0]) (rest := [.int ((bf_frame B (xs ((nI i) + 1).toNatClampNeg) 0).1)]) E hM (cX5c_frame l D t A y ay S (bl_x t x ax (bf_frame B (xs ((nI i) + 1).toNatClampNeg) 0).2 [] ++ va_pl (bL (bf_frame B (xs ((nI i) + 1).toNatClampNeg) 0).2) (bl_tf (bf_frame B (xs ((nI i) + 1).toNatClampNeg) 0).2)) (xs ((nI i) + 1).toNatClampNeg) 0 (by first | exact Or.inl rfl | exact Or.inr rfl)) (md_recv E hM) 2 gL_law_X5_frame rfl rfl rfl (by decide +kernel) ⟨Nat.le_of_ble_eq_true rfl, Nat.le_of_ble_eq_true rfl⟩ rfl hl.1 rfl (Nat.le_of_ble_eq_true rfl) dL_law_428 ⟨show 19 + i + 0 + 0 ≤ 715299 by omega, show 847 + 5 * i + 0 + 0 ≤ 6956352 by omega⟩) (fun r u H locs hp hM => ?_)
    obtain ⟨rfl, rfl⟩ := hp
    have hM := law_sw2 (B := (bf_frame B (xs ((nI i) + 1).toNatClampNeg) 0).2) (S := (mf_frame S (xs ((nI i) + 1).toNatClampNeg) 0).2) hM
    have HR := op_frame HI (xs ((nI i) + 1).toNatClampNeg) 0 (by first | exact Or.inl rfl | exact Or.inr rfl)
    refine lv_icmp_eq (tgt := 795) hx hb dL_law_431 (by decide) (fun _ => ?_) (fun c => absurd HR.1 c)
    refine W.widen (k := 19 + i + 1) (n := 847 + 5 * i + 5) (by omega) (by omega) ?_
    exact kk _ _ H locs ls HR.2 hM hl
  · refine lv_iconst (v := 1) hx hb dL_law_401 (by decide) ?_
    refine lv_goto (tgt := 406) hx hb dL_law_402 (by decide) ?_
    refine bx_goi hM (bx_runV (As := [.int (xs ((nI i) + 1).toNatClampNeg), .int 1]) (rest := []) E hM (bX4_frame l D t A x ax B (md_w t.1 y ay S) (xs ((nI i) + 1).toNatClampNeg) 1 (by first | exact Or.inl rfl | exact Or.inr rfl)) (bl_recv E hM) 2 gL_law_X4_frame rfl rfl rfl (by decide +kernel) ⟨Nat.le_of_ble_eq_true rfl, Nat.le_of_ble_eq_true rfl⟩ rfl hl.1 rfl (Nat.le_of_ble_eq_true rfl) dL_law_406 ⟨show 19 + i + 0 ≤ 715299 by omega, show 847 + 5 * i + 0 ≤ 6956352 by omega⟩) (fun r u H locs hp hM => ?_)
    obtain ⟨rfl, rfl⟩ := hp
    have hM := law_sw1 (B := (bf_frame B (xs ((nI i) + 1).toNatClampNeg) 1).2) hM
    refine lv_aload_n hx hb dL_law_409 rfl (lv_at hl 3 rfl) ?_
    refine lv_aload_n hx hb dL_law_410 rfl (lv_at hl 1 rfl) ?_
    refine lv_iload_n hx hb dL_law_411 rfl (lv_at hl 0 rfl) ?_
    refine lv_iconst (v := 1) hx hb dL_law_412 (by decide) ?_
    refine lv_iadd hx hb dL_law_413 ?_
    refine va_sld hx hb hX hbl hbA hM.2.2 v1 dL_law_414 ?_
    refine lv_aload_n hx hb dL_law_415 rfl (lv_at hl 1 rfl) ?_
    refine lv_iload_n hx hb dL_law_416 rfl (lv_at hl 0 rfl) ?_
    refine lv_iconst (v := 2) hx hb dL_law_417 (by decide) ?_
    refine lv_iadd hx hb dL_law_418 ?_
    refine va_sld hx hb hX hbl hbA hM.2.2 v2 dL_law_419 ?_
    refine lv_if_eq (tgt := 427) hx hb dL_law_420 (by decide) (fun c => absurd c c_398) (fun _ => ?_)
    refine lv_iconst (v := 1) hx hb dL_law_423 (by decide) ?_
    refine lv_goto (tgt := 428) hx hb dL_law_424 (by decide) ?_
    refine bx_goi hM (bx_runV (As := [.int (xs ((nI i) + 1).toNatClampNeg), .int 1]) (rest := [.int ((bf_frame B (xs ((nI i) + 1).toNatClampNeg) 1).1)]) E hM (cX5c_frame l D t A y ay S (bl_x t x ax (bf_frame B (xs ((nI i) + 1).toNatClampNeg) 1).2 [] ++ va_pl (bL (bf_frame B (xs ((nI i) + 1).toNatClampNeg) 1).2) (bl_tf (bf_frame B (xs ((nI i) + 1).toNatClampNeg) 1).2)) (xs ((nI i) + 1).toNatClampNeg) 1 (by first | exact Or.inl rfl | exact Or.inr rfl)) (md_recv E hM) 2 gL_law_X5_frame rfl rfl rfl (by decide +kernel) ⟨Nat.le_of_ble_eq_true rfl, Nat.le_of_ble_eq_true rfl⟩ rfl hl.1 rfl (Nat.le_of_ble_eq_true rfl) dL_law_428 ⟨show 19 + i + 0 + 0 ≤ 715299 by omega, show 847 + 5 * i + 0 + 0 ≤ 6956352 by omega⟩) (fun r u H locs hp hM => ?_)
    obtain ⟨rfl, rfl⟩ := hp
    have hM := law_sw2 (B := (bf_frame B (xs ((nI i) + 1).toNatClampNeg) 1).2) (S := (mf_frame S (xs ((nI i) + 1).toNatClampNeg) 1).2) hM
    have HR := op_frame HI (xs ((nI i) + 1).toNatClampNeg) 1 (by first | exact Or.inl rfl | exact Or.inr rfl)
    refine lv_icmp_eq (tgt := 795) hx hb dL_law_431 (by decide) (fun _ => ?_) (fun c => absurd HR.1 c)
    refine W.widen (k := 19 + i + 1) (n := 847 + 5 * i + 5) (by omega) (by omega) ?_
    exact kk _ _ H locs ls HR.2 hM hl

set_option maxHeartbeats 4000000 in
set_option maxRecDepth 100000 in
theorem law_size {p : Program} {l : Launch} {e : Env} {s : State} {m : MethodId} {below : List Frame} {meth : Method} {c : Code} {Q : State → Prop} {D : va_G} {t : bx_T} {A : Nat → Prop} {b L i x y : Nat} {xs : Nat → Int32} {ax ay : Nat → Nat} {B : bl_S} {S : md_S} {H : Heap} {locs : List Loc} {ls : Array Slot} (E : bx_E p m c code 4 s #[Value.ref b] wsL_law RL D t A) (hX : va_X b L xs s s.heap) (hbl : b < s.heap.size) (hbA : ¬ A b) (hi : i + 4 ≤ L) (hL : L ≤ 2048) (HI : Inv B S) (hM : bx_M D A s (bl_w t x ax B (md_w t.1 y ay S)) H locs) (hl : lv_has ls 4 [(3, .int (nI i)), (0, .ref b), (1, .ref x), (2, .ref y)])
    (kk : ∀ (B : bl_S) (S : md_S) (H : Heap) (locs : List Loc) (ls : Array Slot), Inv B S → bx_M D A s (bl_w t x ax B (md_w t.1 y ay S)) H locs → lv_has ls 4 [(3, .int (nI i)), (0, .ref b), (1, .ref x), (2, .ref y)] → W p l e room_1 s m #[Value.ref b] below meth c H locs (19 + i + 1) (847 + 5 * i + 5) Q (F0 m 795 ls [])) : W p l e room_1 s m #[Value.ref b] below meth c H locs (19 + i) (847 + 5 * i) Q (F0 m 436 ls []) := by
  have hx := E.1.1
  have hb := E.1.2.1
  have hB := HI.1
  have hI := HI.2.1
  refine lv_aload_n hx hb dL_law_436 rfl (lv_at hl 2 rfl) ?_
  refine bx_goi hM (bx_runV (As := []) (rest := []) E hM (bX4_size l D t A x ax B (md_w t.1 y ay S)  ) (bl_recv E hM) 0 gL_law_X4_size rfl rfl rfl (by decide +kernel) ⟨Nat.le_of_ble_eq_true rfl, Nat.le_of_ble_eq_true rfl⟩ rfl hl.1 rfl (Nat.le_of_ble_eq_true rfl) dL_law_437 ⟨show 19 + i + 0 ≤ 715299 by omega, show 847 + 5 * i + 0 ≤ 6956352 by omega⟩) (fun r u H locs hp hM => ?_)
  obtain ⟨rfl, rfl⟩ := hp
  have hM := law_sw1 (B := (bf_size B ).2) hM
  refine lv_aload_n hx hb dL_law_440 rfl (lv_at hl 3 rfl) ?_
  refine bx_goi hM (bx_runV (As := []) (rest := [.int ((bf_size B ).1)]) E hM (cX5c_size l D t A y ay S (bl_x t x ax (bf_size B ).2 [] ++ va_pl (bL (bf_size B ).2) (bl_tf (bf_size B ).2))  ) (md_recv E hM) 0 gL_law_X5_size rfl rfl rfl (by decide +kernel) ⟨Nat.le_of_ble_eq_true rfl, Nat.le_of_ble_eq_true rfl⟩ rfl hl.1 rfl (Nat.le_of_ble_eq_true rfl) dL_law_441 ⟨show 19 + i + 0 + 0 ≤ 715299 by omega, show 847 + 5 * i + 0 + 0 ≤ 6956352 by omega⟩) (fun r u H locs hp hM => ?_)
  obtain ⟨rfl, rfl⟩ := hp
  have hM := law_sw2 (B := (bf_size B ).2) (S := (mf_size S ).2) hM
  have HR := op_size HI  
  refine lv_icmp_eq (tgt := 795) hx hb dL_law_444 (by decide) (fun _ => ?_) (fun c => absurd HR.1 c)
  refine W.widen (k := 19 + i + 1) (n := 847 + 5 * i + 5) (by omega) (by omega) ?_
  exact kk _ _ H locs ls HR.2 hM hl

set_option maxHeartbeats 4000000 in
set_option maxRecDepth 100000 in
theorem law_lay {p : Program} {l : Launch} {e : Env} {s : State} {m : MethodId} {below : List Frame} {meth : Method} {c : Code} {Q : State → Prop} {D : va_G} {t : bx_T} {A : Nat → Prop} {b L i x y : Nat} {xs : Nat → Int32} {ax ay : Nat → Nat} {B : bl_S} {S : md_S} {H : Heap} {locs : List Loc} {ls : Array Slot} (E : bx_E p m c code 4 s #[Value.ref b] wsL_law RL D t A) (hX : va_X b L xs s s.heap) (hbl : b < s.heap.size) (hbA : ¬ A b) (hi : i + 4 ≤ L) (hL : L ≤ 2048) (HI : Inv B S) (hM : bx_M D A s (bl_w t x ax B (md_w t.1 y ay S)) H locs) (hl : lv_has ls 4 [(3, .int (nI i)), (0, .ref b), (1, .ref x), (2, .ref y)])
    (kk : ∀ (B : bl_S) (S : md_S) (H : Heap) (locs : List Loc) (ls : Array Slot), Inv B S → bx_M D A s (bl_w t x ax B (md_w t.1 y ay S)) H locs → lv_has ls 4 [(3, .int (nI i)), (0, .ref b), (1, .ref x), (2, .ref y)] → W p l e room_1 s m #[Value.ref b] below meth c H locs (19 + i + 1) (847 + 5 * i + 5) Q (F0 m 795 ls [])) : W p l e room_1 s m #[Value.ref b] below meth c H locs (19 + i) (847 + 5 * i) Q (F0 m 449 ls []) := by
  have hx := E.1.1
  have hb := E.1.2.1
  have hB := HI.1
  have hI := HI.2.1
  have v1 : vp_in (nI i + 1) L := by rw [show (1 : Int32) = nI 1 from rfl, nI_add]; exact vp_in_nI (by omega) (by omega)
  have v2 : vp_in (nI i + 2) L := by rw [show (2 : Int32) = nI 2 from rfl, nI_add]; exact vp_in_nI (by omega) (by omega)
  refine lv_aload_n hx hb dL_law_449 rfl (lv_at hl 2 rfl) ?_
  refine lv_aload_n hx hb dL_law_450 rfl (lv_at hl 1 rfl) ?_
  refine lv_iload_n hx hb dL_law_451 rfl (lv_at hl 0 rfl) ?_
  refine lv_iconst (v := 1) hx hb dL_law_452 (by decide) ?_
  refine lv_iadd hx hb dL_law_453 ?_
  refine va_sld hx hb hX hbl hbA hM.2.2 v1 dL_law_454 ?_
  refine lv_aload_n hx hb dL_law_455 rfl (lv_at hl 1 rfl) ?_
  refine lv_iload_n hx hb dL_law_456 rfl (lv_at hl 0 rfl) ?_
  refine lv_iconst (v := 2) hx hb dL_law_457 (by decide) ?_
  refine lv_iadd hx hb dL_law_458 ?_
  refine va_sld hx hb hX hbl hbA hM.2.2 v2 dL_law_459 ?_
  refine bx_goi hM (bx_runV (As := [.int (xs ((nI i) + 1).toNatClampNeg), .int (xs ((nI i) + 2).toNatClampNeg)]) (rest := []) E hM (bX4_lay l D t A x ax B (md_w t.1 y ay S) (xs ((nI i) + 1).toNatClampNeg) (xs ((nI i) + 2).toNatClampNeg) hB) (bl_recv E hM) 2 gL_law_X4_lay rfl rfl rfl (by decide +kernel) ⟨Nat.le_of_ble_eq_true rfl, Nat.le_of_ble_eq_true rfl⟩ rfl hl.1 rfl (Nat.le_of_ble_eq_true rfl) dL_law_460 ⟨show 19 + i + 0 ≤ 715299 by omega, show 847 + 5 * i + 0 ≤ 6956352 by omega⟩) (fun r u H locs hp hM => ?_)
  obtain ⟨rfl, rfl⟩ := hp
  have hM := law_sw1 (B := (bf_lay B (xs ((nI i) + 1).toNatClampNeg) (xs ((nI i) + 2).toNatClampNeg)).2) hM
  refine lv_aload_n hx hb dL_law_463 rfl (lv_at hl 3 rfl) ?_
  refine lv_aload_n hx hb dL_law_464 rfl (lv_at hl 1 rfl) ?_
  refine lv_iload_n hx hb dL_law_465 rfl (lv_at hl 0 rfl) ?_
  refine lv_iconst (v := 1) hx hb dL_law_466 (by decide) ?_
  refine lv_iadd hx hb dL_law_467 ?_
  refine va_sld hx hb hX hbl hbA hM.2.2 v1 dL_law_468 ?_
  refine lv_aload_n hx hb dL_law_469 rfl (lv_at hl 1 rfl) ?_
  refine lv_iload_n hx hb dL_law_470 rfl (lv_at hl 0 rfl) ?_
  refine lv_iconst (v := 2) hx hb dL_law_471 (by decide) ?_
  refine lv_iadd hx hb dL_law_472 ?_
  refine va_sld hx hb hX hbl hbA hM.2.2 v2 dL_law_473 ?_
  refine bx_goi hM (bx_runV (As := [.int (xs ((nI i) + 1).toNatClampNeg), .int (xs ((nI i) + 2).toNatClampNeg)]) (rest := [.int ((bf_lay B (xs ((nI i) + 1).toNatClampNeg) (xs ((nI i) + 2).toNatClampNeg)).1)]) E hM (cX5c_lay l D t A y ay S (bl_x t x ax (bf_lay B (xs ((nI i) + 1).toNatClampNeg) (xs ((nI i) + 2).toNatClampNeg)).2 [] ++ va_pl (bL (bf_lay B (xs ((nI i) + 1).toNatClampNeg) (xs ((nI i) + 2).toNatClampNeg)).2) (bl_tf (bf_lay B (xs ((nI i) + 1).toNatClampNeg) (xs ((nI i) + 2).toNatClampNeg)).2)) (xs ((nI i) + 1).toNatClampNeg) (xs ((nI i) + 2).toNatClampNeg) hI) (md_recv E hM) 2 gL_law_X5_lay rfl rfl rfl (by decide +kernel) ⟨Nat.le_of_ble_eq_true rfl, Nat.le_of_ble_eq_true rfl⟩ rfl hl.1 rfl (Nat.le_of_ble_eq_true rfl) dL_law_474 ⟨show 19 + i + 0 + 0 ≤ 715299 by omega, show 847 + 5 * i + 0 + 0 ≤ 6956352 by omega⟩) (fun r u H locs hp hM => ?_)
  obtain ⟨rfl, rfl⟩ := hp
  have hM := law_sw2 (B := (bf_lay B (xs ((nI i) + 1).toNatClampNeg) (xs ((nI i) + 2).toNatClampNeg)).2) (S := (mf_lay S (xs ((nI i) + 1).toNatClampNeg) (xs ((nI i) + 2).toNatClampNeg)).2) hM
  have HR := op_lay HI (xs ((nI i) + 1).toNatClampNeg) (xs ((nI i) + 2).toNatClampNeg) 
  refine lv_icmp_eq (tgt := 795) hx hb dL_law_477 (by decide) (fun _ => ?_) (fun c => absurd HR.1 c)
  refine W.widen (k := 19 + i + 1) (n := 847 + 5 * i + 5) (by omega) (by omega) ?_
  exact kk _ _ H locs ls HR.2 hM hl

set_option maxHeartbeats 4000000 in
set_option maxRecDepth 100000 in
theorem law_see {p : Program} {l : Launch} {e : Env} {s : State} {m : MethodId} {below : List Frame} {meth : Method} {c : Code} {Q : State → Prop} {D : va_G} {t : bx_T} {A : Nat → Prop} {b L i x y : Nat} {xs : Nat → Int32} {ax ay : Nat → Nat} {B : bl_S} {S : md_S} {H : Heap} {locs : List Loc} {ls : Array Slot} (E : bx_E p m c code 4 s #[Value.ref b] wsL_law RL D t A) (hX : va_X b L xs s s.heap) (hbl : b < s.heap.size) (hbA : ¬ A b) (hi : i + 4 ≤ L) (hL : L ≤ 2048) (HI : Inv B S) (hM : bx_M D A s (bl_w t x ax B (md_w t.1 y ay S)) H locs) (hl : lv_has ls 4 [(3, .int (nI i)), (0, .ref b), (1, .ref x), (2, .ref y)])
    (kk : ∀ (B : bl_S) (S : md_S) (H : Heap) (locs : List Loc) (ls : Array Slot), Inv B S → bx_M D A s (bl_w t x ax B (md_w t.1 y ay S)) H locs → lv_has ls 4 [(3, .int (nI i)), (0, .ref b), (1, .ref x), (2, .ref y)] → W p l e room_1 s m #[Value.ref b] below meth c H locs (19 + i + 1) (847 + 5 * i + 5) Q (F0 m 795 ls [])) : W p l e room_1 s m #[Value.ref b] below meth c H locs (19 + i) (847 + 5 * i) Q (F0 m 482 ls []) := by
  have hx := E.1.1
  have hb := E.1.2.1
  have hB := HI.1
  have hI := HI.2.1
  have v1 : vp_in (nI i + 1) L := by rw [show (1 : Int32) = nI 1 from rfl, nI_add]; exact vp_in_nI (by omega) (by omega)
  refine lv_aload_n hx hb dL_law_482 rfl (lv_at hl 2 rfl) ?_
  refine lv_aload_n hx hb dL_law_483 rfl (lv_at hl 1 rfl) ?_
  refine lv_iload_n hx hb dL_law_484 rfl (lv_at hl 0 rfl) ?_
  refine lv_iconst (v := 1) hx hb dL_law_485 (by decide) ?_
  refine lv_iadd hx hb dL_law_486 ?_
  refine va_sld hx hb hX hbl hbA hM.2.2 v1 dL_law_487 ?_
  refine bx_goi hM (bx_runV (As := [.int (xs ((nI i) + 1).toNatClampNeg)]) (rest := []) E hM (bX4_see l D t A x ax B (md_w t.1 y ay S) (xs ((nI i) + 1).toNatClampNeg) hB) (bl_recv E hM) 1 gL_law_X4_see rfl rfl rfl (by decide +kernel) ⟨Nat.le_of_ble_eq_true rfl, Nat.le_of_ble_eq_true rfl⟩ rfl hl.1 rfl (Nat.le_of_ble_eq_true rfl) dL_law_488 ⟨show 19 + i + 0 ≤ 715299 by omega, show 847 + 5 * i + 0 ≤ 6956352 by omega⟩) (fun r u H locs hp hM => ?_)
  obtain ⟨rfl, rfl⟩ := hp
  have hM := law_sw1 (B := (bf_see B (xs ((nI i) + 1).toNatClampNeg)).2) hM
  refine lv_aload_n hx hb dL_law_491 rfl (lv_at hl 3 rfl) ?_
  refine lv_aload_n hx hb dL_law_492 rfl (lv_at hl 1 rfl) ?_
  refine lv_iload_n hx hb dL_law_493 rfl (lv_at hl 0 rfl) ?_
  refine lv_iconst (v := 1) hx hb dL_law_494 (by decide) ?_
  refine lv_iadd hx hb dL_law_495 ?_
  refine va_sld hx hb hX hbl hbA hM.2.2 v1 dL_law_496 ?_
  refine bx_goi hM (bx_runV (As := [.int (xs ((nI i) + 1).toNatClampNeg)]) (rest := [.int ((bf_see B (xs ((nI i) + 1).toNatClampNeg)).1)]) E hM (cX5c_see l D t A y ay S (bl_x t x ax (bf_see B (xs ((nI i) + 1).toNatClampNeg)).2 [] ++ va_pl (bL (bf_see B (xs ((nI i) + 1).toNatClampNeg)).2) (bl_tf (bf_see B (xs ((nI i) + 1).toNatClampNeg)).2)) (xs ((nI i) + 1).toNatClampNeg) hI) (md_recv E hM) 1 gL_law_X5_see rfl rfl rfl (by decide +kernel) ⟨Nat.le_of_ble_eq_true rfl, Nat.le_of_ble_eq_true rfl⟩ rfl hl.1 rfl (Nat.le_of_ble_eq_true rfl) dL_law_497 ⟨show 19 + i + 0 + 0 ≤ 715299 by omega, show 847 + 5 * i + 0 + 0 ≤ 6956352 by omega⟩) (fun r u H locs hp hM => ?_)
  obtain ⟨rfl, rfl⟩ := hp
  have hM := law_sw2 (B := (bf_see B (xs ((nI i) + 1).toNatClampNeg)).2) (S := (mf_see S (xs ((nI i) + 1).toNatClampNeg)).2) hM
  have HR := op_see HI (xs ((nI i) + 1).toNatClampNeg) 
  refine lv_icmp_eq (tgt := 795) hx hb dL_law_500 (by decide) (fun _ => ?_) (fun c => absurd HR.1 c)
  refine W.widen (k := 19 + i + 1) (n := 847 + 5 * i + 5) (by omega) (by omega) ?_
  exact kk _ _ H locs ls HR.2 hM hl

set_option maxHeartbeats 4000000 in
set_option maxRecDepth 100000 in
theorem law_change {p : Program} {l : Launch} {e : Env} {s : State} {m : MethodId} {below : List Frame} {meth : Method} {c : Code} {Q : State → Prop} {D : va_G} {t : bx_T} {A : Nat → Prop} {b L i x y : Nat} {xs : Nat → Int32} {ax ay : Nat → Nat} {B : bl_S} {S : md_S} {H : Heap} {locs : List Loc} {ls : Array Slot} (E : bx_E p m c code 4 s #[Value.ref b] wsL_law RL D t A) (hX : va_X b L xs s s.heap) (hbl : b < s.heap.size) (hbA : ¬ A b) (hi : i + 4 ≤ L) (hL : L ≤ 2048) (HI : Inv B S) (hM : bx_M D A s (bl_w t x ax B (md_w t.1 y ay S)) H locs) (hl : lv_has ls 4 [(3, .int (nI i)), (0, .ref b), (1, .ref x), (2, .ref y)])
    (kk : ∀ (B : bl_S) (S : md_S) (H : Heap) (locs : List Loc) (ls : Array Slot), Inv B S → bx_M D A s (bl_w t x ax B (md_w t.1 y ay S)) H locs → lv_has ls 4 [(3, .int (nI i)), (0, .ref b), (1, .ref x), (2, .ref y)] → W p l e room_1 s m #[Value.ref b] below meth c H locs (19 + i + 1) (847 + 5 * i + 5) Q (F0 m 795 ls [])) : W p l e room_1 s m #[Value.ref b] below meth c H locs (19 + i) (847 + 5 * i) Q (F0 m 505 ls []) := by
  have hx := E.1.1
  have hb := E.1.2.1
  have hB := HI.1
  have hI := HI.2.1
  have v1 : vp_in (nI i + 1) L := by rw [show (1 : Int32) = nI 1 from rfl, nI_add]; exact vp_in_nI (by omega) (by omega)
  refine lv_aload_n hx hb dL_law_505 rfl (lv_at hl 2 rfl) ?_
  refine lv_aload_n hx hb dL_law_506 rfl (lv_at hl 1 rfl) ?_
  refine lv_iload_n hx hb dL_law_507 rfl (lv_at hl 0 rfl) ?_
  refine lv_iconst (v := 1) hx hb dL_law_508 (by decide) ?_
  refine lv_iadd hx hb dL_law_509 ?_
  refine va_sld hx hb hX hbl hbA hM.2.2 v1 dL_law_510 ?_
  refine bx_goi hM (bx_runV (As := [.int (xs ((nI i) + 1).toNatClampNeg)]) (rest := []) E hM (bX4_change l D t A x ax B (md_w t.1 y ay S) (xs ((nI i) + 1).toNatClampNeg) ) (bl_recv E hM) 1 gL_law_X4_change rfl rfl rfl (by decide +kernel) ⟨Nat.le_of_ble_eq_true rfl, Nat.le_of_ble_eq_true rfl⟩ rfl hl.1 rfl (Nat.le_of_ble_eq_true rfl) dL_law_511 ⟨show 19 + i + 0 ≤ 715299 by omega, show 847 + 5 * i + 0 ≤ 6956352 by omega⟩) (fun r u H locs hp hM => ?_)
  obtain ⟨rfl, rfl⟩ := hp
  have hM := law_sw1 (B := (bf_change B (xs ((nI i) + 1).toNatClampNeg)).2) hM
  refine lv_aload_n hx hb dL_law_514 rfl (lv_at hl 3 rfl) ?_
  refine lv_aload_n hx hb dL_law_515 rfl (lv_at hl 1 rfl) ?_
  refine lv_iload_n hx hb dL_law_516 rfl (lv_at hl 0 rfl) ?_
  refine lv_iconst (v := 1) hx hb dL_law_517 (by decide) ?_
  refine lv_iadd hx hb dL_law_518 ?_
  refine va_sld hx hb hX hbl hbA hM.2.2 v1 dL_law_519 ?_
  refine bx_goi hM (bx_runV (As := [.int (xs ((nI i) + 1).toNatClampNeg)]) (rest := [.int ((bf_change B (xs ((nI i) + 1).toNatClampNeg)).1)]) E hM (cX5c_change l D t A y ay S (bl_x t x ax (bf_change B (xs ((nI i) + 1).toNatClampNeg)).2 [] ++ va_pl (bL (bf_change B (xs ((nI i) + 1).toNatClampNeg)).2) (bl_tf (bf_change B (xs ((nI i) + 1).toNatClampNeg)).2)) (xs ((nI i) + 1).toNatClampNeg) ) (md_recv E hM) 1 gL_law_X5_change rfl rfl rfl (by decide +kernel) ⟨Nat.le_of_ble_eq_true rfl, Nat.le_of_ble_eq_true rfl⟩ rfl hl.1 rfl (Nat.le_of_ble_eq_true rfl) dL_law_520 ⟨show 19 + i + 0 + 0 ≤ 715299 by omega, show 847 + 5 * i + 0 + 0 ≤ 6956352 by omega⟩) (fun r u H locs hp hM => ?_)
  obtain ⟨rfl, rfl⟩ := hp
  have hM := law_sw2 (B := (bf_change B (xs ((nI i) + 1).toNatClampNeg)).2) (S := (mf_change S (xs ((nI i) + 1).toNatClampNeg)).2) hM
  have HR := op_change HI (xs ((nI i) + 1).toNatClampNeg) 
  refine lv_icmp_eq (tgt := 795) hx hb dL_law_523 (by decide) (fun _ => ?_) (fun c => absurd HR.1 c)
  refine W.widen (k := 19 + i + 1) (n := 847 + 5 * i + 5) (by omega) (by omega) ?_
  exact kk _ _ H locs ls HR.2 hM hl

set_option maxHeartbeats 4000000 in
set_option maxRecDepth 100000 in
theorem law_call {p : Program} {l : Launch} {e : Env} {s : State} {m : MethodId} {below : List Frame} {meth : Method} {c : Code} {Q : State → Prop} {D : va_G} {t : bx_T} {A : Nat → Prop} {b L i x y : Nat} {xs : Nat → Int32} {ax ay : Nat → Nat} {B : bl_S} {S : md_S} {H : Heap} {locs : List Loc} {ls : Array Slot} (E : bx_E p m c code 4 s #[Value.ref b] wsL_law RL D t A) (hX : va_X b L xs s s.heap) (hbl : b < s.heap.size) (hbA : ¬ A b) (hi : i + 4 ≤ L) (hL : L ≤ 2048) (HI : Inv B S) (hM : bx_M D A s (bl_w t x ax B (md_w t.1 y ay S)) H locs) (hl : lv_has ls 4 [(3, .int (nI i)), (0, .ref b), (1, .ref x), (2, .ref y)])
    (kk : ∀ (B : bl_S) (S : md_S) (H : Heap) (locs : List Loc) (ls : Array Slot), Inv B S → bx_M D A s (bl_w t x ax B (md_w t.1 y ay S)) H locs → lv_has ls 4 [(3, .int (nI i)), (0, .ref b), (1, .ref x), (2, .ref y)] → W p l e room_1 s m #[Value.ref b] below meth c H locs (19 + i + 1) (847 + 5 * i + 5) Q (F0 m 795 ls [])) : W p l e room_1 s m #[Value.ref b] below meth c H locs (19 + i) (847 + 5 * i) Q (F0 m 528 ls []) := by
  have hx := E.1.1
  have hb := E.1.2.1
  have hB := HI.1
  have hI := HI.2.1
  have v1 : vp_in (nI i + 1) L := by rw [show (1 : Int32) = nI 1 from rfl, nI_add]; exact vp_in_nI (by omega) (by omega)
  have v2 : vp_in (nI i + 2) L := by rw [show (2 : Int32) = nI 2 from rfl, nI_add]; exact vp_in_nI (by omega) (by omega)
  refine lv_aload_n hx hb dL_law_528 rfl (lv_at hl 2 rfl) ?_
  refine lv_aload_n hx hb dL_law_529 rfl (lv_at hl 1 rfl) ?_
  refine lv_iload_n hx hb dL_law_530 rfl (lv_at hl 0 rfl) ?_
  refine lv_iconst (v := 1) hx hb dL_law_531 (by decide) ?_
  refine lv_iadd hx hb dL_law_532 ?_
  refine va_sld hx hb hX hbl hbA hM.2.2 v1 dL_law_533 ?_
  refine lv_aload_n hx hb dL_law_534 rfl (lv_at hl 1 rfl) ?_
  refine lv_iload_n hx hb dL_law_535 rfl (lv_at hl 0 rfl) ?_
  refine lv_iconst (v := 2) hx hb dL_law_536 (by decide) ?_
  refine lv_iadd hx hb dL_law_537 ?_
  refine va_sld hx hb hX hbl hbA hM.2.2 v2 dL_law_538 ?_
  refine bx_goi hM (bx_runV (As := [.int (xs ((nI i) + 1).toNatClampNeg), .int (xs ((nI i) + 2).toNatClampNeg)]) (rest := []) E hM (bX4_call l D t A x ax B (md_w t.1 y ay S) (xs ((nI i) + 1).toNatClampNeg) (xs ((nI i) + 2).toNatClampNeg) ) (bl_recv E hM) 2 gL_law_X4_call rfl rfl rfl (by decide +kernel) ⟨Nat.le_of_ble_eq_true rfl, Nat.le_of_ble_eq_true rfl⟩ rfl hl.1 rfl (Nat.le_of_ble_eq_true rfl) dL_law_539 ⟨show 19 + i + 0 ≤ 715299 by omega, show 847 + 5 * i + 0 ≤ 6956352 by omega⟩) (fun r u H locs hp hM => ?_)
  obtain ⟨rfl, rfl⟩ := hp
  have hM := law_sw1 (B := (bf_call B (xs ((nI i) + 1).toNatClampNeg) (xs ((nI i) + 2).toNatClampNeg)).2) hM
  refine lv_aload_n hx hb dL_law_542 rfl (lv_at hl 3 rfl) ?_
  refine lv_aload_n hx hb dL_law_543 rfl (lv_at hl 1 rfl) ?_
  refine lv_iload_n hx hb dL_law_544 rfl (lv_at hl 0 rfl) ?_
  refine lv_iconst (v := 1) hx hb dL_law_545 (by decide) ?_
  refine lv_iadd hx hb dL_law_546 ?_
  refine va_sld hx hb hX hbl hbA hM.2.2 v1 dL_law_547 ?_
  refine lv_aload_n hx hb dL_law_548 rfl (lv_at hl 1 rfl) ?_
  refine lv_iload_n hx hb dL_law_549 rfl (lv_at hl 0 rfl) ?_
  refine lv_iconst (v := 2) hx hb dL_law_550 (by decide) ?_
  refine lv_iadd hx hb dL_law_551 ?_
  refine va_sld hx hb hX hbl hbA hM.2.2 v2 dL_law_552 ?_
  refine bx_goi hM (bx_runV (As := [.int (xs ((nI i) + 1).toNatClampNeg), .int (xs ((nI i) + 2).toNatClampNeg)]) (rest := [.int ((bf_call B (xs ((nI i) + 1).toNatClampNeg) (xs ((nI i) + 2).toNatClampNeg)).1)]) E hM (cX5c_call l D t A y ay S (bl_x t x ax (bf_call B (xs ((nI i) + 1).toNatClampNeg) (xs ((nI i) + 2).toNatClampNeg)).2 [] ++ va_pl (bL (bf_call B (xs ((nI i) + 1).toNatClampNeg) (xs ((nI i) + 2).toNatClampNeg)).2) (bl_tf (bf_call B (xs ((nI i) + 1).toNatClampNeg) (xs ((nI i) + 2).toNatClampNeg)).2)) (xs ((nI i) + 1).toNatClampNeg) (xs ((nI i) + 2).toNatClampNeg) hI) (md_recv E hM) 2 gL_law_X5_call rfl rfl rfl (by decide +kernel) ⟨Nat.le_of_ble_eq_true rfl, Nat.le_of_ble_eq_true rfl⟩ rfl hl.1 rfl (Nat.le_of_ble_eq_true rfl) dL_law_553 ⟨show 19 + i + 0 + 0 ≤ 715299 by omega, show 847 + 5 * i + 0 + 0 ≤ 6956352 by omega⟩) (fun r u H locs hp hM => ?_)
  obtain ⟨rfl, rfl⟩ := hp
  have hM := law_sw2 (B := (bf_call B (xs ((nI i) + 1).toNatClampNeg) (xs ((nI i) + 2).toNatClampNeg)).2) (S := (mf_call S (xs ((nI i) + 1).toNatClampNeg) (xs ((nI i) + 2).toNatClampNeg)).2) hM
  have HR := op_call HI (xs ((nI i) + 1).toNatClampNeg) (xs ((nI i) + 2).toNatClampNeg) 
  refine lv_icmp_eq (tgt := 795) hx hb dL_law_556 (by decide) (fun _ => ?_) (fun c => absurd HR.1 c)
  refine W.widen (k := 19 + i + 1) (n := 847 + 5 * i + 5) (by omega) (by omega) ?_
  exact kk _ _ H locs ls HR.2 hM hl

set_option maxHeartbeats 4000000 in
set_option maxRecDepth 100000 in
theorem law_strike {p : Program} {l : Launch} {e : Env} {s : State} {m : MethodId} {below : List Frame} {meth : Method} {c : Code} {Q : State → Prop} {D : va_G} {t : bx_T} {A : Nat → Prop} {b L i x y : Nat} {xs : Nat → Int32} {ax ay : Nat → Nat} {B : bl_S} {S : md_S} {H : Heap} {locs : List Loc} {ls : Array Slot} (E : bx_E p m c code 4 s #[Value.ref b] wsL_law RL D t A) (hX : va_X b L xs s s.heap) (hbl : b < s.heap.size) (hbA : ¬ A b) (hi : i + 4 ≤ L) (hL : L ≤ 2048) (HI : Inv B S) (hM : bx_M D A s (bl_w t x ax B (md_w t.1 y ay S)) H locs) (hl : lv_has ls 4 [(3, .int (nI i)), (0, .ref b), (1, .ref x), (2, .ref y)])
    (kk : ∀ (B : bl_S) (S : md_S) (H : Heap) (locs : List Loc) (ls : Array Slot), Inv B S → bx_M D A s (bl_w t x ax B (md_w t.1 y ay S)) H locs → lv_has ls 4 [(3, .int (nI i)), (0, .ref b), (1, .ref x), (2, .ref y)] → W p l e room_1 s m #[Value.ref b] below meth c H locs (19 + i + 1) (847 + 5 * i + 5) Q (F0 m 795 ls [])) : W p l e room_1 s m #[Value.ref b] below meth c H locs (19 + i) (847 + 5 * i) Q (F0 m 561 ls []) := by
  have hx := E.1.1
  have hb := E.1.2.1
  have hB := HI.1
  have hI := HI.2.1
  have v1 : vp_in (nI i + 1) L := by rw [show (1 : Int32) = nI 1 from rfl, nI_add]; exact vp_in_nI (by omega) (by omega)
  refine lv_aload_n hx hb dL_law_561 rfl (lv_at hl 2 rfl) ?_
  refine lv_aload_n hx hb dL_law_562 rfl (lv_at hl 1 rfl) ?_
  refine lv_iload_n hx hb dL_law_563 rfl (lv_at hl 0 rfl) ?_
  refine lv_iconst (v := 1) hx hb dL_law_564 (by decide) ?_
  refine lv_iadd hx hb dL_law_565 ?_
  refine va_sld hx hb hX hbl hbA hM.2.2 v1 dL_law_566 ?_
  refine bx_goi hM (bx_runV (As := [.int (xs ((nI i) + 1).toNatClampNeg)]) (rest := []) E hM (bX4_strike l D t A x ax B (md_w t.1 y ay S) (xs ((nI i) + 1).toNatClampNeg) hB) (bl_recv E hM) 1 gL_law_X4_strike rfl rfl rfl (by decide +kernel) ⟨Nat.le_of_ble_eq_true rfl, Nat.le_of_ble_eq_true rfl⟩ rfl hl.1 rfl (Nat.le_of_ble_eq_true rfl) dL_law_567 ⟨show 19 + i + 0 ≤ 715299 by omega, show 847 + 5 * i + 0 ≤ 6956352 by omega⟩) (fun r u H locs hp hM => ?_)
  obtain ⟨rfl, rfl⟩ := hp
  have hM := law_sw1 (B := (bf_strike B (xs ((nI i) + 1).toNatClampNeg)).2) hM
  refine lv_aload_n hx hb dL_law_570 rfl (lv_at hl 3 rfl) ?_
  refine lv_aload_n hx hb dL_law_571 rfl (lv_at hl 1 rfl) ?_
  refine lv_iload_n hx hb dL_law_572 rfl (lv_at hl 0 rfl) ?_
  refine lv_iconst (v := 1) hx hb dL_law_573 (by decide) ?_
  refine lv_iadd hx hb dL_law_574 ?_
  refine va_sld hx hb hX hbl hbA hM.2.2 v1 dL_law_575 ?_
  refine bx_goi hM (bx_runV (As := [.int (xs ((nI i) + 1).toNatClampNeg)]) (rest := [.int ((bf_strike B (xs ((nI i) + 1).toNatClampNeg)).1)]) E hM (cX5c_strike l D t A y ay S (bl_x t x ax (bf_strike B (xs ((nI i) + 1).toNatClampNeg)).2 [] ++ va_pl (bL (bf_strike B (xs ((nI i) + 1).toNatClampNeg)).2) (bl_tf (bf_strike B (xs ((nI i) + 1).toNatClampNeg)).2)) (xs ((nI i) + 1).toNatClampNeg) hI) (md_recv E hM) 1 gL_law_X5_strike rfl rfl rfl (by decide +kernel) ⟨Nat.le_of_ble_eq_true rfl, Nat.le_of_ble_eq_true rfl⟩ rfl hl.1 rfl (Nat.le_of_ble_eq_true rfl) dL_law_576 ⟨show 19 + i + 0 + 0 ≤ 715299 by omega, show 847 + 5 * i + 0 + 0 ≤ 6956352 by omega⟩) (fun r u H locs hp hM => ?_)
  obtain ⟨rfl, rfl⟩ := hp
  have hM := law_sw2 (B := (bf_strike B (xs ((nI i) + 1).toNatClampNeg)).2) (S := (mf_strike S (xs ((nI i) + 1).toNatClampNeg)).2) hM
  have HR := op_strike HI (xs ((nI i) + 1).toNatClampNeg) 
  refine lv_icmp_eq (tgt := 795) hx hb dL_law_579 (by decide) (fun _ => ?_) (fun c => absurd HR.1 c)
  refine W.widen (k := 19 + i + 1) (n := 847 + 5 * i + 5) (by omega) (by omega) ?_
  exact kk _ _ H locs ls HR.2 hM hl

set_option maxHeartbeats 4000000 in
set_option maxRecDepth 100000 in
theorem law_chime {p : Program} {l : Launch} {e : Env} {s : State} {m : MethodId} {below : List Frame} {meth : Method} {c : Code} {Q : State → Prop} {D : va_G} {t : bx_T} {A : Nat → Prop} {b L i x y : Nat} {xs : Nat → Int32} {ax ay : Nat → Nat} {B : bl_S} {S : md_S} {H : Heap} {locs : List Loc} {ls : Array Slot} (E : bx_E p m c code 4 s #[Value.ref b] wsL_law RL D t A) (hX : va_X b L xs s s.heap) (hbl : b < s.heap.size) (hbA : ¬ A b) (hi : i + 4 ≤ L) (hL : L ≤ 2048) (HI : Inv B S) (hM : bx_M D A s (bl_w t x ax B (md_w t.1 y ay S)) H locs) (hl : lv_has ls 4 [(3, .int (nI i)), (0, .ref b), (1, .ref x), (2, .ref y)])
    (kk : ∀ (B : bl_S) (S : md_S) (H : Heap) (locs : List Loc) (ls : Array Slot), Inv B S → bx_M D A s (bl_w t x ax B (md_w t.1 y ay S)) H locs → lv_has ls 4 [(3, .int (nI i)), (0, .ref b), (1, .ref x), (2, .ref y)] → W p l e room_1 s m #[Value.ref b] below meth c H locs (19 + i + 1) (847 + 5 * i + 5) Q (F0 m 795 ls [])) : W p l e room_1 s m #[Value.ref b] below meth c H locs (19 + i) (847 + 5 * i) Q (F0 m 584 ls []) := by
  have hx := E.1.1
  have hb := E.1.2.1
  have hB := HI.1
  have hI := HI.2.1
  have v1 : vp_in (nI i + 1) L := by rw [show (1 : Int32) = nI 1 from rfl, nI_add]; exact vp_in_nI (by omega) (by omega)
  refine lv_aload_n hx hb dL_law_584 rfl (lv_at hl 2 rfl) ?_
  refine lv_aload_n hx hb dL_law_585 rfl (lv_at hl 1 rfl) ?_
  refine lv_iload_n hx hb dL_law_586 rfl (lv_at hl 0 rfl) ?_
  refine lv_iconst (v := 1) hx hb dL_law_587 (by decide) ?_
  refine lv_iadd hx hb dL_law_588 ?_
  refine va_sld hx hb hX hbl hbA hM.2.2 v1 dL_law_589 ?_
  refine bx_goi hM (bx_runV (As := [.int (xs ((nI i) + 1).toNatClampNeg)]) (rest := []) E hM (bX4_chime l D t A x ax B (md_w t.1 y ay S) (xs ((nI i) + 1).toNatClampNeg) hB HI.num) (bl_recv E hM) 1 gL_law_X4_chime rfl rfl rfl (by decide +kernel) ⟨Nat.le_of_ble_eq_true rfl, Nat.le_of_ble_eq_true rfl⟩ rfl hl.1 rfl (Nat.le_of_ble_eq_true rfl) dL_law_590 ⟨show 19 + i + 0 ≤ 715299 by omega, show 847 + 5 * i + 0 ≤ 6956352 by omega⟩) (fun r u H locs hp hM => ?_)
  obtain ⟨rfl, rfl⟩ := hp
  have hM := law_sw1 (B := (bf_chime B (xs ((nI i) + 1).toNatClampNeg)).2) hM
  refine lv_aload_n hx hb dL_law_593 rfl (lv_at hl 3 rfl) ?_
  refine lv_aload_n hx hb dL_law_594 rfl (lv_at hl 1 rfl) ?_
  refine lv_iload_n hx hb dL_law_595 rfl (lv_at hl 0 rfl) ?_
  refine lv_iconst (v := 1) hx hb dL_law_596 (by decide) ?_
  refine lv_iadd hx hb dL_law_597 ?_
  refine va_sld hx hb hX hbl hbA hM.2.2 v1 dL_law_598 ?_
  refine bx_goi hM (bx_runV (As := [.int (xs ((nI i) + 1).toNatClampNeg)]) (rest := [.int ((bf_chime B (xs ((nI i) + 1).toNatClampNeg)).1)]) E hM (cX5c_chime l D t A y ay S (bl_x t x ax (bf_chime B (xs ((nI i) + 1).toNatClampNeg)).2 [] ++ va_pl (bL (bf_chime B (xs ((nI i) + 1).toNatClampNeg)).2) (bl_tf (bf_chime B (xs ((nI i) + 1).toNatClampNeg)).2)) (xs ((nI i) + 1).toNatClampNeg) hI) (md_recv E hM) 1 gL_law_X5_chime rfl rfl rfl (by decide +kernel) ⟨Nat.le_of_ble_eq_true rfl, Nat.le_of_ble_eq_true rfl⟩ rfl hl.1 rfl (Nat.le_of_ble_eq_true rfl) dL_law_599 ⟨show 19 + i + 0 + 0 ≤ 715299 by omega, show 847 + 5 * i + 0 + 0 ≤ 6956352 by omega⟩) (fun r u H locs hp hM => ?_)
  obtain ⟨rfl, rfl⟩ := hp
  have hM := law_sw2 (B := (bf_chime B (xs ((nI i) + 1).toNatClampNeg)).2) (S := (mf_chime S (xs ((nI i) + 1).toNatClampNeg)).2) hM
  have HR := op_chime HI (xs ((nI i) + 1).toNatClampNeg) 
  refine lv_icmp_eq (tgt := 795) hx hb dL_law_602 (by decide) (fun _ => ?_) (fun c => absurd HR.1 c)
  refine W.widen (k := 19 + i + 1) (n := 847 + 5 * i + 5) (by omega) (by omega) ?_
  exact kk _ _ H locs ls HR.2 hM hl

set_option maxHeartbeats 4000000 in
set_option maxRecDepth 100000 in
theorem law_peal {p : Program} {l : Launch} {e : Env} {s : State} {m : MethodId} {below : List Frame} {meth : Method} {c : Code} {Q : State → Prop} {D : va_G} {t : bx_T} {A : Nat → Prop} {b L i x y : Nat} {xs : Nat → Int32} {ax ay : Nat → Nat} {B : bl_S} {S : md_S} {H : Heap} {locs : List Loc} {ls : Array Slot} (E : bx_E p m c code 4 s #[Value.ref b] wsL_law RL D t A) (hX : va_X b L xs s s.heap) (hbl : b < s.heap.size) (hbA : ¬ A b) (hi : i + 4 ≤ L) (hL : L ≤ 2048) (HI : Inv B S) (hM : bx_M D A s (bl_w t x ax B (md_w t.1 y ay S)) H locs) (hl : lv_has ls 4 [(3, .int (nI i)), (0, .ref b), (1, .ref x), (2, .ref y)])
    (kk : ∀ (B : bl_S) (S : md_S) (H : Heap) (locs : List Loc) (ls : Array Slot), Inv B S → bx_M D A s (bl_w t x ax B (md_w t.1 y ay S)) H locs → lv_has ls 4 [(3, .int (nI i)), (0, .ref b), (1, .ref x), (2, .ref y)] → W p l e room_1 s m #[Value.ref b] below meth c H locs (19 + i + 1) (847 + 5 * i + 5) Q (F0 m 795 ls [])) : W p l e room_1 s m #[Value.ref b] below meth c H locs (19 + i) (847 + 5 * i) Q (F0 m 607 ls []) := by
  have hx := E.1.1
  have hb := E.1.2.1
  have hB := HI.1
  have hI := HI.2.1
  have v1 : vp_in (nI i + 1) L := by rw [show (1 : Int32) = nI 1 from rfl, nI_add]; exact vp_in_nI (by omega) (by omega)
  have v2 : vp_in (nI i + 2) L := by rw [show (2 : Int32) = nI 2 from rfl, nI_add]; exact vp_in_nI (by omega) (by omega)
  refine lv_aload_n hx hb dL_law_607 rfl (lv_at hl 2 rfl) ?_
  refine lv_aload_n hx hb dL_law_608 rfl (lv_at hl 1 rfl) ?_
  refine lv_iload_n hx hb dL_law_609 rfl (lv_at hl 0 rfl) ?_
  refine lv_iconst (v := 1) hx hb dL_law_610 (by decide) ?_
  refine lv_iadd hx hb dL_law_611 ?_
  refine va_sld hx hb hX hbl hbA hM.2.2 v1 dL_law_612 ?_
  refine lv_aload_n hx hb dL_law_613 rfl (lv_at hl 1 rfl) ?_
  refine lv_iload_n hx hb dL_law_614 rfl (lv_at hl 0 rfl) ?_
  refine lv_iconst (v := 2) hx hb dL_law_615 (by decide) ?_
  refine lv_iadd hx hb dL_law_616 ?_
  refine va_sld hx hb hX hbl hbA hM.2.2 v2 dL_law_617 ?_
  refine bx_goi hM (bx_runV (As := [.int (xs ((nI i) + 1).toNatClampNeg), .int (xs ((nI i) + 2).toNatClampNeg)]) (rest := []) E hM (bX4_peal l D t A x ax B (md_w t.1 y ay S) (xs ((nI i) + 1).toNatClampNeg) (xs ((nI i) + 2).toNatClampNeg) ) (bl_recv E hM) 2 gL_law_X4_peal rfl rfl rfl (by decide +kernel) ⟨Nat.le_of_ble_eq_true rfl, Nat.le_of_ble_eq_true rfl⟩ rfl hl.1 rfl (Nat.le_of_ble_eq_true rfl) dL_law_618 ⟨show 19 + i + 0 ≤ 715299 by omega, show 847 + 5 * i + 0 ≤ 6956352 by omega⟩) (fun r u H locs hp hM => ?_)
  obtain ⟨rfl, rfl⟩ := hp
  have hM := law_sw1 (B := (bf_peal B (xs ((nI i) + 1).toNatClampNeg) (xs ((nI i) + 2).toNatClampNeg)).2) hM
  refine lv_aload_n hx hb dL_law_621 rfl (lv_at hl 3 rfl) ?_
  refine lv_aload_n hx hb dL_law_622 rfl (lv_at hl 1 rfl) ?_
  refine lv_iload_n hx hb dL_law_623 rfl (lv_at hl 0 rfl) ?_
  refine lv_iconst (v := 1) hx hb dL_law_624 (by decide) ?_
  refine lv_iadd hx hb dL_law_625 ?_
  refine va_sld hx hb hX hbl hbA hM.2.2 v1 dL_law_626 ?_
  refine lv_aload_n hx hb dL_law_627 rfl (lv_at hl 1 rfl) ?_
  refine lv_iload_n hx hb dL_law_628 rfl (lv_at hl 0 rfl) ?_
  refine lv_iconst (v := 2) hx hb dL_law_629 (by decide) ?_
  refine lv_iadd hx hb dL_law_630 ?_
  refine va_sld hx hb hX hbl hbA hM.2.2 v2 dL_law_631 ?_
  refine bx_goi hM (bx_runV (As := [.int (xs ((nI i) + 1).toNatClampNeg), .int (xs ((nI i) + 2).toNatClampNeg)]) (rest := [.int ((bf_peal B (xs ((nI i) + 1).toNatClampNeg) (xs ((nI i) + 2).toNatClampNeg)).1)]) E hM (cX5c_peal l D t A y ay S (bl_x t x ax (bf_peal B (xs ((nI i) + 1).toNatClampNeg) (xs ((nI i) + 2).toNatClampNeg)).2 [] ++ va_pl (bL (bf_peal B (xs ((nI i) + 1).toNatClampNeg) (xs ((nI i) + 2).toNatClampNeg)).2) (bl_tf (bf_peal B (xs ((nI i) + 1).toNatClampNeg) (xs ((nI i) + 2).toNatClampNeg)).2)) (xs ((nI i) + 1).toNatClampNeg) (xs ((nI i) + 2).toNatClampNeg) ) (md_recv E hM) 2 gL_law_X5_peal rfl rfl rfl (by decide +kernel) ⟨Nat.le_of_ble_eq_true rfl, Nat.le_of_ble_eq_true rfl⟩ rfl hl.1 rfl (Nat.le_of_ble_eq_true rfl) dL_law_632 ⟨show 19 + i + 0 + 0 ≤ 715299 by omega, show 847 + 5 * i + 0 + 0 ≤ 6956352 by omega⟩) (fun r u H locs hp hM => ?_)
  obtain ⟨rfl, rfl⟩ := hp
  have hM := law_sw2 (B := (bf_peal B (xs ((nI i) + 1).toNatClampNeg) (xs ((nI i) + 2).toNatClampNeg)).2) (S := (mf_peal S (xs ((nI i) + 1).toNatClampNeg) (xs ((nI i) + 2).toNatClampNeg)).2) hM
  have HR := op_peal HI (xs ((nI i) + 1).toNatClampNeg) (xs ((nI i) + 2).toNatClampNeg) 
  refine lv_icmp_eq (tgt := 795) hx hb dL_law_635 (by decide) (fun _ => ?_) (fun c => absurd HR.1 c)
  refine W.widen (k := 19 + i + 1) (n := 847 + 5 * i + 5) (by omega) (by omega) ?_
  exact kk _ _ H locs ls HR.2 hM hl

set_option maxHeartbeats 4000000 in
set_option maxRecDepth 100000 in
theorem law_mark {p : Program} {l : Launch} {e : Env} {s : State} {m : MethodId} {below : List Frame} {meth : Method} {c : Code} {Q : State → Prop} {D : va_G} {t : bx_T} {A : Nat → Prop} {b L i x y : Nat} {xs : Nat → Int32} {ax ay : Nat → Nat} {B : bl_S} {S : md_S} {H : Heap} {locs : List Loc} {ls : Array Slot} (E : bx_E p m c code 4 s #[Value.ref b] wsL_law RL D t A) (hX : va_X b L xs s s.heap) (hbl : b < s.heap.size) (hbA : ¬ A b) (hi : i + 4 ≤ L) (hL : L ≤ 2048) (HI : Inv B S) (hM : bx_M D A s (bl_w t x ax B (md_w t.1 y ay S)) H locs) (hl : lv_has ls 4 [(3, .int (nI i)), (0, .ref b), (1, .ref x), (2, .ref y)])
    (kk : ∀ (B : bl_S) (S : md_S) (H : Heap) (locs : List Loc) (ls : Array Slot), Inv B S → bx_M D A s (bl_w t x ax B (md_w t.1 y ay S)) H locs → lv_has ls 4 [(3, .int (nI i)), (0, .ref b), (1, .ref x), (2, .ref y)] → W p l e room_1 s m #[Value.ref b] below meth c H locs (19 + i + 1) (847 + 5 * i + 5) Q (F0 m 795 ls [])) : W p l e room_1 s m #[Value.ref b] below meth c H locs (19 + i) (847 + 5 * i) Q (F0 m 640 ls []) := by
  have hx := E.1.1
  have hb := E.1.2.1
  have hB := HI.1
  have hI := HI.2.1
  have v1 : vp_in (nI i + 1) L := by rw [show (1 : Int32) = nI 1 from rfl, nI_add]; exact vp_in_nI (by omega) (by omega)
  have v2 : vp_in (nI i + 2) L := by rw [show (2 : Int32) = nI 2 from rfl, nI_add]; exact vp_in_nI (by omega) (by omega)
  have v3 : vp_in (nI i + 3) L := by rw [show (3 : Int32) = nI 3 from rfl, nI_add]; exact vp_in_nI (by omega) (by omega)
  refine lv_aload_n hx hb dL_law_640 rfl (lv_at hl 2 rfl) ?_
  refine lv_aload_n hx hb dL_law_641 rfl (lv_at hl 1 rfl) ?_
  refine lv_iload_n hx hb dL_law_642 rfl (lv_at hl 0 rfl) ?_
  refine lv_iconst (v := 1) hx hb dL_law_643 (by decide) ?_
  refine lv_iadd hx hb dL_law_644 ?_
  refine va_sld hx hb hX hbl hbA hM.2.2 v1 dL_law_645 ?_
  refine lv_aload_n hx hb dL_law_646 rfl (lv_at hl 1 rfl) ?_
  refine lv_iload_n hx hb dL_law_647 rfl (lv_at hl 0 rfl) ?_
  refine lv_iconst (v := 2) hx hb dL_law_648 (by decide) ?_
  refine lv_iadd hx hb dL_law_649 ?_
  refine va_sld hx hb hX hbl hbA hM.2.2 v2 dL_law_650 ?_
  refine lv_aload_n hx hb dL_law_651 rfl (lv_at hl 1 rfl) ?_
  refine lv_iload_n hx hb dL_law_652 rfl (lv_at hl 0 rfl) ?_
  refine lv_iconst (v := 3) hx hb dL_law_653 (by decide) ?_
  refine lv_iadd hx hb dL_law_654 ?_
  refine va_sld hx hb hX hbl hbA hM.2.2 v3 dL_law_655 ?_
  refine bx_goi hM (bx_runV (As := [.int (xs ((nI i) + 1).toNatClampNeg), .int (xs ((nI i) + 2).toNatClampNeg), .int (xs ((nI i) + 3).toNatClampNeg)]) (rest := []) E hM (bX4_mark l D t A x ax B (md_w t.1 y ay S) (xs ((nI i) + 1).toNatClampNeg) (xs ((nI i) + 2).toNatClampNeg) (xs ((nI i) + 3).toNatClampNeg) ) (bl_recv E hM) 3 gL_law_X4_mark rfl rfl rfl (by decide +kernel) ⟨Nat.le_of_ble_eq_true rfl, Nat.le_of_ble_eq_true rfl⟩ rfl hl.1 rfl (Nat.le_of_ble_eq_true rfl) dL_law_656 ⟨show 19 + i + 0 ≤ 715299 by omega, show 847 + 5 * i + 0 ≤ 6956352 by omega⟩) (fun r u H locs hp hM => ?_)
  obtain ⟨rfl, rfl⟩ := hp
  have hM := law_sw1 (B := (bf_mark B (xs ((nI i) + 1).toNatClampNeg) (xs ((nI i) + 2).toNatClampNeg) (xs ((nI i) + 3).toNatClampNeg)).2) hM
  refine lv_aload_n hx hb dL_law_659 rfl (lv_at hl 3 rfl) ?_
  refine lv_aload_n hx hb dL_law_660 rfl (lv_at hl 1 rfl) ?_
  refine lv_iload_n hx hb dL_law_661 rfl (lv_at hl 0 rfl) ?_
  refine lv_iconst (v := 1) hx hb dL_law_662 (by decide) ?_
  refine lv_iadd hx hb dL_law_663 ?_
  refine va_sld hx hb hX hbl hbA hM.2.2 v1 dL_law_664 ?_
  refine lv_aload_n hx hb dL_law_665 rfl (lv_at hl 1 rfl) ?_
  refine lv_iload_n hx hb dL_law_666 rfl (lv_at hl 0 rfl) ?_
  refine lv_iconst (v := 2) hx hb dL_law_667 (by decide) ?_
  refine lv_iadd hx hb dL_law_668 ?_
  refine va_sld hx hb hX hbl hbA hM.2.2 v2 dL_law_669 ?_
  refine lv_aload_n hx hb dL_law_670 rfl (lv_at hl 1 rfl) ?_
  refine lv_iload_n hx hb dL_law_671 rfl (lv_at hl 0 rfl) ?_
  refine lv_iconst (v := 3) hx hb dL_law_672 (by decide) ?_
  refine lv_iadd hx hb dL_law_673 ?_
  refine va_sld hx hb hX hbl hbA hM.2.2 v3 dL_law_674 ?_
  refine bx_goi hM (bx_runV (As := [.int (xs ((nI i) + 1).toNatClampNeg), .int (xs ((nI i) + 2).toNatClampNeg), .int (xs ((nI i) + 3).toNatClampNeg)]) (rest := [.int ((bf_mark B (xs ((nI i) + 1).toNatClampNeg) (xs ((nI i) + 2).toNatClampNeg) (xs ((nI i) + 3).toNatClampNeg)).1)]) E hM (cX5c_mark l D t A y ay S (bl_x t x ax (bf_mark B (xs ((nI i) + 1).toNatClampNeg) (xs ((nI i) + 2).toNatClampNeg) (xs ((nI i) + 3).toNatClampNeg)).2 [] ++ va_pl (bL (bf_mark B (xs ((nI i) + 1).toNatClampNeg) (xs ((nI i) + 2).toNatClampNeg) (xs ((nI i) + 3).toNatClampNeg)).2) (bl_tf (bf_mark B (xs ((nI i) + 1).toNatClampNeg) (xs ((nI i) + 2).toNatClampNeg) (xs ((nI i) + 3).toNatClampNeg)).2)) (xs ((nI i) + 1).toNatClampNeg) (xs ((nI i) + 2).toNatClampNeg) (xs ((nI i) + 3).toNatClampNeg) hI) (md_recv E hM) 3 gL_law_X5_mark rfl rfl rfl (by decide +kernel) ⟨Nat.le_of_ble_eq_true rfl, Nat.le_of_ble_eq_true rfl⟩ rfl hl.1 rfl (Nat.le_of_ble_eq_true rfl) dL_law_675 ⟨show 19 + i + 0 + 0 ≤ 715299 by omega, show 847 + 5 * i + 0 + 0 ≤ 6956352 by omega⟩) (fun r u H locs hp hM => ?_)
  obtain ⟨rfl, rfl⟩ := hp
  have hM := law_sw2 (B := (bf_mark B (xs ((nI i) + 1).toNatClampNeg) (xs ((nI i) + 2).toNatClampNeg) (xs ((nI i) + 3).toNatClampNeg)).2) (S := (mf_mark S (xs ((nI i) + 1).toNatClampNeg) (xs ((nI i) + 2).toNatClampNeg) (xs ((nI i) + 3).toNatClampNeg)).2) hM
  have HR := op_mark HI (xs ((nI i) + 1).toNatClampNeg) (xs ((nI i) + 2).toNatClampNeg) (xs ((nI i) + 3).toNatClampNeg) 
  refine lv_icmp_eq (tgt := 795) hx hb dL_law_678 (by decide) (fun _ => ?_) (fun c => absurd HR.1 c)
  refine W.widen (k := 19 + i + 1) (n := 847 + 5 * i + 5) (by omega) (by omega) ?_
  exact kk _ _ H locs ls HR.2 hM hl

set_option maxHeartbeats 4000000 in
set_option maxRecDepth 100000 in
theorem law_marked {p : Program} {l : Launch} {e : Env} {s : State} {m : MethodId} {below : List Frame} {meth : Method} {c : Code} {Q : State → Prop} {D : va_G} {t : bx_T} {A : Nat → Prop} {b L i x y : Nat} {xs : Nat → Int32} {ax ay : Nat → Nat} {B : bl_S} {S : md_S} {H : Heap} {locs : List Loc} {ls : Array Slot} (E : bx_E p m c code 4 s #[Value.ref b] wsL_law RL D t A) (hX : va_X b L xs s s.heap) (hbl : b < s.heap.size) (hbA : ¬ A b) (hi : i + 4 ≤ L) (hL : L ≤ 2048) (HI : Inv B S) (hM : bx_M D A s (bl_w t x ax B (md_w t.1 y ay S)) H locs) (hl : lv_has ls 4 [(3, .int (nI i)), (0, .ref b), (1, .ref x), (2, .ref y)])
    (kk : ∀ (B : bl_S) (S : md_S) (H : Heap) (locs : List Loc) (ls : Array Slot), Inv B S → bx_M D A s (bl_w t x ax B (md_w t.1 y ay S)) H locs → lv_has ls 4 [(3, .int (nI i)), (0, .ref b), (1, .ref x), (2, .ref y)] → W p l e room_1 s m #[Value.ref b] below meth c H locs (19 + i + 1) (847 + 5 * i + 5) Q (F0 m 795 ls [])) : W p l e room_1 s m #[Value.ref b] below meth c H locs (19 + i) (847 + 5 * i) Q (F0 m 683 ls []) := by
  have hx := E.1.1
  have hb := E.1.2.1
  have hB := HI.1
  have hI := HI.2.1
  have v1 : vp_in (nI i + 1) L := by rw [show (1 : Int32) = nI 1 from rfl, nI_add]; exact vp_in_nI (by omega) (by omega)
  have v2 : vp_in (nI i + 2) L := by rw [show (2 : Int32) = nI 2 from rfl, nI_add]; exact vp_in_nI (by omega) (by omega)
  refine lv_aload_n hx hb dL_law_683 rfl (lv_at hl 2 rfl) ?_
  refine lv_aload_n hx hb dL_law_684 rfl (lv_at hl 1 rfl) ?_
  refine lv_iload_n hx hb dL_law_685 rfl (lv_at hl 0 rfl) ?_
  refine lv_iconst (v := 1) hx hb dL_law_686 (by decide) ?_
  refine lv_iadd hx hb dL_law_687 ?_
  refine va_sld hx hb hX hbl hbA hM.2.2 v1 dL_law_688 ?_
  refine lv_aload_n hx hb dL_law_689 rfl (lv_at hl 1 rfl) ?_
  refine lv_iload_n hx hb dL_law_690 rfl (lv_at hl 0 rfl) ?_
  refine lv_iconst (v := 2) hx hb dL_law_691 (by decide) ?_
  refine lv_iadd hx hb dL_law_692 ?_
  refine va_sld hx hb hX hbl hbA hM.2.2 v2 dL_law_693 ?_
  refine bx_goi hM (bx_runV (As := [.int (xs ((nI i) + 1).toNatClampNeg), .int (xs ((nI i) + 2).toNatClampNeg)]) (rest := []) E hM (bX4_marked l D t A x ax B (md_w t.1 y ay S) (xs ((nI i) + 1).toNatClampNeg) (xs ((nI i) + 2).toNatClampNeg) ) (bl_recv E hM) 2 gL_law_X4_marked rfl rfl rfl (by decide +kernel) ⟨Nat.le_of_ble_eq_true rfl, Nat.le_of_ble_eq_true rfl⟩ rfl hl.1 rfl (Nat.le_of_ble_eq_true rfl) dL_law_694 ⟨show 19 + i + 0 ≤ 715299 by omega, show 847 + 5 * i + 0 ≤ 6956352 by omega⟩) (fun r u H locs hp hM => ?_)
  obtain ⟨rfl, rfl⟩ := hp
  have hM := law_sw1 (B := (bf_marked B (xs ((nI i) + 1).toNatClampNeg) (xs ((nI i) + 2).toNatClampNeg)).2) hM
  refine lv_aload_n hx hb dL_law_697 rfl (lv_at hl 3 rfl) ?_
  refine lv_aload_n hx hb dL_law_698 rfl (lv_at hl 1 rfl) ?_
  refine lv_iload_n hx hb dL_law_699 rfl (lv_at hl 0 rfl) ?_
  refine lv_iconst (v := 1) hx hb dL_law_700 (by decide) ?_
  refine lv_iadd hx hb dL_law_701 ?_
  refine va_sld hx hb hX hbl hbA hM.2.2 v1 dL_law_702 ?_
  refine lv_aload_n hx hb dL_law_703 rfl (lv_at hl 1 rfl) ?_
  refine lv_iload_n hx hb dL_law_704 rfl (lv_at hl 0 rfl) ?_
  refine lv_iconst (v := 2) hx hb dL_law_705 (by decide) ?_
  refine lv_iadd hx hb dL_law_706 ?_
  refine va_sld hx hb hX hbl hbA hM.2.2 v2 dL_law_707 ?_
  refine bx_goi hM (bx_runV (As := [.int (xs ((nI i) + 1).toNatClampNeg), .int (xs ((nI i) + 2).toNatClampNeg)]) (rest := [.int ((bf_marked B (xs ((nI i) + 1).toNatClampNeg) (xs ((nI i) + 2).toNatClampNeg)).1)]) E hM (cX5c_marked l D t A y ay S (bl_x t x ax (bf_marked B (xs ((nI i) + 1).toNatClampNeg) (xs ((nI i) + 2).toNatClampNeg)).2 [] ++ va_pl (bL (bf_marked B (xs ((nI i) + 1).toNatClampNeg) (xs ((nI i) + 2).toNatClampNeg)).2) (bl_tf (bf_marked B (xs ((nI i) + 1).toNatClampNeg) (xs ((nI i) + 2).toNatClampNeg)).2)) (xs ((nI i) + 1).toNatClampNeg) (xs ((nI i) + 2).toNatClampNeg) hI) (md_recv E hM) 2 gL_law_X5_marked rfl rfl rfl (by decide +kernel) ⟨Nat.le_of_ble_eq_true rfl, Nat.le_of_ble_eq_true rfl⟩ rfl hl.1 rfl (Nat.le_of_ble_eq_true rfl) dL_law_708 ⟨show 19 + i + 0 + 0 ≤ 715299 by omega, show 847 + 5 * i + 0 + 0 ≤ 6956352 by omega⟩) (fun r u H locs hp hM => ?_)
  obtain ⟨rfl, rfl⟩ := hp
  have hM := law_sw2 (B := (bf_marked B (xs ((nI i) + 1).toNatClampNeg) (xs ((nI i) + 2).toNatClampNeg)).2) (S := (mf_marked S (xs ((nI i) + 1).toNatClampNeg) (xs ((nI i) + 2).toNatClampNeg)).2) hM
  have HR := op_marked HI (xs ((nI i) + 1).toNatClampNeg) (xs ((nI i) + 2).toNatClampNeg) 
  refine lv_icmp_eq (tgt := 795) hx hb dL_law_711 (by decide) (fun _ => ?_) (fun c => absurd HR.1 c)
  refine W.widen (k := 19 + i + 1) (n := 847 + 5 * i + 5) (by omega) (by omega) ?_
  exact kk _ _ H locs ls HR.2 hM hl

set_option maxHeartbeats 4000000 in
set_option maxRecDepth 100000 in
theorem law_away {p : Program} {l : Launch} {e : Env} {s : State} {m : MethodId} {below : List Frame} {meth : Method} {c : Code} {Q : State → Prop} {D : va_G} {t : bx_T} {A : Nat → Prop} {b L i x y : Nat} {xs : Nat → Int32} {ax ay : Nat → Nat} {B : bl_S} {S : md_S} {H : Heap} {locs : List Loc} {ls : Array Slot} (E : bx_E p m c code 4 s #[Value.ref b] wsL_law RL D t A) (hX : va_X b L xs s s.heap) (hbl : b < s.heap.size) (hbA : ¬ A b) (hi : i + 4 ≤ L) (hL : L ≤ 2048) (HI : Inv B S) (hM : bx_M D A s (bl_w t x ax B (md_w t.1 y ay S)) H locs) (hl : lv_has ls 4 [(3, .int (nI i)), (0, .ref b), (1, .ref x), (2, .ref y)])
    (kk : ∀ (B : bl_S) (S : md_S) (H : Heap) (locs : List Loc) (ls : Array Slot), Inv B S → bx_M D A s (bl_w t x ax B (md_w t.1 y ay S)) H locs → lv_has ls 4 [(3, .int (nI i)), (0, .ref b), (1, .ref x), (2, .ref y)] → W p l e room_1 s m #[Value.ref b] below meth c H locs (19 + i + 1) (847 + 5 * i + 5) Q (F0 m 795 ls [])) : W p l e room_1 s m #[Value.ref b] below meth c H locs (19 + i) (847 + 5 * i) Q (F0 m 716 ls []) := by
  have hx := E.1.1
  have hb := E.1.2.1
  have hB := HI.1
  have hI := HI.2.1
  have v1 : vp_in (nI i + 1) L := by rw [show (1 : Int32) = nI 1 from rfl, nI_add]; exact vp_in_nI (by omega) (by omega)
  refine lv_aload_n hx hb dL_law_716 rfl (lv_at hl 2 rfl) ?_
  refine lv_aload_n hx hb dL_law_717 rfl (lv_at hl 1 rfl) ?_
  refine lv_iload_n hx hb dL_law_718 rfl (lv_at hl 0 rfl) ?_
  refine lv_iconst (v := 1) hx hb dL_law_719 (by decide) ?_
  refine lv_iadd hx hb dL_law_720 ?_
  refine va_sld hx hb hX hbl hbA hM.2.2 v1 dL_law_721 ?_
  refine bx_goi hM (bx_runV (As := [.int (xs ((nI i) + 1).toNatClampNeg)]) (rest := []) E hM (bX4_away l D t A x ax B (md_w t.1 y ay S) (xs ((nI i) + 1).toNatClampNeg) ) (bl_recv E hM) 1 gL_law_X4_away rfl rfl rfl (by decide +kernel) ⟨Nat.le_of_ble_eq_true rfl, Nat.le_of_ble_eq_true rfl⟩ rfl hl.1 rfl (Nat.le_of_ble_eq_true rfl) dL_law_722 ⟨show 19 + i + 0 ≤ 715299 by omega, show 847 + 5 * i + 0 ≤ 6956352 by omega⟩) (fun r u H locs hp hM => ?_)
  obtain ⟨rfl, rfl⟩ := hp
  have hM := law_sw1 (B := (bf_away B (xs ((nI i) + 1).toNatClampNeg)).2) hM
  refine lv_aload_n hx hb dL_law_725 rfl (lv_at hl 3 rfl) ?_
  refine lv_aload_n hx hb dL_law_726 rfl (lv_at hl 1 rfl) ?_
  refine lv_iload_n hx hb dL_law_727 rfl (lv_at hl 0 rfl) ?_
  refine lv_iconst (v := 1) hx hb dL_law_728 (by decide) ?_
  refine lv_iadd hx hb dL_law_729 ?_
  refine va_sld hx hb hX hbl hbA hM.2.2 v1 dL_law_730 ?_
  refine bx_goi hM (bx_runV (As := [.int (xs ((nI i) + 1).toNatClampNeg)]) (rest := [.int ((bf_away B (xs ((nI i) + 1).toNatClampNeg)).1)]) E hM (cX5c_away l D t A y ay S (bl_x t x ax (bf_away B (xs ((nI i) + 1).toNatClampNeg)).2 [] ++ va_pl (bL (bf_away B (xs ((nI i) + 1).toNatClampNeg)).2) (bl_tf (bf_away B (xs ((nI i) + 1).toNatClampNeg)).2)) (xs ((nI i) + 1).toNatClampNeg) ) (md_recv E hM) 1 gL_law_X5_away rfl rfl rfl (by decide +kernel) ⟨Nat.le_of_ble_eq_true rfl, Nat.le_of_ble_eq_true rfl⟩ rfl hl.1 rfl (Nat.le_of_ble_eq_true rfl) dL_law_731 ⟨show 19 + i + 0 + 0 ≤ 715299 by omega, show 847 + 5 * i + 0 + 0 ≤ 6956352 by omega⟩) (fun r u H locs hp hM => ?_)
  obtain ⟨rfl, rfl⟩ := hp
  have hM := law_sw2 (B := (bf_away B (xs ((nI i) + 1).toNatClampNeg)).2) (S := (mf_away S (xs ((nI i) + 1).toNatClampNeg)).2) hM
  have HR := op_away HI (xs ((nI i) + 1).toNatClampNeg) 
  refine lv_icmp_eq (tgt := 795) hx hb dL_law_734 (by decide) (fun _ => ?_) (fun c => absurd HR.1 c)
  refine W.widen (k := 19 + i + 1) (n := 847 + 5 * i + 5) (by omega) (by omega) ?_
  exact kk _ _ H locs ls HR.2 hM hl

set_option maxHeartbeats 4000000 in
set_option maxRecDepth 100000 in
theorem law_about {p : Program} {l : Launch} {e : Env} {s : State} {m : MethodId} {below : List Frame} {meth : Method} {c : Code} {Q : State → Prop} {D : va_G} {t : bx_T} {A : Nat → Prop} {b L i x y : Nat} {xs : Nat → Int32} {ax ay : Nat → Nat} {B : bl_S} {S : md_S} {H : Heap} {locs : List Loc} {ls : Array Slot} (E : bx_E p m c code 4 s #[Value.ref b] wsL_law RL D t A) (hX : va_X b L xs s s.heap) (hbl : b < s.heap.size) (hbA : ¬ A b) (hi : i + 4 ≤ L) (hL : L ≤ 2048) (HI : Inv B S) (hM : bx_M D A s (bl_w t x ax B (md_w t.1 y ay S)) H locs) (hl : lv_has ls 4 [(3, .int (nI i)), (0, .ref b), (1, .ref x), (2, .ref y)])
    (kk : ∀ (B : bl_S) (S : md_S) (H : Heap) (locs : List Loc) (ls : Array Slot), Inv B S → bx_M D A s (bl_w t x ax B (md_w t.1 y ay S)) H locs → lv_has ls 4 [(3, .int (nI i)), (0, .ref b), (1, .ref x), (2, .ref y)] → W p l e room_1 s m #[Value.ref b] below meth c H locs (19 + i + 1) (847 + 5 * i + 5) Q (F0 m 795 ls [])) : W p l e room_1 s m #[Value.ref b] below meth c H locs (19 + i) (847 + 5 * i) Q (F0 m 739 ls []) := by
  have hx := E.1.1
  have hb := E.1.2.1
  have hB := HI.1
  have hI := HI.2.1
  have v1 : vp_in (nI i + 1) L := by rw [show (1 : Int32) = nI 1 from rfl, nI_add]; exact vp_in_nI (by omega) (by omega)
  have v2 : vp_in (nI i + 2) L := by rw [show (2 : Int32) = nI 2 from rfl, nI_add]; exact vp_in_nI (by omega) (by omega)
  refine lv_aload_n hx hb dL_law_739 rfl (lv_at hl 2 rfl) ?_
  refine lv_aload_n hx hb dL_law_740 rfl (lv_at hl 1 rfl) ?_
  refine lv_iload_n hx hb dL_law_741 rfl (lv_at hl 0 rfl) ?_
  refine lv_iconst (v := 1) hx hb dL_law_742 (by decide) ?_
  refine lv_iadd hx hb dL_law_743 ?_
  refine va_sld hx hb hX hbl hbA hM.2.2 v1 dL_law_744 ?_
  refine lv_aload_n hx hb dL_law_745 rfl (lv_at hl 1 rfl) ?_
  refine lv_iload_n hx hb dL_law_746 rfl (lv_at hl 0 rfl) ?_
  refine lv_iconst (v := 2) hx hb dL_law_747 (by decide) ?_
  refine lv_iadd hx hb dL_law_748 ?_
  refine va_sld hx hb hX hbl hbA hM.2.2 v2 dL_law_749 ?_
  refine bx_goi hM (bx_runV (As := [.int (xs ((nI i) + 1).toNatClampNeg), .int (xs ((nI i) + 2).toNatClampNeg)]) (rest := []) E hM (bX4_about l D t A x ax B (md_w t.1 y ay S) (xs ((nI i) + 1).toNatClampNeg) (xs ((nI i) + 2).toNatClampNeg) hB) (bl_recv E hM) 2 gL_law_X4_about rfl rfl rfl (by decide +kernel) ⟨Nat.le_of_ble_eq_true rfl, Nat.le_of_ble_eq_true rfl⟩ rfl hl.1 rfl (Nat.le_of_ble_eq_true rfl) dL_law_750 ⟨show 19 + i + 0 ≤ 715299 by omega, show 847 + 5 * i + 0 ≤ 6956352 by omega⟩) (fun r u H locs hp hM => ?_)
  obtain ⟨rfl, rfl⟩ := hp
  have hM := law_sw1 (B := (bf_about B (xs ((nI i) + 1).toNatClampNeg) (xs ((nI i) + 2).toNatClampNeg)).2) hM
  refine lv_aload_n hx hb dL_law_753 rfl (lv_at hl 3 rfl) ?_
  refine lv_aload_n hx hb dL_law_754 rfl (lv_at hl 1 rfl) ?_
  refine lv_iload_n hx hb dL_law_755 rfl (lv_at hl 0 rfl) ?_
  refine lv_iconst (v := 1) hx hb dL_law_756 (by decide) ?_
  refine lv_iadd hx hb dL_law_757 ?_
  refine va_sld hx hb hX hbl hbA hM.2.2 v1 dL_law_758 ?_
  refine lv_aload_n hx hb dL_law_759 rfl (lv_at hl 1 rfl) ?_
  refine lv_iload_n hx hb dL_law_760 rfl (lv_at hl 0 rfl) ?_
  refine lv_iconst (v := 2) hx hb dL_law_761 (by decide) ?_
  refine lv_iadd hx hb dL_law_762 ?_
  refine va_sld hx hb hX hbl hbA hM.2.2 v2 dL_law_763 ?_
  refine bx_goi hM (bx_runV (As := [.int (xs ((nI i) + 1).toNatClampNeg), .int (xs ((nI i) + 2).toNatClampNeg)]) (rest := [.int ((bf_about B (xs ((nI i) + 1).toNatClampNeg) (xs ((nI i) + 2).toNatClampNeg)).1)]) E hM (cX5c_about l D t A y ay S (bl_x t x ax (bf_about B (xs ((nI i) + 1).toNatClampNeg) (xs ((nI i) + 2).toNatClampNeg)).2 [] ++ va_pl (bL (bf_about B (xs ((nI i) + 1).toNatClampNeg) (xs ((nI i) + 2).toNatClampNeg)).2) (bl_tf (bf_about B (xs ((nI i) + 1).toNatClampNeg) (xs ((nI i) + 2).toNatClampNeg)).2)) (xs ((nI i) + 1).toNatClampNeg) (xs ((nI i) + 2).toNatClampNeg) hI) (md_recv E hM) 2 gL_law_X5_about rfl rfl rfl (by decide +kernel) ⟨Nat.le_of_ble_eq_true rfl, Nat.le_of_ble_eq_true rfl⟩ rfl hl.1 rfl (Nat.le_of_ble_eq_true rfl) dL_law_764 ⟨show 19 + i + 0 + 0 ≤ 715299 by omega, show 847 + 5 * i + 0 + 0 ≤ 6956352 by omega⟩) (fun r u H locs hp hM => ?_)
  obtain ⟨rfl, rfl⟩ := hp
  have hM := law_sw2 (B := (bf_about B (xs ((nI i) + 1).toNatClampNeg) (xs ((nI i) + 2).toNatClampNeg)).2) (S := (mf_about S (xs ((nI i) + 1).toNatClampNeg) (xs ((nI i) + 2).toNatClampNeg)).2) hM
  have HR := op_about HI (xs ((nI i) + 1).toNatClampNeg) (xs ((nI i) + 2).toNatClampNeg) 
  refine lv_icmp_eq (tgt := 795) hx hb dL_law_767 (by decide) (fun _ => ?_) (fun c => absurd HR.1 c)
  refine W.widen (k := 19 + i + 1) (n := 847 + 5 * i + 5) (by omega) (by omega) ?_
  exact kk _ _ H locs ls HR.2 hM hl

set_option maxHeartbeats 4000000 in
set_option maxRecDepth 100000 in
theorem law_reasons {p : Program} {l : Launch} {e : Env} {s : State} {m : MethodId} {below : List Frame} {meth : Method} {c : Code} {Q : State → Prop} {D : va_G} {t : bx_T} {A : Nat → Prop} {b L i x y : Nat} {xs : Nat → Int32} {ax ay : Nat → Nat} {B : bl_S} {S : md_S} {H : Heap} {locs : List Loc} {ls : Array Slot} (E : bx_E p m c code 4 s #[Value.ref b] wsL_law RL D t A) (hX : va_X b L xs s s.heap) (hbl : b < s.heap.size) (hbA : ¬ A b) (hi : i + 4 ≤ L) (hL : L ≤ 2048) (HI : Inv B S) (hM : bx_M D A s (bl_w t x ax B (md_w t.1 y ay S)) H locs) (hl : lv_has ls 4 [(3, .int (nI i)), (0, .ref b), (1, .ref x), (2, .ref y)])
    (kk : ∀ (B : bl_S) (S : md_S) (H : Heap) (locs : List Loc) (ls : Array Slot), Inv B S → bx_M D A s (bl_w t x ax B (md_w t.1 y ay S)) H locs → lv_has ls 4 [(3, .int (nI i)), (0, .ref b), (1, .ref x), (2, .ref y)] → W p l e room_1 s m #[Value.ref b] below meth c H locs (19 + i + 1) (847 + 5 * i + 5) Q (F0 m 795 ls [])) : W p l e room_1 s m #[Value.ref b] below meth c H locs (19 + i) (847 + 5 * i) Q (F0 m 772 ls []) := by
  have hx := E.1.1
  have hb := E.1.2.1
  have hB := HI.1
  have hI := HI.2.1
  have v1 : vp_in (nI i + 1) L := by rw [show (1 : Int32) = nI 1 from rfl, nI_add]; exact vp_in_nI (by omega) (by omega)
  refine lv_aload_n hx hb dL_law_772 rfl (lv_at hl 2 rfl) ?_
  refine lv_aload_n hx hb dL_law_773 rfl (lv_at hl 1 rfl) ?_
  refine lv_iload_n hx hb dL_law_774 rfl (lv_at hl 0 rfl) ?_
  refine lv_iconst (v := 1) hx hb dL_law_775 (by decide) ?_
  refine lv_iadd hx hb dL_law_776 ?_
  refine va_sld hx hb hX hbl hbA hM.2.2 v1 dL_law_777 ?_
  refine bx_goi hM (bx_runV (As := [.int (xs ((nI i) + 1).toNatClampNeg)]) (rest := []) E hM (bX4_reasons l D t A x ax B (md_w t.1 y ay S) (xs ((nI i) + 1).toNatClampNeg) ) (bl_recv E hM) 1 gL_law_X4_reasons rfl rfl rfl (by decide +kernel) ⟨Nat.le_of_ble_eq_true rfl, Nat.le_of_ble_eq_true rfl⟩ rfl hl.1 rfl (Nat.le_of_ble_eq_true rfl) dL_law_778 ⟨show 19 + i + 0 ≤ 715299 by omega, show 847 + 5 * i + 0 ≤ 6956352 by omega⟩) (fun r u H locs hp hM => ?_)
  obtain ⟨rfl, rfl⟩ := hp
  have hM := law_sw1 (B := (bf_reasons B (xs ((nI i) + 1).toNatClampNeg)).2) hM
  refine lv_aload_n hx hb dL_law_781 rfl (lv_at hl 3 rfl) ?_
  refine lv_aload_n hx hb dL_law_782 rfl (lv_at hl 1 rfl) ?_
  refine lv_iload_n hx hb dL_law_783 rfl (lv_at hl 0 rfl) ?_
  refine lv_iconst (v := 1) hx hb dL_law_784 (by decide) ?_
  refine lv_iadd hx hb dL_law_785 ?_
  refine va_sld hx hb hX hbl hbA hM.2.2 v1 dL_law_786 ?_
  refine bx_goi hM (bx_runV (As := [.int (xs ((nI i) + 1).toNatClampNeg)]) (rest := [.int ((bf_reasons B (xs ((nI i) + 1).toNatClampNeg)).1)]) E hM (cX5c_reasons l D t A y ay S (bl_x t x ax (bf_reasons B (xs ((nI i) + 1).toNatClampNeg)).2 [] ++ va_pl (bL (bf_reasons B (xs ((nI i) + 1).toNatClampNeg)).2) (bl_tf (bf_reasons B (xs ((nI i) + 1).toNatClampNeg)).2)) (xs ((nI i) + 1).toNatClampNeg) ) (md_recv E hM) 1 gL_law_X5_reasons rfl rfl rfl (by decide +kernel) ⟨Nat.le_of_ble_eq_true rfl, Nat.le_of_ble_eq_true rfl⟩ rfl hl.1 rfl (Nat.le_of_ble_eq_true rfl) dL_law_787 ⟨show 19 + i + 0 + 0 ≤ 715299 by omega, show 847 + 5 * i + 0 + 0 ≤ 6956352 by omega⟩) (fun r u H locs hp hM => ?_)
  obtain ⟨rfl, rfl⟩ := hp
  have hM := law_sw2 (B := (bf_reasons B (xs ((nI i) + 1).toNatClampNeg)).2) (S := (mf_reasons S (xs ((nI i) + 1).toNatClampNeg)).2) hM
  have HR := op_reasons HI (xs ((nI i) + 1).toNatClampNeg) 
  refine lv_icmp_eq (tgt := 795) hx hb dL_law_790 (by decide) (fun _ => ?_) (fun c => absurd HR.1 c)
  refine W.widen (k := 19 + i + 1) (n := 847 + 5 * i + 5) (by omega) (by omega) ?_
  exact kk _ _ H locs ls HR.2 hM hl
