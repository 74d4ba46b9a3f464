theorem fresh_lt (L : List Nat) : ∃ m : Nat, ∀ x ∈ L, x < m := by
  induction L with
  | nil => exact ⟨0, fun x h => by cases h⟩
  | cons a L ih =>
    obtain ⟨m, hm⟩ := ih
    refine ⟨m + a + 1, fun x hx => ?_⟩
    rcases List.mem_cons.mp hx with e | e
    · omega
    · have := hm x e; omega
theorem fresh_ex (L : List Nat) : ∃ q : Nat, q ∉ L := by
  obtain ⟨m, hm⟩ := fresh_lt L
  exact ⟨m, fun h => absurd (hm m h) (Nat.lt_irrefl m)⟩
theorem in03 {k : Int32} (h : inB k 0 3 = true) (h0 : ¬ k = 0) : k = 1 ∨ k = 2 ∨ k = 3 := by
  obtain ⟨j, hj, rfl⟩ := vp_in_of (vp_inB h (n := 4) (by decide)) (by decide)
  rcases (show j = 0 ∨ j = 1 ∨ j = 2 ∨ j = 3 by omega) with rfl | rfl | rfl | rfl
  · exact absurd rfl h0
  · exact Or.inl rfl
  · exact Or.inr (Or.inl rfl)
  · exact Or.inr (Or.inr rfl)
section BLN
variable {p : Program} {l : Launch} {e : Env} {R : Room} {s : State} {m : MethodId} {args : Array Value} {below : List Frame} {meth : Method} {c : Code} {H : Heap} {locs : List Loc} {cells slots : Nat} {Q : State → Prop}
variable {cc : ByteArray} {nL index pc : Nat} {Ts : List Cond} {own : String} {D : va_G} {t : bx_T} {A : Nat → Prop} {ls : Array Slot} {rest : List Value} {h : Nat} {a : Nat → Nat} {B : bl_S} {Z : va_W}
theorem bl_newB (E : bx_E p m c cc nL s args Ts own D t A) (h0 : ∀ w ∈ wsX00, w ∈ Ts) (hM : bx_M D A s (bl_w t h a B Z) H locs) (hcl : Cond.classLink own index RX0 ∈ Ts) (hinst : Cond.instantiable RX0 4 ∈ Ts) (hini : Cond.initialized RX0 ∈ Ts) (hc : cells + 1 ≤ R.cells) (hs : slots + 4 ≤ R.slots) (hdg : decode cc pc = .ok (.new index, 3))
    (kk : ∀ (q : Nat) (H1 : Heap), q ∉ bL B → bx_M D A s (bl_w t h a (bl_n B q 1) Z) H1 locs → W p l e R s m args below meth c H1 locs (cells + 1) (slots + 4) Q (F0 m (pc + 3) ls (.ref q :: rest))) : W p l e R s m args below meth c H locs cells slots Q (F0 m pc ls rest) := by
  refine va_new (ci := 0) (fs := [.int 0, .int 0, .null, .int 0]) (C := RX0) (T := TX0) (N := 4) E.1.1 E.1.2.1 E.1.2.2.2.2 h0 tyX0 tyX0_ok E.1.2.2.2.1 (E.1.2.2.2.2 _ hcl) (E.1.2.2.2.2 _ hinst) (E.1.2.2.2.2 _ hini) E.2.1.1 hM.1 hM.2.1 hM.2.2 E.2.2 rfl (fun j hj => by rcases (show j = 0 ∨ j = 1 ∨ j = 2 ∨ j = 3 by omega) with rfl | rfl | rfl | rfl <;> rfl) hc hs hdg (fun q H1 g1 g2 g3 => ?_)
  have hq : q ∉ bL B := va_pl_fresh2 g2
  have eq := bl_push (e := .inr (0, [.int 0, .int 0, .null, .int 0])) (t := t) (h := h) (a := a) (Z := Z) (B := B) (B' := bl_n B q 1) rfl rfl (bl_fn ((bl_tf1 (B := bl_n B q 1) (by rw [bl_nk]; decide) (by rw [bl_nk]; decide)).trans (by rw [bl_nv, bl_nv, bl_nv, bl_nc] <;> rfl))) hq
  exact kk q H1 hq ⟨eq ▸ g1, eq ▸ g2, g3⟩
theorem bl_newG (E : bx_E p m c cc nL s args Ts own D t A) (h2 : ∀ w ∈ wsX20, w ∈ Ts) (hM : bx_M D A s (bl_w t h a B Z) H locs) (hcl : Cond.classLink own index RX2 ∈ Ts) (hinst : Cond.instantiable RX2 5 ∈ Ts) (hini : Cond.initialized RX2 ∈ Ts) (hc : cells + 1 ≤ R.cells) (hs : slots + 5 ≤ R.slots) (hdg : decode cc pc = .ok (.new index, 3))
    (kk : ∀ (q : Nat) (H1 : Heap), q ∉ bL B → bx_M D A s (bl_w t h a (bl_n B q 2) Z) H1 locs → W p l e R s m args below meth c H1 locs (cells + 1) (slots + 5) Q (F0 m (pc + 3) ls (.ref q :: rest))) : W p l e R s m args below meth c H locs cells slots Q (F0 m pc ls rest) := by
  refine va_new (ci := 2) (fs := [.int 0, .null, .int 0, .int 0, .int 0]) (C := RX2) (T := TX2) (N := 5) E.1.1 E.1.2.1 E.1.2.2.2.2 h2 tyX2 tyX2_ok E.1.2.2.2.1 (E.1.2.2.2.2 _ hcl) (E.1.2.2.2.2 _ hinst) (E.1.2.2.2.2 _ hini) E.2.1.1 hM.1 hM.2.1 hM.2.2 E.2.2 rfl (fun j hj => by rcases (show j = 0 ∨ j = 1 ∨ j = 2 ∨ j = 3 ∨ j = 4 by omega) with rfl | rfl | rfl | rfl | rfl <;> rfl) hc hs hdg (fun q H1 g1 g2 g3 => ?_)
  have hq : q ∉ bL B := va_pl_fresh2 g2
  have eq := bl_push (e := .inr (2, [.int 0, .null, .int 0, .int 0, .int 0])) (t := t) (h := h) (a := a) (Z := Z) (B := B) (B' := bl_n B q 2) rfl rfl (bl_fn ((bl_tf2 (B := bl_n B q 2) (by rw [bl_nk]; decide) bl_nk).trans (by rw [bl_nv, bl_nv, bl_nv, bl_nv, bl_nc] <;> rfl))) hq
  exact kk q H1 hq ⟨eq ▸ g1, eq ▸ g2, g3⟩
theorem bl_newC (E : bx_E p m c cc nL s args Ts own D t A) (h1 : ∀ w ∈ wsX10, w ∈ Ts) (hM : bx_M D A s (bl_w t h a B Z) H locs) (hcl : Cond.classLink own index RX1 ∈ Ts) (hinst : Cond.instantiable RX1 2 ∈ Ts) (hini : Cond.initialized RX1 ∈ Ts) (hc : cells + 1 ≤ R.cells) (hs : slots + 2 ≤ R.slots) (hdg : decode cc pc = .ok (.new index, 3))
    (kk : ∀ (q : Nat) (H1 : Heap), q ∉ bL B → bx_M D A s (bl_w t h a (bl_n B q 3) Z) H1 locs → W p l e R s m args below meth c H1 locs (cells + 1) (slots + 2) Q (F0 m (pc + 3) ls (.ref q :: rest))) : W p l e R s m args below meth c H locs cells slots Q (F0 m pc ls rest) := by
  refine va_new (ci := 1) (fs := [.int 0, .int 0]) (C := RX1) (T := TX1) (N := 2) E.1.1 E.1.2.1 E.1.2.2.2.2 h1 tyX1 tyX1_ok E.1.2.2.2.1 (E.1.2.2.2.2 _ hcl) (E.1.2.2.2.2 _ hinst) (E.1.2.2.2.2 _ hini) E.2.1.1 hM.1 hM.2.1 hM.2.2 E.2.2 rfl (fun j hj => by rcases (show j = 0 ∨ j = 1 by omega) with rfl | rfl <;> rfl) hc hs hdg (fun q H1 g1 g2 g3 => ?_)
  have hq : q ∉ bL B := va_pl_fresh2 g2
  have eq := bl_push (e := .inr (1, [.int 0, .int 0])) (t := t) (h := h) (a := a) (Z := Z) (B := B) (B' := bl_n B q 3) rfl rfl (bl_fn ((bl_tf3 (B := bl_n B q 3) bl_nk).trans (by rw [bl_nv, bl_nv] <;> rfl))) hq
  exact kk q H1 hq ⟨eq ▸ g1, eq ▸ g2, g3⟩
end BLN
/-! what a stroke may change in the class: strokes, wear, told, level -/
def bl_same (B T : bl_S) : Prop := (∀ k, k ≠ 2 → T.1 k = B.1 k) ∧ (∀ k, k ≠ 5 → T.2.1 k = B.2.1 k) ∧ bR T = bR B ∧ bL T = bL B ∧ bK T = bK B ∧ (∀ f, f ≠ 1 → f ≠ 4 → bV T f = bV B f) ∧ bC T = bC B
theorem bl_same.rf {B : bl_S} : bl_same B B := ⟨fun _ _ => rfl, fun _ _ => rfl, rfl, rfl, rfl, fun _ _ _ => rfl, rfl⟩
theorem bl_same.tr {B T U : bl_S} (h1 : bl_same B T) (h2 : bl_same T U) : bl_same B U := ⟨fun k a => (h2.1 k a).trans (h1.1 k a), fun k a => (h2.2.1 k a).trans (h1.2.1 k a), h2.2.2.1.trans h1.2.2.1, h2.2.2.2.1.trans h1.2.2.2.1, h2.2.2.2.2.1.trans h1.2.2.2.2.1, fun f a b => (h2.2.2.2.2.2.1 f a b).trans (h1.2.2.2.2.2.1 f a b), h2.2.2.2.2.2.2.trans h1.2.2.2.2.2.2⟩
theorem bl_same.v {B : bl_S} {f y : Nat} {x : Int32} (hf : f = 1 ∨ f = 4) : bl_same B (bl_v B f y x) := ⟨fun _ _ => rfl, fun _ _ => rfl, rfl, rfl, rfl, fun g a b => va_up_ne _ _ (by omega), rfl⟩
theorem bl_same.s {B : bl_S} {x : Int32} : bl_same B (bl_s B 5 x) := ⟨fun _ _ => rfl, fun k a => va_up_ne _ _ a, rfl, rfl, rfl, fun _ _ _ => rfl, rfl⟩
theorem bl_same.tell (B : bl_S) (k : Int32) : bl_same B (bf_tell B k) := by
  unfold bf_tell
  split
  · exact ⟨fun j a => va_up_ne _ _ a, fun _ _ => rfl, rfl, rfl, rfl, fun _ _ _ => rfl, rfl⟩
  · exact bl_same.rf
theorem bl_same.off (B : bl_S) (y : Nat) : bl_same B (bf_goOff B y).2 := by
  unfold bf_goOff
  split
  · exact bl_same.tell B 1
  · exact bl_same.s.tr (bl_same.tell (bl_s B 5 (bV B 2 y)) 6)
theorem bl_same.sound (B : bl_S) (y : Nat) : bl_same B (bf_sound B y).2 := by
  have h1 : bl_same B (bl_v B 1 y (bV B 1 y + 1)) := bl_same.v (Or.inl rfl)
  unfold bf_sound
  generalize bl_v B 1 y (bV B 1 y + 1) = T at h1 ⊢
  split
  · exact h1.tr (bl_same.off T y)
  · split
    · exact h1.tr (bl_same.tell T 1)
    · rename_i z _
      exact h1.tr (bl_same.v (f := 4) (y := z) (x := bV T 4 z + 1) (Or.inr rfl))
theorem bl_same.strike (B : bl_S) (i : Int32) : bl_same B (bf_strike B i).2 := by
  unfold bf_strike
  split
  · exact bl_same.tell B 1
  split
  · split
    · exact bl_same.tell B 1
    split
    · split
      · exact bl_same.tell B 1
      · exact bl_same.sound B _
    · exact bl_same.tell B 5
  · exact bl_same.tell B 5
theorem bl_same.I {B T : bl_S} (h : bl_same B T) (hI : bl_I B) : bl_I T := by
  obtain ⟨-, -, e1, e2, e3, -, e5⟩ := h
  unfold bl_I
  rw [e1, e2, e3, e5]
  exact hI
