/-! the class's state: its rows of numbers (0 numbers, 1 marks, 2 told), its numbers (0 placeCount, 1 greatFrame, 2 numberCount, 3 rowCount, 4 columnCount, 5 latestLevel), its rows of references (0 hooks, 1 places), the things made so far, their kinds (3 a clapper, 2 a great bell, else a bell), their numbers (0 weight, 1 strokes, 2 alarm, 3 hum, 4 wear), their clappers -/
abbrev bl_S : Type := (Nat → Nat → Int32) × (Nat → Int32) × (Nat → Nat → Option Nat) × List Nat × (Nat → Nat) × (Nat → Nat → Int32) × (Nat → Option Nat)
abbrev bR (B : bl_S) : Nat → Nat → Option Nat := B.2.2.1
abbrev bL (B : bl_S) : List Nat := B.2.2.2.1
abbrev bK (B : bl_S) : Nat → Nat := B.2.2.2.2.1
abbrev bV (B : bl_S) : Nat → Nat → Int32 := B.2.2.2.2.2.1
abbrev bC (B : bl_S) : Nat → Option Nat := B.2.2.2.2.2.2
def bl_a (B : bl_S) (k : Nat) (f : Nat → Int32) : bl_S := (va_up B.1 k f, B.2)
def bl_ai (B : bl_S) (k i : Nat) (x : Int32) : bl_S := bl_a B k (upd (B.1 k) i x)
def bl_s (B : bl_S) (k : Nat) (v : Int32) : bl_S := (B.1, va_up B.2.1 k v, B.2.2)
def bl_r (B : bl_S) (k : Nat) (f : Nat → Option Nat) : bl_S := (B.1, B.2.1, va_up (bR B) k f, B.2.2.2)
def bl_ri (B : bl_S) (k i : Nat) (o : Option Nat) : bl_S := bl_r B k (va_up (bR B k) i o)
def bl_v (B : bl_S) (f y : Nat) (x : Int32) : bl_S := (B.1, B.2.1, bR B, bL B, bK B, va_up (bV B) f (va_up (bV B f) y x), bC B)
def bl_c (B : bl_S) (y : Nat) (o : Option Nat) : bl_S := (B.1, B.2.1, bR B, bL B, bK B, bV B, va_up (bC B) y o)
def bl_n (B : bl_S) (q kd : Nat) : bl_S := (B.1, B.2.1, bR B, bL B ++ [q], va_up (bK B) q kd, fun f => va_up (bV B f) q 0, va_up (bC B) q none)
def bl_tf (B : bl_S) (y : Nat) : va_E := if bK B y = 3 then .inr (1, [.int (bV B 0 y), .int (bV B 4 y)]) else if bK B y = 2 then .inr (2, [.int (bV B 1 y), va_rf (bC B y), .int (bV B 2 y), .int (bV B 0 y), .int (bV B 3 y)]) else .inr (0, [.int (bV B 0 y), .int (bV B 1 y), va_rf (bC B y), .int (bV B 2 y)])
theorem bl_tf3 {B : bl_S} {y : Nat} (h : bK B y = 3) : bl_tf B y = .inr (1, [.int (bV B 0 y), .int (bV B 4 y)]) := if_pos h
theorem bl_tf2 {B : bl_S} {y : Nat} (h : ¬ bK B y = 3) (h2 : bK B y = 2) : bl_tf B y = .inr (2, [.int (bV B 1 y), va_rf (bC B y), .int (bV B 2 y), .int (bV B 0 y), .int (bV B 3 y)]) := (if_neg h).trans (if_pos h2)
theorem bl_tf1 {B : bl_S} {y : Nat} (h : ¬ bK B y = 3) (h2 : ¬ bK B y = 2) : bl_tf B y = .inr (0, [.int (bV B 0 y), .int (bV B 1 y), va_rf (bC B y), .int (bV B 2 y)]) := (if_neg h).trans (if_neg h2)
def bl_len : Nat → Nat := fun k => match k with
  | 0 => 12
  | 1 => 144
  | _ => 7
def bl_rl : Nat → Nat := fun k => match k with
  | 0 => 10
  | _ => 12
def bl_fs (a : Nat → Nat) (B : bl_S) : List Value := [.ref (a 0), .ref (a 1), .int (B.2.1 0), .int (B.2.1 1), .ref (a 2), .int (B.2.1 2), .ref (a 3), .int (B.2.1 3), .int (B.2.1 4), .ref (a 4), .int (B.2.1 5)]
def bl_x (t : bx_T) (h : Nat) (a : Nat → Nat) (B : bl_S) (Z : va_W) : va_W := [(h, .inr (3, bl_fs a B)), (a 0, .inl (t.2.1, bl_rl 0, .inr (.inr (.inr (.inr (bR B 0)))))), (a 1, .inl (t.2.2, bl_rl 1, .inr (.inr (.inr (.inr (bR B 1)))))), (a 2, .inl (t.1, bl_len 0, .inl (B.1 0))), (a 3, .inl (t.1, bl_len 1, .inl (B.1 1))), (a 4, .inl (t.1, bl_len 2, .inl (B.1 2)))] ++ Z
def bl_w (t : bx_T) (h : Nat) (a : Nat → Nat) (B : bl_S) (Z : va_W) : va_W := bl_x t h a B Z ++ va_pl (bL B) (bl_tf B)
theorem bl_k3 {P : Nat → Prop} (h0 : P 0) (h1 : P 1) (h2 : P 2) : ∀ k, k < 3 → P k := by
  intro k hk
  rcases (show k = 0 ∨ k = 1 ∨ k = 2 by omega) with rfl | rfl | rfl <;> assumption
theorem bl_at (t : bx_T) (h : Nat) (a : Nat → Nat) (B : bl_S) (Z : va_W) : ∀ k, k < 3 → (bl_w t h a B Z)[k + 3]? = some (a (k + 2), .inl (t.1, bl_len k, .inl (B.1 k))) := bl_k3 rfl rfl rfl
theorem bl_set (t : bx_T) (h : Nat) (a : Nat → Nat) (B : bl_S) (Z : va_W) (f : Nat → Int32) : ∀ k, k < 3 → (bl_w t h a B Z).set (k + 3) (a (k + 2), .inl (t.1, bl_len k, .inl f)) = bl_w t h a (bl_a B k f) Z := bl_k3 rfl rfl rfl
theorem bl_th {t : bx_T} {h : Nat} {a : Nat → Nat} {B : bl_S} {Z : va_W} {y : Nat} (hy : y ∈ bL B) : ∃ k : Nat, (bl_w t h a B Z)[k]? = some (y, bl_tf B y) := va_pl_get hy
theorem bl_upd {t : bx_T} {h : Nat} {a : Nat → Nat} {B B' : bl_S} {Z : va_W} {A : Nat → Prop} {y k : Nat} {e : va_E} (hL : bL B' = bL B) (hx : bl_x t h a B' Z = bl_x t h a B Z) (hf : ∀ j, va_up (bl_tf B) y e j = bl_tf B' j) (hD : va_D A (bl_w t h a B Z)) (hy : y ∈ bL B) (hk : (bl_w t h a B Z)[k]? = some (y, bl_tf B y)) : (bl_w t h a B Z).set k (y, e) = bl_w t h a B' Z := by
  have h1 : (bl_w t h a B Z).set k (y, e) = bl_x t h a B Z ++ va_pl (bL B) (va_up (bl_tf B) y e) := va_pl_set hD hy hk
  rw [h1, va_pl_congr hf]
  unfold bl_w
  rw [hL, hx]
theorem bl_push {t : bx_T} {h : Nat} {a : Nat → Nat} {B B' : bl_S} {Z : va_W} {q : Nat} {e : va_E} (hL : bL B' = bL B ++ [q]) (hx : bl_x t h a B' Z = bl_x t h a B Z) (hf : ∀ j, va_up (bl_tf B) q e j = bl_tf B' j) (hq : q ∉ bL B) : bl_w t h a B Z ++ [(q, e)] = bl_w t h a B' Z := by
  unfold bl_w
  rw [List.append_assoc, va_pl_push hq, va_pl_congr hf, hL, hx]
theorem bl_fv {B : bl_S} {f y : Nat} {x : Int32} {e : va_E} (he : bl_tf (bl_v B f y x) y = e) : ∀ j, va_up (bl_tf B) y e j = bl_tf (bl_v B f y x) j := by
  intro j
  by_cases hj : j = y
  · subst hj; rw [va_up_self, he]
  · rw [va_up_ne _ _ hj]
    have h1 : ∀ g, bV (bl_v B f y x) g j = bV B g j := by
      intro g
      show va_up (bV B) f (va_up (bV B f) y x) g j = _
      by_cases hg : g = f
      · subst hg; rw [va_up_self, va_up_ne _ _ hj]
      · rw [va_up_ne _ _ hg]
    unfold bl_tf
    rw [h1, h1, h1, h1, h1]
    rfl
theorem bl_vs {B : bl_S} {f y : Nat} {x : Int32} : bV (bl_v B f y x) f y = x := by
  show va_up (bV B) f (va_up (bV B f) y x) f y = _
  rw [va_up_self, va_up_self]
theorem bl_vn {B : bl_S} {f g y : Nat} {x : Int32} (h : g ≠ f) : bV (bl_v B f y x) g y = bV B g y := by
  show va_up (bV B) f (va_up (bV B f) y x) g y = _
  rw [va_up_ne _ _ h]
theorem bl_fc {B : bl_S} {y : Nat} {o : Option Nat} {e : va_E} (he : bl_tf (bl_c B y o) y = e) : ∀ j, va_up (bl_tf B) y e j = bl_tf (bl_c B y o) j := by
  intro j
  by_cases hj : j = y
  · subst hj; rw [va_up_self, he]
  · rw [va_up_ne _ _ hj]
    have h1 : bC (bl_c B y o) j = bC B j := va_up_ne _ _ hj
    unfold bl_tf
    rw [h1]
    rfl
theorem bl_cs {B : bl_S} {y : Nat} {o : Option Nat} : bC (bl_c B y o) y = o := va_up_self _ _ _
theorem bl_fn {B : bl_S} {q kd : Nat} {e : va_E} (he : bl_tf (bl_n B q kd) q = e) : ∀ j, va_up (bl_tf B) q e j = bl_tf (bl_n B q kd) j := by
  intro j
  by_cases hj : j = q
  · subst hj; rw [va_up_self, he]
  · rw [va_up_ne _ _ hj]
    have h1 : ∀ g, bV (bl_n B q kd) g j = bV B g j := fun g => va_up_ne _ _ hj
    have h2 : bK (bl_n B q kd) j = bK B j := va_up_ne _ _ hj
    have h3 : bC (bl_n B q kd) j = bC B j := va_up_ne _ _ hj
    unfold bl_tf
    rw [h1, h1, h1, h1, h1, h2, h3]
theorem bl_nk {B : bl_S} {q kd : Nat} : bK (bl_n B q kd) q = kd := va_up_self _ _ _
theorem bl_nv {B : bl_S} {q kd f : Nat} : bV (bl_n B q kd) f q = 0 := va_up_self _ _ _
theorem bl_nc {B : bl_S} {q kd : Nat} : bC (bl_n B q kd) q = none := va_up_self _ _ _
/-- what holds of the class's state between calls -/
def bl_I (B : bl_S) : Prop := (∀ i, i < 10 → ∀ y, bR B 0 i = some y → y ∈ bL B) ∧ (∀ i, i < 12 → ∀ y, bR B 1 i = some y → y ∈ bL B ∧ ¬ bK B y = 3) ∧ ∀ y, y ∈ bL B → ∀ z, bC B y = some z → z ∈ bL B ∧ bK B z = 3
section BLR
variable {p : Program} {l : Launch} {e : Env} {R : Room} {s : State} {m : MethodId} {args : Array Value} {below : List Frame} {meth : Method} {c : Code} {H : Heap} {locs : List Loc} {cells slots : Nat} {Q : State → Prop}
variable {cc : ByteArray} {nL index pc : Nat} {Ts : List Cond} {own ref : String} {D : va_G} {t : bx_T} {A : Nat → Prop} {ls : Array Slot} {rest : List Value} {h : Nat} {a : Nat → Nat} {B : bl_S} {Z : va_W} {y : Nat}
theorem bl_recv (E : bx_E p m c cc nL s args Ts own D t A) (hM : bx_M D A s (bl_w t h a B Z) H locs) : ∃ cell : Cell, H[h]? = some cell ∧ cell.vm.isStatics = false ∧ s.vm.findClass RX4 = some cell.cls := va_recv E.2.1.1 hM.1 (ci := 3) (q0 := 0) rfl rfl
theorem bl_recv3 (E : bx_E p m c cc nL s args Ts own D t A) (hM : bx_M D A s (bl_w t h a B Z) H locs) (hy : y ∈ bL B) (hk : bK B y = 3) : ∃ cell : Cell, H[y]? = some cell ∧ cell.vm.isStatics = false ∧ s.vm.findClass RX1 = some cell.cls := by
  obtain ⟨k, hk'⟩ := bl_th (t := t) (h := h) (a := a) (Z := Z) hy
  rw [bl_tf3 hk] at hk'
  exact va_recv E.2.1.1 hM.1 (ci := 1) (q0 := k) rfl hk'
theorem bl_recv2 (E : bx_E p m c cc nL s args Ts own D t A) (hM : bx_M D A s (bl_w t h a B Z) H locs) (hy : y ∈ bL B) (hk : bK B y = 2) : ∃ cell : Cell, H[y]? = some cell ∧ cell.vm.isStatics = false ∧ s.vm.findClass RX2 = some cell.cls := by
  obtain ⟨k, hk'⟩ := bl_th (t := t) (h := h) (a := a) (Z := Z) hy
  rw [bl_tf2 (by rw [hk]; decide) hk] at hk'
  exact va_recv E.2.1.1 hM.1 (ci := 2) (q0 := k) rfl hk'
theorem bl_recv1 (E : bx_E p m c cc nL s args Ts own D t A) (hM : bx_M D A s (bl_w t h a B Z) H locs) (hy : y ∈ bL B) (hk : ¬ bK B y = 3) (hk2 : ¬ bK B y = 2) : ∃ cell : Cell, H[y]? = some cell ∧ cell.vm.isStatics = false ∧ s.vm.findClass RX0 = some cell.cls := by
  obtain ⟨k, hk'⟩ := bl_th (t := t) (h := h) (a := a) (Z := Z) hy
  rw [bl_tf1 hk hk2] at hk'
  exact va_recv E.2.1.1 hM.1 (ci := 0) (q0 := k) rfl hk'
theorem bl_get (E : bx_E p m c cc nL s args Ts RX4 D t A) (hin : ∀ w ∈ wsX40, w ∈ Ts) (hM : bx_M D A s (bl_w t h a B Z) H locs) (k : Nat) (hk : k < 11) (hlink : Cond.fieldLink RX4 index (TX4 k).1 (TX4 k).2.1 (TX4 k).2.2.1 ∈ Ts) {v : Value} (hv : (bl_fs a B)[k]? = some v) (hdg : decode cc pc = .ok (.getfield index, 3))
    (kk : W p l e R s m args below meth c H locs cells slots Q (F0 m (pc + 3) ls (v :: rest))) : W p l e R s m args below meth c H locs cells slots Q (F0 m pc ls (.ref h :: rest)) :=
  va_get (D := D) (ci := 3) (v := v) (C := RX4) (T := TX4) (N := 11) E.1.1 E.1.2.1 E.1.2.2.2.2 hin E.1.2.2.2.1 E.2.1.1 hM.1 0 rfl rfl k hk (E.1.2.2.2.2 _ hlink) (fun _ h9 => h9) hv hdg kk
theorem bl_put {v : Int32} {B' : bl_S} (E : bx_E p m c cc nL s args Ts RX4 D t A) (hin : ∀ w ∈ wsX40, w ∈ Ts) (hM : bx_M D A s (bl_w t h a B Z) H locs) (k : Nat) (hk : k < 11) (hlink : Cond.fieldLink RX4 index (TX4 k).1 (TX4 k).2.1 (TX4 k).2.2.1 ∈ Ts) (hfin : (TX4 k).2.2.2 = false) (hn : narrow (tyX4 k) (.int v) = .int v) (hft : fits (tyX4 k) (.int v) = true) (hS' : (bl_w t h a B Z).set 0 (h, .inr (3, (bl_fs a B).set k (.int v))) = bl_w t h a B' Z) (hdg : decode cc pc = .ok (.putfield index, 3))
    (kk : ∀ (H1 : Heap) (locs1 : List Loc), bx_M D A s (bl_w t h a B' Z) H1 locs1 → W p l e R s m args below meth c H1 locs1 cells slots Q (F0 m (pc + 3) ls rest)) : W p l e R s m args below meth c H locs cells slots Q (F0 m pc ls (.int v :: .ref h :: rest)) :=
  va_put (D := D) (ci := 3) (v := .int v) (ty := tyX4 k) (C := RX4) (T := TX4) (N := 11) E.1.1 E.1.2.1 E.1.2.2.2.2 hin tyX4 tyX4_ok nmX4 E.1.2.2.2.1 E.2.1.1 hM.1 hM.2.1 hM.2.2 0 rfl rfl k hk (E.1.2.2.2.2 _ hlink) (fun _ h9 => h9) hfin (tyX4_ok k hk) hn hft (show k < 11 from hk) hdg (fun H1 locs1 h1 h2 h3 => kk H1 locs1 ⟨hS' ▸ h1, hS' ▸ h2, h3⟩)
theorem bl_ald (E : bx_E p m c cc nL s args Ts own D t A) (hM : bx_M D A s (bl_w t h a B Z) H locs) (k : Nat) (hk : k < 3) {i : Int32} (hin : vp_in i (bl_len k)) (hdg : decode cc pc = .ok (.iaload, 1))
    (kk : W p l e R s m args below meth c H locs cells slots Q (F0 m (pc + 1) ls (.int (B.1 k i.toNatClampNeg) :: rest))) : W p l e R s m args below meth c H locs cells slots Q (F0 m pc ls (.int i :: .ref (a (k + 2)) :: rest)) :=
  va_iald E.1.1 E.1.2.1 E.2.1.1 hM.1 (k + 3) 0 (bl_at t h a B Z k hk) rfl hin hdg kk
theorem bl_ast (E : bx_E p m c cc nL s args Ts own D t A) (hM : bx_M D A s (bl_w t h a B Z) H locs) (k : Nat) (hk : k < 3) {i x : Int32} (hin : vp_in i (bl_len k)) (hdg : decode cc pc = .ok (.iastore, 1))
    (kk : ∀ (H1 : Heap) (locs1 : List Loc), bx_M D A s (bl_w t h a (bl_ai B k i.toNatClampNeg x) Z) H1 locs1 → W p l e R s m args below meth c H1 locs1 cells slots Q (F0 m (pc + 1) ls rest)) : W p l e R s m args below meth c H locs cells slots Q (F0 m pc ls (.int x :: .int i :: .ref (a (k + 2)) :: rest)) :=
  va_iast E.1.1 E.1.2.1 E.2.1.1 hM.1 hM.2.1 hM.2.2 (k + 3) 0 (bl_at t h a B Z k hk) rfl hin hdg (fun H1 locs1 h1 h2 h3 => kk H1 locs1 ⟨bl_set t h a B Z _ k hk ▸ h1, bl_set t h a B Z _ k hk ▸ h2, h3⟩)
theorem bl_len0 (E : bx_E p m c cc nL s args Ts own D t A) (hM : bx_M D A s (bl_w t h a B Z) H locs) (k : Nat) (hk : k < 3) {v : Int32} (hv : Int32.ofNat (bl_len k) = v) (hdg : decode cc pc = .ok (.arraylength, 1))
    (kk : W p l e R s m args below meth c H locs cells slots Q (F0 m (pc + 1) ls (.int v :: rest))) : W p l e R s m args below meth c H locs cells slots Q (F0 m pc ls (.ref (a (k + 2)) :: rest)) :=
  va_alen E.1.1 E.1.2.1 E.2.1.1 hM.1 (k + 3) 0 (bl_at t h a B Z k hk) (ty := .int) rfl hv hdg kk
theorem bl_len1 (E : bx_E p m c cc nL s args Ts own D t A) (hM : bx_M D A s (bl_w t h a B Z) H locs) (hdg : decode cc pc = .ok (.arraylength, 1))
    (kk : W p l e R s m args below meth c H locs cells slots Q (F0 m (pc + 1) ls (.int 12 :: rest))) : W p l e R s m args below meth c H locs cells slots Q (F0 m pc ls (.ref (a 1) :: rest)) :=
  va_alen (x := (bl_rl 1, .inr (.inr (.inr (.inr (bR B 1)))))) E.1.1 E.1.2.1 E.2.1.1 hM.1 2 2 rfl (ty := .object RX0) rfl rfl hdg kk
/-- a hook is read: it holds nothing, or a thing -/
theorem bl_hk (E : bx_E p m c cc nL s args Ts own D t A) (hM : bx_M D A s (bl_w t h a B Z) H locs) {i : Int32} (hin : vp_in i 10) (hdg : decode cc pc = .ok (.aaload, 1))
    (kn : bR B 0 i.toNatClampNeg = none → W p l e R s m args below meth c H locs cells slots Q (F0 m (pc + 1) ls (.null :: rest))) (ks : ∀ y : Nat, bR B 0 i.toNatClampNeg = some y → W p l e R s m args below meth c H locs cells slots Q (F0 m (pc + 1) ls (.ref y :: rest))) : W p l e R s m args below meth c H locs cells slots Q (F0 m pc ls (.int i :: .ref (a 0) :: rest)) := by
  refine va_aldq E.1.1 E.1.2.1 E.2.1.1 hM.1 1 1 (f := bR B 0) (n := 10) (C := RX3) (cA := t.2.1) rfl rfl hin hdg ?_
  rcases hq : bR B 0 i.toNatClampNeg with _ | y
  · exact kn hq
  · exact ks y hq
theorem bl_pl (E : bx_E p m c cc nL s args Ts own D t A) (hM : bx_M D A s (bl_w t h a B Z) H locs) {i : Int32} (hin : vp_in i 12) (hdg : decode cc pc = .ok (.aaload, 1))
    (kn : bR B 1 i.toNatClampNeg = none → W p l e R s m args below meth c H locs cells slots Q (F0 m (pc + 1) ls (.null :: rest))) (ks : ∀ y : Nat, bR B 1 i.toNatClampNeg = some y → W p l e R s m args below meth c H locs cells slots Q (F0 m (pc + 1) ls (.ref y :: rest))) : W p l e R s m args below meth c H locs cells slots Q (F0 m pc ls (.int i :: .ref (a 1) :: rest)) := by
  refine va_aldq E.1.1 E.1.2.1 E.2.1.1 hM.1 2 2 (f := bR B 1) (n := 12) (C := RX0) (cA := t.2.2) rfl rfl hin hdg ?_
  rcases hq : bR B 1 i.toNatClampNeg with _ | y
  · exact kn hq
  · exact ks y hq
theorem bl_hkN (E : bx_E p m c cc nL s args Ts own D t A) (hM : bx_M D A s (bl_w t h a B Z) H locs) {i : Int32} (hin : vp_in i 10) (hdg : decode cc pc = .ok (.aastore, 1))
    (kk : ∀ (H1 : Heap) (locs1 : List Loc), bx_M D A s (bl_w t h a (bl_ri B 0 i.toNatClampNeg none) Z) H1 locs1 → W p l e R s m args below meth c H1 locs1 cells slots Q (F0 m (pc + 1) ls rest)) : W p l e R s m args below meth c H locs cells slots Q (F0 m pc ls (.null :: .int i :: .ref (a 0) :: rest)) :=
  va_astqN E.1.1 E.1.2.1 E.2.1.1 hM.1 hM.2.1 hM.2.2 1 1 (f := bR B 0) (n := 10) (C := RX3) (cA := t.2.1) rfl rfl hin hdg (fun H1 locs1 h1 h2 h3 => kk H1 locs1 ⟨h1, h2, h3⟩)
theorem bl_plN (E : bx_E p m c cc nL s args Ts own D t A) (hM : bx_M D A s (bl_w t h a B Z) H locs) {i : Int32} (hin : vp_in i 12) (hdg : decode cc pc = .ok (.aastore, 1))
    (kk : ∀ (H1 : Heap) (locs1 : List Loc), bx_M D A s (bl_w t h a (bl_ri B 1 i.toNatClampNeg none) Z) H1 locs1 → W p l e R s m args below meth c H1 locs1 cells slots Q (F0 m (pc + 1) ls rest)) : W p l e R s m args below meth c H locs cells slots Q (F0 m pc ls (.null :: .int i :: .ref (a 1) :: rest)) :=
  va_astqN E.1.1 E.1.2.1 E.2.1.1 hM.1 hM.2.1 hM.2.2 2 2 (f := bR B 1) (n := 12) (C := RX0) (cA := t.2.2) rfl rfl hin hdg (fun H1 locs1 h1 h2 h3 => kk H1 locs1 ⟨h1, h2, h3⟩)
theorem bl_hkS (E : bx_E p m c cc nL s args Ts own D t A) (hM : bx_M D A s (bl_w t h a B Z) H locs) (hy : y ∈ bL B) {i : Int32} (hin : vp_in i 10) (hdg : decode cc pc = .ok (.aastore, 1))
    (kk : ∀ (H1 : Heap) (locs1 : List Loc), bx_M D A s (bl_w t h a (bl_ri B 0 i.toNatClampNeg (some y)) Z) H1 locs1 → W p l e R s m args below meth c H1 locs1 cells slots Q (F0 m (pc + 1) ls rest)) : W p l e R s m args below meth c H locs cells slots Q (F0 m pc ls (.ref y :: .int i :: .ref (a 0) :: rest)) := by
  obtain ⟨k, hk'⟩ := bl_th (t := t) (h := h) (a := a) (Z := Z) hy
  by_cases h3 : bK B y = 3
  · rw [bl_tf3 h3] at hk'
    exact va_astqO E.1.1 E.1.2.1 E.2.1.1 hM.1 hM.2.1 hM.2.2 1 1 k 1 (f := bR B 0) (n := 10) (E := RX3) (cA := t.2.1) (r := (RX1, TX1, 2)) rfl rfl E.2.1.2.2.2.2.1 hk' rfl hin hdg (fun H1 locs1 h1 h2 h3 => kk H1 locs1 ⟨h1, h2, h3⟩)
  · by_cases h2 : bK B y = 2
    · rw [bl_tf2 h3 h2] at hk'
      exact va_astqO E.1.1 E.1.2.1 E.2.1.1 hM.1 hM.2.1 hM.2.2 1 1 k 2 (f := bR B 0) (n := 10) (E := RX3) (cA := t.2.1) (r := (RX2, TX2, 5)) rfl rfl E.2.1.2.2.2.2.2.2.2.1 hk' rfl hin hdg (fun H1 locs1 h1 h2 h3 => kk H1 locs1 ⟨h1, h2, h3⟩)
    · rw [bl_tf1 h3 h2] at hk'
      exact va_astqO E.1.1 E.1.2.1 E.2.1.1 hM.1 hM.2.1 hM.2.2 1 1 k 0 (f := bR B 0) (n := 10) (E := RX3) (cA := t.2.1) (r := (RX0, TX0, 4)) rfl rfl E.2.1.2.2.1 hk' rfl hin hdg (fun H1 locs1 h1 h2 h3 => kk H1 locs1 ⟨h1, h2, h3⟩)
theorem bl_plS (E : bx_E p m c cc nL s args Ts own D t A) (hM : bx_M D A s (bl_w t h a B Z) H locs) (hy : y ∈ bL B) (h3 : ¬ bK B y = 3) {i : Int32} (hin : vp_in i 12) (hdg : decode cc pc = .ok (.aastore, 1))
    (kk : ∀ (H1 : Heap) (locs1 : List Loc), bx_M D A s (bl_w t h a (bl_ri B 1 i.toNatClampNeg (some y)) Z) H1 locs1 → W p l e R s m args below meth c H1 locs1 cells slots Q (F0 m (pc + 1) ls rest)) : W p l e R s m args below meth c H locs cells slots Q (F0 m pc ls (.ref y :: .int i :: .ref (a 1) :: rest)) := by
  obtain ⟨k, hk'⟩ := bl_th (t := t) (h := h) (a := a) (Z := Z) hy
  by_cases h2 : bK B y = 2
  · rw [bl_tf2 h3 h2] at hk'
    exact va_astqO E.1.1 E.1.2.1 E.2.1.1 hM.1 hM.2.1 hM.2.2 2 2 k 2 (f := bR B 1) (n := 12) (E := RX0) (cA := t.2.2) (r := (RX2, TX2, 5)) rfl rfl E.2.1.2.2.2.2.2.1 hk' rfl hin hdg (fun H1 locs1 h1 h2 h3 => kk H1 locs1 ⟨h1, h2, h3⟩)
  · rw [bl_tf1 h3 h2] at hk'
    exact va_astqO E.1.1 E.1.2.1 E.2.1.1 hM.1 hM.2.1 hM.2.2 2 2 k 0 (f := bR B 1) (n := 12) (E := RX0) (cA := t.2.2) (r := (RX0, TX0, 4)) rfl rfl E.2.1.2.1 hk' rfl hin hdg (fun H1 locs1 h1 h2 h3 => kk H1 locs1 ⟨h1, h2, h3⟩)
theorem bl_gW (E : bx_E p m c cc nL s args Ts own D t A) (h0 : ∀ w ∈ wsX00, w ∈ Ts) (h1 : ∀ w ∈ wsX10, w ∈ Ts) (h2 : ∀ w ∈ wsX20, w ∈ Ts) (hM : bx_M D A s (bl_w t h a B Z) H locs) (hy : y ∈ bL B)  (hlink : Cond.fieldLink own index ref "weight" "I" ∈ Ts) (hsame : ∀ x, s.fieldFound? RX3 "weight" "I" = some x → s.fieldFound? ref "weight" "I" = some x) (hdg : decode cc pc = .ok (.getfield index, 3))
    (kk : W p l e R s m args below meth c H locs cells slots Q (F0 m (pc + 3) ls (.int (bV B 0 y) :: rest))) : W p l e R s m args below meth c H locs cells slots Q (F0 m pc ls (.ref y :: rest)) := by
  obtain ⟨k, hk'⟩ := bl_th (t := t) (h := h) (a := a) (Z := Z) hy
  by_cases hk : bK B y = 3
  · rw [bl_tf3 hk] at hk'
    exact va_get (D := D) (ci := 1) (v := .int (bV B 0 y)) (C := RX1) (T := TX1) (N := 2) E.1.1 E.1.2.1 E.1.2.2.2.2 h1 E.1.2.2.2.1 E.2.1.1 hM.1 k hk' rfl 0 (by decide) (E.1.2.2.2.2 _ hlink) hsame rfl hdg kk
  by_cases q2 : bK B y = 2
  · rw [bl_tf2 hk q2] at hk'
    exact va_get (D := D) (ci := 2) (v := .int (bV B 0 y)) (C := RX2) (T := TX2) (N := 5) E.1.1 E.1.2.1 E.1.2.2.2.2 h2 E.1.2.2.2.1 E.2.1.1 hM.1 k hk' rfl 3 (by decide) (E.1.2.2.2.2 _ hlink) hsame rfl hdg kk
  · rw [bl_tf1 hk q2] at hk'
    exact va_get (D := D) (ci := 0) (v := .int (bV B 0 y)) (C := RX0) (T := TX0) (N := 4) E.1.1 E.1.2.1 E.1.2.2.2.2 h0 E.1.2.2.2.1 E.2.1.1 hM.1 k hk' rfl 0 (by decide) (E.1.2.2.2.2 _ hlink) hsame rfl hdg kk

theorem bl_gWb (E : bx_E p m c cc nL s args Ts own D t A) (h0 : ∀ w ∈ wsX00, w ∈ Ts) (h2 : ∀ w ∈ wsX20, w ∈ Ts) (hM : bx_M D A s (bl_w t h a B Z) H locs) (hy : y ∈ bL B) (hk : ¬ bK B y = 3) (hlink : Cond.fieldLink own index ref "weight" "I" ∈ Ts) (hsame : ∀ x, s.fieldFound? RX3 "weight" "I" = some x → s.fieldFound? ref "weight" "I" = some x) (hdg : decode cc pc = .ok (.getfield index, 3))
    (kk : W p l e R s m args below meth c H locs cells slots Q (F0 m (pc + 3) ls (.int (bV B 0 y) :: rest))) : W p l e R s m args below meth c H locs cells slots Q (F0 m pc ls (.ref y :: rest)) := by
  obtain ⟨k, hk'⟩ := bl_th (t := t) (h := h) (a := a) (Z := Z) hy
  by_cases q2 : bK B y = 2
  · rw [bl_tf2 hk q2] at hk'
    exact va_get (D := D) (ci := 2) (v := .int (bV B 0 y)) (C := RX2) (T := TX2) (N := 5) E.1.1 E.1.2.1 E.1.2.2.2.2 h2 E.1.2.2.2.1 E.2.1.1 hM.1 k hk' rfl 3 (by decide) (E.1.2.2.2.2 _ hlink) hsame rfl hdg kk
  · rw [bl_tf1 hk q2] at hk'
    exact va_get (D := D) (ci := 0) (v := .int (bV B 0 y)) (C := RX0) (T := TX0) (N := 4) E.1.1 E.1.2.1 E.1.2.2.2.2 h0 E.1.2.2.2.1 E.2.1.1 hM.1 k hk' rfl 0 (by decide) (E.1.2.2.2.2 _ hlink) hsame rfl hdg kk

theorem bl_gWc (E : bx_E p m c cc nL s args Ts own D t A) (h1 : ∀ w ∈ wsX10, w ∈ Ts) (hM : bx_M D A s (bl_w t h a B Z) H locs) (hy : y ∈ bL B) (hk : bK B y = 3) (hlink : Cond.fieldLink own index ref "weight" "I" ∈ Ts) (hsame : ∀ x, s.fieldFound? RX3 "weight" "I" = some x → s.fieldFound? ref "weight" "I" = some x) (hdg : decode cc pc = .ok (.getfield index, 3))
    (kk : W p l e R s m args below meth c H locs cells slots Q (F0 m (pc + 3) ls (.int (bV B 0 y) :: rest))) : W p l e R s m args below meth c H locs cells slots Q (F0 m pc ls (.ref y :: rest)) := by
  obtain ⟨k, hk'⟩ := bl_th (t := t) (h := h) (a := a) (Z := Z) hy
  rw [bl_tf3 hk] at hk'
  exact va_get (D := D) (ci := 1) (v := .int (bV B 0 y)) (C := RX1) (T := TX1) (N := 2) E.1.1 E.1.2.1 E.1.2.2.2.2 h1 E.1.2.2.2.1 E.2.1.1 hM.1 k hk' rfl 0 (by decide) (E.1.2.2.2.2 _ hlink) hsame rfl hdg kk

theorem bl_gS (E : bx_E p m c cc nL s args Ts own D t A) (h0 : ∀ w ∈ wsX00, w ∈ Ts) (h2 : ∀ w ∈ wsX20, w ∈ Ts) (hM : bx_M D A s (bl_w t h a B Z) H locs) (hy : y ∈ bL B) (hk : ¬ bK B y = 3) (hlink : Cond.fieldLink own index ref "strokes" "I" ∈ Ts) (hsame : ∀ x, s.fieldFound? RX0 "strokes" "I" = some x → s.fieldFound? ref "strokes" "I" = some x) (hdg : decode cc pc = .ok (.getfield index, 3))
    (kk : W p l e R s m args below meth c H locs cells slots Q (F0 m (pc + 3) ls (.int (bV B 1 y) :: rest))) : W p l e R s m args below meth c H locs cells slots Q (F0 m pc ls (.ref y :: rest)) := by
  obtain ⟨k, hk'⟩ := bl_th (t := t) (h := h) (a := a) (Z := Z) hy
  by_cases q2 : bK B y = 2
  · rw [bl_tf2 hk q2] at hk'
    exact va_get (D := D) (ci := 2) (v := .int (bV B 1 y)) (C := RX2) (T := TX2) (N := 5) E.1.1 E.1.2.1 E.1.2.2.2.2 h2 E.1.2.2.2.1 E.2.1.1 hM.1 k hk' rfl 0 (by decide) (E.1.2.2.2.2 _ hlink) hsame rfl hdg kk
  · rw [bl_tf1 hk q2] at hk'
    exact va_get (D := D) (ci := 0) (v := .int (bV B 1 y)) (C := RX0) (T := TX0) (N := 4) E.1.1 E.1.2.1 E.1.2.2.2.2 h0 E.1.2.2.2.1 E.2.1.1 hM.1 k hk' rfl 1 (by decide) (E.1.2.2.2.2 _ hlink) hsame rfl hdg kk

theorem bl_gA (E : bx_E p m c cc nL s args Ts own D t A) (h0 : ∀ w ∈ wsX00, w ∈ Ts) (h2 : ∀ w ∈ wsX20, w ∈ Ts) (hM : bx_M D A s (bl_w t h a B Z) H locs) (hy : y ∈ bL B) (hk : ¬ bK B y = 3) (hlink : Cond.fieldLink own index ref "alarmLevel" "I" ∈ Ts) (hsame : ∀ x, s.fieldFound? RX0 "alarmLevel" "I" = some x → s.fieldFound? ref "alarmLevel" "I" = some x) (hdg : decode cc pc = .ok (.getfield index, 3))
    (kk : W p l e R s m args below meth c H locs cells slots Q (F0 m (pc + 3) ls (.int (bV B 2 y) :: rest))) : W p l e R s m args below meth c H locs cells slots Q (F0 m pc ls (.ref y :: rest)) := by
  obtain ⟨k, hk'⟩ := bl_th (t := t) (h := h) (a := a) (Z := Z) hy
  by_cases q2 : bK B y = 2
  · rw [bl_tf2 hk q2] at hk'
    exact va_get (D := D) (ci := 2) (v := .int (bV B 2 y)) (C := RX2) (T := TX2) (N := 5) E.1.1 E.1.2.1 E.1.2.2.2.2 h2 E.1.2.2.2.1 E.2.1.1 hM.1 k hk' rfl 2 (by decide) (E.1.2.2.2.2 _ hlink) hsame rfl hdg kk
  · rw [bl_tf1 hk q2] at hk'
    exact va_get (D := D) (ci := 0) (v := .int (bV B 2 y)) (C := RX0) (T := TX0) (N := 4) E.1.1 E.1.2.1 E.1.2.2.2.2 h0 E.1.2.2.2.1 E.2.1.1 hM.1 k hk' rfl 3 (by decide) (E.1.2.2.2.2 _ hlink) hsame rfl hdg kk

theorem bl_gC (E : bx_E p m c cc nL s args Ts own D t A) (h0 : ∀ w ∈ wsX00, w ∈ Ts) (h2 : ∀ w ∈ wsX20, w ∈ Ts) (hM : bx_M D A s (bl_w t h a B Z) H locs) (hy : y ∈ bL B) (hk : ¬ bK B y = 3) (hlink : Cond.fieldLink own index ref "clapper" "LBellLoft$Clapper;" ∈ Ts) (hsame : ∀ x, s.fieldFound? RX0 "clapper" "LBellLoft$Clapper;" = some x → s.fieldFound? ref "clapper" "LBellLoft$Clapper;" = some x) (hdg : decode cc pc = .ok (.getfield index, 3))
    (kn : bC B y = none → W p l e R s m args below meth c H locs cells slots Q (F0 m (pc + 3) ls (.null :: rest))) (ks : ∀ z : Nat, bC B y = some z → W p l e R s m args below meth c H locs cells slots Q (F0 m (pc + 3) ls (.ref z :: rest))) : W p l e R s m args below meth c H locs cells slots Q (F0 m pc ls (.ref y :: rest)) := by
  obtain ⟨k, hk'⟩ := bl_th (t := t) (h := h) (a := a) (Z := Z) hy
  by_cases q2 : bK B y = 2
  · rw [bl_tf2 hk q2] at hk'
    refine va_get (D := D) (ci := 2) (v := va_rf (bC B y)) (C := RX2) (T := TX2) (N := 5) E.1.1 E.1.2.1 E.1.2.2.2.2 h2 E.1.2.2.2.1 E.2.1.1 hM.1 k hk' rfl 1 (by decide) (E.1.2.2.2.2 _ hlink) hsame rfl hdg ?_
    rcases hq : bC B y with _ | z
    · exact kn hq
    · exact ks z hq
  · rw [bl_tf1 hk q2] at hk'
    refine va_get (D := D) (ci := 0) (v := va_rf (bC B y)) (C := RX0) (T := TX0) (N := 4) E.1.1 E.1.2.1 E.1.2.2.2.2 h0 E.1.2.2.2.1 E.2.1.1 hM.1 k hk' rfl 2 (by decide) (E.1.2.2.2.2 _ hlink) hsame rfl hdg ?_
    rcases hq : bC B y with _ | z
    · exact kn hq
    · exact ks z hq

theorem bl_gH (E : bx_E p m c cc nL s args Ts own D t A) (h2 : ∀ w ∈ wsX20, w ∈ Ts) (hM : bx_M D A s (bl_w t h a B Z) H locs) (hy : y ∈ bL B) (hk : bK B y = 2) (hlink : Cond.fieldLink own index ref "hum" "I" ∈ Ts) (hsame : ∀ x, s.fieldFound? RX2 "hum" "I" = some x → s.fieldFound? ref "hum" "I" = some x) (hdg : decode cc pc = .ok (.getfield index, 3))
    (kk : W p l e R s m args below meth c H locs cells slots Q (F0 m (pc + 3) ls (.int (bV B 3 y) :: rest))) : W p l e R s m args below meth c H locs cells slots Q (F0 m pc ls (.ref y :: rest)) := by
  obtain ⟨k, hk'⟩ := bl_th (t := t) (h := h) (a := a) (Z := Z) hy
  have hk3 : ¬ bK B y = 3 := by rw [hk]; decide
  rw [bl_tf2 hk3 hk] at hk'
  exact va_get (D := D) (ci := 2) (v := .int (bV B 3 y)) (C := RX2) (T := TX2) (N := 5) E.1.1 E.1.2.1 E.1.2.2.2.2 h2 E.1.2.2.2.1 E.2.1.1 hM.1 k hk' rfl 4 (by decide) (E.1.2.2.2.2 _ hlink) hsame rfl hdg kk

theorem bl_gR (E : bx_E p m c cc nL s args Ts own D t A) (h1 : ∀ w ∈ wsX10, w ∈ Ts) (hM : bx_M D A s (bl_w t h a B Z) H locs) (hy : y ∈ bL B) (hk : bK B y = 3) (hlink : Cond.fieldLink own index ref "wear" "I" ∈ Ts) (hsame : ∀ x, s.fieldFound? RX1 "wear" "I" = some x → s.fieldFound? ref "wear" "I" = some x) (hdg : decode cc pc = .ok (.getfield index, 3))
    (kk : W p l e R s m args below meth c H locs cells slots Q (F0 m (pc + 3) ls (.int (bV B 4 y) :: rest))) : W p l e R s m args below meth c H locs cells slots Q (F0 m pc ls (.ref y :: rest)) := by
  obtain ⟨k, hk'⟩ := bl_th (t := t) (h := h) (a := a) (Z := Z) hy
  rw [bl_tf3 hk] at hk'
  exact va_get (D := D) (ci := 1) (v := .int (bV B 4 y)) (C := RX1) (T := TX1) (N := 2) E.1.1 E.1.2.1 E.1.2.2.2.2 h1 E.1.2.2.2.1 E.2.1.1 hM.1 k hk' rfl 1 (by decide) (E.1.2.2.2.2 _ hlink) hsame rfl hdg kk

theorem bl_pS (E : bx_E p m c cc nL s args Ts own D t A) (h0 : ∀ w ∈ wsX00, w ∈ Ts) (h2 : ∀ w ∈ wsX20, w ∈ Ts) (hM : bx_M D A s (bl_w t h a B Z) H locs) (hy : y ∈ bL B) (hk : ¬ bK B y = 3) (x : Int32) (hlink : Cond.fieldLink own index ref "strokes" "I" ∈ Ts) (hsame : ∀ x, s.fieldFound? RX0 "strokes" "I" = some x → s.fieldFound? ref "strokes" "I" = some x) (hdg : decode cc pc = .ok (.putfield index, 3))
    (kk : ∀ (H1 : Heap) (locs1 : List Loc), bx_M D A s (bl_w t h a (bl_v B 1 y x) Z) H1 locs1 → W p l e R s m args below meth c H1 locs1 cells slots Q (F0 m (pc + 3) ls rest)) : W p l e R s m args below meth c H locs cells slots Q (F0 m pc ls (.int x :: .ref y :: rest)) := by
  obtain ⟨k, hk'⟩ := bl_th (t := t) (h := h) (a := a) (Z := Z) hy
  by_cases q2 : bK B y = 2
  · have hk2 := hk'
    rw [bl_tf2 hk q2] at hk2
    refine va_put (D := D) (ci := 2) (v := .int x) (ty := .int) (C := RX2) (T := TX2) (N := 5) E.1.1 E.1.2.1 E.1.2.2.2.2 h2 tyX2 tyX2_ok nmX2 E.1.2.2.2.1 E.2.1.1 hM.1 hM.2.1 hM.2.2 k hk2 rfl 0 (by decide) (E.1.2.2.2.2 _ hlink) hsame rfl (by decide +kernel) rfl rfl (Nat.le_of_ble_eq_true rfl) hdg (fun H1 locs1 g1 g2 g3 => ?_)
    have eq := bl_upd (e := .inr (2, [.int x, va_rf (bC B y), .int (bV B 2 y), .int (bV B 0 y), .int (bV B 3 y)])) (t := t) (h := h) (a := a) (Z := Z) (B := B) (B' := bl_v B 1 y x) rfl rfl (bl_fv ((bl_tf2 (B := bl_v B 1 y x) hk q2).trans (by rw [bl_vs] <;> rfl))) hM.2.1 hy hk'
    exact kk H1 locs1 ⟨eq ▸ g1, eq ▸ g2, g3⟩
  · have hk2 := hk'
    rw [bl_tf1 hk q2] at hk2
    refine va_put (D := D) (ci := 0) (v := .int x) (ty := .int) (C := RX0) (T := TX0) (N := 4) E.1.1 E.1.2.1 E.1.2.2.2.2 h0 tyX0 tyX0_ok nmX0 E.1.2.2.2.1 E.2.1.1 hM.1 hM.2.1 hM.2.2 k hk2 rfl 1 (by decide) (E.1.2.2.2.2 _ hlink) hsame rfl (by decide +kernel) rfl rfl (Nat.le_of_ble_eq_true rfl) hdg (fun H1 locs1 g1 g2 g3 => ?_)
    have eq := bl_upd (e := .inr (0, [.int (bV B 0 y), .int x, va_rf (bC B y), .int (bV B 2 y)])) (t := t) (h := h) (a := a) (Z := Z) (B := B) (B' := bl_v B 1 y x) rfl rfl (bl_fv ((bl_tf1 (B := bl_v B 1 y x) hk q2).trans (by rw [bl_vs] <;> rfl))) hM.2.1 hy hk'
    exact kk H1 locs1 ⟨eq ▸ g1, eq ▸ g2, g3⟩

theorem bl_pA (E : bx_E p m c cc nL s args Ts own D t A) (h0 : ∀ w ∈ wsX00, w ∈ Ts) (h2 : ∀ w ∈ wsX20, w ∈ Ts) (hM : bx_M D A s (bl_w t h a B Z) H locs) (hy : y ∈ bL B) (hk : ¬ bK B y = 3) (x : Int32) (hlink : Cond.fieldLink own index ref "alarmLevel" "I" ∈ Ts) (hsame : ∀ x, s.fieldFound? RX0 "alarmLevel" "I" = some x → s.fieldFound? ref "alarmLevel" "I" = some x) (hdg : decode cc pc = .ok (.putfield index, 3))
    (kk : ∀ (H1 : Heap) (locs1 : List Loc), bx_M D A s (bl_w t h a (bl_v B 2 y x) Z) H1 locs1 → W p l e R s m args below meth c H1 locs1 cells slots Q (F0 m (pc + 3) ls rest)) : W p l e R s m args below meth c H locs cells slots Q (F0 m pc ls (.int x :: .ref y :: rest)) := by
  obtain ⟨k, hk'⟩ := bl_th (t := t) (h := h) (a := a) (Z := Z) hy
  by_cases q2 : bK B y = 2
  · have hk2 := hk'
    rw [bl_tf2 hk q2] at hk2
    refine va_put (D := D) (ci := 2) (v := .int x) (ty := .int) (C := RX2) (T := TX2) (N := 5) E.1.1 E.1.2.1 E.1.2.2.2.2 h2 tyX2 tyX2_ok nmX2 E.1.2.2.2.1 E.2.1.1 hM.1 hM.2.1 hM.2.2 k hk2 rfl 2 (by decide) (E.1.2.2.2.2 _ hlink) hsame rfl (by decide +kernel) rfl rfl (Nat.le_of_ble_eq_true rfl) hdg (fun H1 locs1 g1 g2 g3 => ?_)
    have eq := bl_upd (e := .inr (2, [.int (bV B 1 y), va_rf (bC B y), .int x, .int (bV B 0 y), .int (bV B 3 y)])) (t := t) (h := h) (a := a) (Z := Z) (B := B) (B' := bl_v B 2 y x) rfl rfl (bl_fv ((bl_tf2 (B := bl_v B 2 y x) hk q2).trans (by rw [bl_vs] <;> rfl))) hM.2.1 hy hk'
    exact kk H1 locs1 ⟨eq ▸ g1, eq ▸ g2, g3⟩
  · have hk2 := hk'
    rw [bl_tf1 hk q2] at hk2
    refine va_put (D := D) (ci := 0) (v := .int x) (ty := .int) (C := RX0) (T := TX0) (N := 4) E.1.1 E.1.2.1 E.1.2.2.2.2 h0 tyX0 tyX0_ok nmX0 E.1.2.2.2.1 E.2.1.1 hM.1 hM.2.1 hM.2.2 k hk2 rfl 3 (by decide) (E.1.2.2.2.2 _ hlink) hsame rfl (by decide +kernel) rfl rfl (Nat.le_of_ble_eq_true rfl) hdg (fun H1 locs1 g1 g2 g3 => ?_)
    have eq := bl_upd (e := .inr (0, [.int (bV B 0 y), .int (bV B 1 y), va_rf (bC B y), .int x])) (t := t) (h := h) (a := a) (Z := Z) (B := B) (B' := bl_v B 2 y x) rfl rfl (bl_fv ((bl_tf1 (B := bl_v B 2 y x) hk q2).trans (by rw [bl_vs] <;> rfl))) hM.2.1 hy hk'
    exact kk H1 locs1 ⟨eq ▸ g1, eq ▸ g2, g3⟩

theorem bl_pCn (E : bx_E p m c cc nL s args Ts own D t A) (h0 : ∀ w ∈ wsX00, w ∈ Ts) (h2 : ∀ w ∈ wsX20, w ∈ Ts) (hM : bx_M D A s (bl_w t h a B Z) H locs) (hy : y ∈ bL B) (hk : ¬ bK B y = 3) (hlink : Cond.fieldLink own index ref "clapper" "LBellLoft$Clapper;" ∈ Ts) (hsame : ∀ x, s.fieldFound? RX0 "clapper" "LBellLoft$Clapper;" = some x → s.fieldFound? ref "clapper" "LBellLoft$Clapper;" = some x) (hdg : decode cc pc = .ok (.putfield index, 3))
    (kk : ∀ (H1 : Heap) (locs1 : List Loc), bx_M D A s (bl_w t h a (bl_c B y none) Z) H1 locs1 → W p l e R s m args below meth c H1 locs1 cells slots Q (F0 m (pc + 3) ls rest)) : W p l e R s m args below meth c H locs cells slots Q (F0 m pc ls (.null :: .ref y :: rest)) := by
  obtain ⟨k, hk'⟩ := bl_th (t := t) (h := h) (a := a) (Z := Z) hy
  by_cases q2 : bK B y = 2
  · have hk2 := hk'
    rw [bl_tf2 hk q2] at hk2
    refine va_put (D := D) (ci := 2) (v := .null) (ty := .object "BellLoft$Clapper") (C := RX2) (T := TX2) (N := 5) E.1.1 E.1.2.1 E.1.2.2.2.2 h2 tyX2 tyX2_ok nmX2 E.1.2.2.2.1 E.2.1.1 hM.1 hM.2.1 hM.2.2 k hk2 rfl 1 (by decide) (E.1.2.2.2.2 _ hlink) hsame rfl (by decide +kernel) rfl rfl (Nat.le_of_ble_eq_true rfl) hdg (fun H1 locs1 g1 g2 g3 => ?_)
    have eq := bl_upd (e := .inr (2, [.int (bV B 1 y), .null, .int (bV B 2 y), .int (bV B 0 y), .int (bV B 3 y)])) (t := t) (h := h) (a := a) (Z := Z) (B := B) (B' := bl_c B y none) rfl rfl (bl_fc ((bl_tf2 (B := bl_c B y none) hk q2).trans (by rw [bl_cs] <;> rfl))) hM.2.1 hy hk'
    exact kk H1 locs1 ⟨eq ▸ g1, eq ▸ g2, g3⟩
  · have hk2 := hk'
    rw [bl_tf1 hk q2] at hk2
    refine va_put (D := D) (ci := 0) (v := .null) (ty := .object "BellLoft$Clapper") (C := RX0) (T := TX0) (N := 4) E.1.1 E.1.2.1 E.1.2.2.2.2 h0 tyX0 tyX0_ok nmX0 E.1.2.2.2.1 E.2.1.1 hM.1 hM.2.1 hM.2.2 k hk2 rfl 2 (by decide) (E.1.2.2.2.2 _ hlink) hsame rfl (by decide +kernel) rfl rfl (Nat.le_of_ble_eq_true rfl) hdg (fun H1 locs1 g1 g2 g3 => ?_)
    have eq := bl_upd (e := .inr (0, [.int (bV B 0 y), .int (bV B 1 y), .null, .int (bV B 2 y)])) (t := t) (h := h) (a := a) (Z := Z) (B := B) (B' := bl_c B y none) rfl rfl (bl_fc ((bl_tf1 (B := bl_c B y none) hk q2).trans (by rw [bl_cs] <;> rfl))) hM.2.1 hy hk'
    exact kk H1 locs1 ⟨eq ▸ g1, eq ▸ g2, g3⟩

theorem bl_pCs (E : bx_E p m c cc nL s args Ts own D t A) (h0 : ∀ w ∈ wsX00, w ∈ Ts) (h2 : ∀ w ∈ wsX20, w ∈ Ts) (hM : bx_M D A s (bl_w t h a B Z) H locs) (hy : y ∈ bL B) (hk : ¬ bK B y = 3) (z : Nat) (hlink : Cond.fieldLink own index ref "clapper" "LBellLoft$Clapper;" ∈ Ts) (hsame : ∀ x, s.fieldFound? RX0 "clapper" "LBellLoft$Clapper;" = some x → s.fieldFound? ref "clapper" "LBellLoft$Clapper;" = some x) (hdg : decode cc pc = .ok (.putfield index, 3))
    (kk : ∀ (H1 : Heap) (locs1 : List Loc), bx_M D A s (bl_w t h a (bl_c B y (some z)) Z) H1 locs1 → W p l e R s m args below meth c H1 locs1 cells slots Q (F0 m (pc + 3) ls rest)) : W p l e R s m args below meth c H locs cells slots Q (F0 m pc ls (.ref z :: .ref y :: rest)) := by
  obtain ⟨k, hk'⟩ := bl_th (t := t) (h := h) (a := a) (Z := Z) hy
  by_cases q2 : bK B y = 2
  · have hk2 := hk'
    rw [bl_tf2 hk q2] at hk2
    refine va_put (D := D) (ci := 2) (v := .ref z) (ty := .object "BellLoft$Clapper") (C := RX2) (T := TX2) (N := 5) E.1.1 E.1.2.1 E.1.2.2.2.2 h2 tyX2 tyX2_ok nmX2 E.1.2.2.2.1 E.2.1.1 hM.1 hM.2.1 hM.2.2 k hk2 rfl 1 (by decide) (E.1.2.2.2.2 _ hlink) hsame rfl (by decide +kernel) rfl rfl (Nat.le_of_ble_eq_true rfl) hdg (fun H1 locs1 g1 g2 g3 => ?_)
    have eq := bl_upd (e := .inr (2, [.int (bV B 1 y), .ref z, .int (bV B 2 y), .int (bV B 0 y), .int (bV B 3 y)])) (t := t) (h := h) (a := a) (Z := Z) (B := B) (B' := bl_c B y (some z)) rfl rfl (bl_fc ((bl_tf2 (B := bl_c B y (some z)) hk q2).trans (by rw [bl_cs] <;> rfl))) hM.2.1 hy hk'
    exact kk H1 locs1 ⟨eq ▸ g1, eq ▸ g2, g3⟩
  · have hk2 := hk'
    rw [bl_tf1 hk q2] at hk2
    refine va_put (D := D) (ci := 0) (v := .ref z) (ty := .object "BellLoft$Clapper") (C := RX0) (T := TX0) (N := 4) E.1.1 E.1.2.1 E.1.2.2.2.2 h0 tyX0 tyX0_ok nmX0 E.1.2.2.2.1 E.2.1.1 hM.1 hM.2.1 hM.2.2 k hk2 rfl 2 (by decide) (E.1.2.2.2.2 _ hlink) hsame rfl (by decide +kernel) rfl rfl (Nat.le_of_ble_eq_true rfl) hdg (fun H1 locs1 g1 g2 g3 => ?_)
    have eq := bl_upd (e := .inr (0, [.int (bV B 0 y), .int (bV B 1 y), .ref z, .int (bV B 2 y)])) (t := t) (h := h) (a := a) (Z := Z) (B := B) (B' := bl_c B y (some z)) rfl rfl (bl_fc ((bl_tf1 (B := bl_c B y (some z)) hk q2).trans (by rw [bl_cs] <;> rfl))) hM.2.1 hy hk'
    exact kk H1 locs1 ⟨eq ▸ g1, eq ▸ g2, g3⟩

theorem bl_pH (E : bx_E p m c cc nL s args Ts own D t A) (h2 : ∀ w ∈ wsX20, w ∈ Ts) (hM : bx_M D A s (bl_w t h a B Z) H locs) (hy : y ∈ bL B) (hk : bK B y = 2) (x : Int32) (hlink : Cond.fieldLink own index ref "hum" "I" ∈ Ts) (hsame : ∀ x, s.fieldFound? RX2 "hum" "I" = some x → s.fieldFound? ref "hum" "I" = some x) (hdg : decode cc pc = .ok (.putfield index, 3))
    (kk : ∀ (H1 : Heap) (locs1 : List Loc), bx_M D A s (bl_w t h a (bl_v B 3 y x) Z) H1 locs1 → W p l e R s m args below meth c H1 locs1 cells slots Q (F0 m (pc + 3) ls rest)) : W p l e R s m args below meth c H locs cells slots Q (F0 m pc ls (.int x :: .ref y :: rest)) := by
  obtain ⟨k, hk'⟩ := bl_th (t := t) (h := h) (a := a) (Z := Z) hy
  have hk3 : ¬ bK B y = 3 := by rw [hk]; decide
  have hk2 := hk'
  rw [bl_tf2 hk3 hk] at hk2
  refine va_put (D := D) (ci := 2) (v := .int x) (ty := .int) (C := RX2) (T := TX2) (N := 5) E.1.1 E.1.2.1 E.1.2.2.2.2 h2 tyX2 tyX2_ok nmX2 E.1.2.2.2.1 E.2.1.1 hM.1 hM.2.1 hM.2.2 k hk2 rfl 4 (by decide) (E.1.2.2.2.2 _ hlink) hsame rfl (by decide +kernel) rfl rfl (Nat.le_of_ble_eq_true rfl) hdg (fun H1 locs1 g1 g2 g3 => ?_)
  have eq := bl_upd (e := .inr (2, [.int (bV B 1 y), va_rf (bC B y), .int (bV B 2 y), .int (bV B 0 y), .int x])) (t := t) (h := h) (a := a) (Z := Z) (B := B) (B' := bl_v B 3 y x) rfl rfl (bl_fv ((bl_tf2 (B := bl_v B 3 y x) hk3 hk).trans (by rw [bl_vs] <;> rfl))) hM.2.1 hy hk'
  exact kk H1 locs1 ⟨eq ▸ g1, eq ▸ g2, g3⟩

theorem bl_pR (E : bx_E p m c cc nL s args Ts own D t A) (h1 : ∀ w ∈ wsX10, w ∈ Ts) (hM : bx_M D A s (bl_w t h a B Z) H locs) (hy : y ∈ bL B) (hk : bK B y = 3) (x : Int32) (hlink : Cond.fieldLink own index ref "wear" "I" ∈ Ts) (hsame : ∀ x, s.fieldFound? RX1 "wear" "I" = some x → s.fieldFound? ref "wear" "I" = some x) (hdg : decode cc pc = .ok (.putfield index, 3))
    (kk : ∀ (H1 : Heap) (locs1 : List Loc), bx_M D A s (bl_w t h a (bl_v B 4 y x) Z) H1 locs1 → W p l e R s m args below meth c H1 locs1 cells slots Q (F0 m (pc + 3) ls rest)) : W p l e R s m args below meth c H locs cells slots Q (F0 m pc ls (.int x :: .ref y :: rest)) := by
  obtain ⟨k, hk'⟩ := bl_th (t := t) (h := h) (a := a) (Z := Z) hy
  have hk2 := hk'
  rw [bl_tf3 hk] at hk2
  refine va_put (D := D) (ci := 1) (v := .int x) (ty := .int) (C := RX1) (T := TX1) (N := 2) E.1.1 E.1.2.1 E.1.2.2.2.2 h1 tyX1 tyX1_ok nmX1 E.1.2.2.2.1 E.2.1.1 hM.1 hM.2.1 hM.2.2 k hk2 rfl 1 (by decide) (E.1.2.2.2.2 _ hlink) hsame rfl (by decide +kernel) rfl rfl (Nat.le_of_ble_eq_true rfl) hdg (fun H1 locs1 g1 g2 g3 => ?_)
  have eq := bl_upd (e := .inr (1, [.int (bV B 0 y), .int x])) (t := t) (h := h) (a := a) (Z := Z) (B := B) (B' := bl_v B 4 y x) rfl rfl (bl_fv ((bl_tf3 (B := bl_v B 4 y x) hk).trans (by rw [bl_vs] <;> rfl))) hM.2.1 hy hk'
  exact kk H1 locs1 ⟨eq ▸ g1, eq ▸ g2, g3⟩

theorem bl_pW (E : bx_E p m c cc nL s args Ts own D t A) (h0 : ∀ w ∈ wsX00, w ∈ Ts) (h1 : ∀ w ∈ wsX10, w ∈ Ts) (h2 : ∀ w ∈ wsX20, w ∈ Ts) (hM : bx_M D A s (bl_w t h a B Z) H locs) (hy : y ∈ bL B)  (x : Int32) (hlink : Cond.fieldLink own index ref "weight" "I" ∈ Ts) (hsame : ∀ x, s.fieldFound? RX3 "weight" "I" = some x → s.fieldFound? ref "weight" "I" = some x) (hin2 : meth.name = "<init>") (hdecl : RX3 = own) (hdg : decode cc pc = .ok (.putfield index, 3))
    (kk : ∀ (H1 : Heap) (locs1 : List Loc), bx_M D A s (bl_w t h a (bl_v B 0 y x) Z) H1 locs1 → W p l e R s m args below meth c H1 locs1 cells slots Q (F0 m (pc + 3) ls rest)) : W p l e R s m args below meth c H locs cells slots Q (F0 m pc ls (.int x :: .ref y :: rest)) := by
  obtain ⟨k, hk'⟩ := bl_th (t := t) (h := h) (a := a) (Z := Z) hy
  by_cases hk : bK B y = 3
  · have hk2 := hk'
    rw [bl_tf3 hk] at hk2
    refine va_putF (D := D) (ci := 1) (v := .int x) (ty := .int) (C := RX1) (T := TX1) (N := 2) E.1.1 E.1.2.1 E.1.2.2.2.2 h1 tyX1 tyX1_ok nmX1 E.1.2.2.2.1 E.2.1.1 hM.1 hM.2.1 hM.2.2 k hk2 rfl 0 (by decide) (E.1.2.2.2.2 _ hlink) hsame rfl hin2 hdecl (by decide +kernel) rfl rfl (Nat.le_of_ble_eq_true rfl) hdg (fun H1 locs1 g1 g2 g3 => ?_)
    have eq := bl_upd (e := .inr (1, [.int x, .int (bV B 4 y)])) (t := t) (h := h) (a := a) (Z := Z) (B := B) (B' := bl_v B 0 y x) rfl rfl (bl_fv ((bl_tf3 (B := bl_v B 0 y x) hk).trans (by rw [bl_vs] <;> rfl))) hM.2.1 hy hk'
    exact kk H1 locs1 ⟨eq ▸ g1, eq ▸ g2, g3⟩
  by_cases q2 : bK B y = 2
  · have hk2 := hk'
    rw [bl_tf2 hk q2] at hk2
    refine va_putF (D := D) (ci := 2) (v := .int x) (ty := .int) (C := RX2) (T := TX2) (N := 5) E.1.1 E.1.2.1 E.1.2.2.2.2 h2 tyX2 tyX2_ok nmX2 E.1.2.2.2.1 E.2.1.1 hM.1 hM.2.1 hM.2.2 k hk2 rfl 3 (by decide) (E.1.2.2.2.2 _ hlink) hsame rfl hin2 hdecl (by decide +kernel) rfl rfl (Nat.le_of_ble_eq_true rfl) hdg (fun H1 locs1 g1 g2 g3 => ?_)
    have eq := bl_upd (e := .inr (2, [.int (bV B 1 y), va_rf (bC B y), .int (bV B 2 y), .int x, .int (bV B 3 y)])) (t := t) (h := h) (a := a) (Z := Z) (B := B) (B' := bl_v B 0 y x) rfl rfl (bl_fv ((bl_tf2 (B := bl_v B 0 y x) hk q2).trans (by rw [bl_vs] <;> rfl))) hM.2.1 hy hk'
    exact kk H1 locs1 ⟨eq ▸ g1, eq ▸ g2, g3⟩
  · have hk2 := hk'
    rw [bl_tf1 hk q2] at hk2
    refine va_putF (D := D) (ci := 0) (v := .int x) (ty := .int) (C := RX0) (T := TX0) (N := 4) E.1.1 E.1.2.1 E.1.2.2.2.2 h0 tyX0 tyX0_ok nmX0 E.1.2.2.2.1 E.2.1.1 hM.1 hM.2.1 hM.2.2 k hk2 rfl 0 (by decide) (E.1.2.2.2.2 _ hlink) hsame rfl hin2 hdecl (by decide +kernel) rfl rfl (Nat.le_of_ble_eq_true rfl) hdg (fun H1 locs1 g1 g2 g3 => ?_)
    have eq := bl_upd (e := .inr (0, [.int x, .int (bV B 1 y), va_rf (bC B y), .int (bV B 2 y)])) (t := t) (h := h) (a := a) (Z := Z) (B := B) (B' := bl_v B 0 y x) rfl rfl (bl_fv ((bl_tf1 (B := bl_v B 0 y x) hk q2).trans (by rw [bl_vs] <;> rfl))) hM.2.1 hy hk'
    exact kk H1 locs1 ⟨eq ▸ g1, eq ▸ g2, g3⟩

/-- is it a clapper, a bell, a great bell -/
theorem bl_inC (E : bx_E p m c cc nL s args Ts own D t A) (hM : bx_M D A s (bl_w t h a B Z) H locs) (hy : y ∈ bL B) (hlink : Cond.classLink own index RX1 ∈ Ts) (hdg : decode cc pc = .ok (.instanceof index, 3))
    (kt : bK B y = 3 → W p l e R s m args below meth c H locs cells slots Q (F0 m (pc + 3) ls (.int 1 :: rest))) (kf : ¬ bK B y = 3 → W p l e R s m args below meth c H locs cells slots Q (F0 m (pc + 3) ls (.int 0 :: rest))) : W p l e R s m args below meth c H locs cells slots Q (F0 m pc ls (.ref y :: rest)) := by
  by_cases h3 : bK B y = 3
  · exact va_instY E.1.1 E.1.2.1 E.1.2.2.2.1 (E.1.2.2.2.2 _ hlink) E.2.1.2.2.2.1 (bl_recv3 E hM hy h3) hdg (kt h3)
  · by_cases h2 : bK B y = 2
    · exact va_instNo E.1.1 E.1.2.1 E.1.2.2.2.1 (E.1.2.2.2.2 _ hlink) E.2.1.2.2.2.2.2.2.2.2.2.2.2.2.1 (bl_recv2 E hM hy h2) hdg (kf h3)
    · exact va_instNo E.1.1 E.1.2.1 E.1.2.2.2.1 (E.1.2.2.2.2 _ hlink) E.2.1.2.2.2.2.2.2.2.2.2.2.2.1 (bl_recv1 E hM hy h3 h2) hdg (kf h3)
theorem bl_inB (E : bx_E p m c cc nL s args Ts own D t A) (hM : bx_M D A s (bl_w t h a B Z) H locs) (hy : y ∈ bL B) (hlink : Cond.classLink own index RX0 ∈ Ts) (hdg : decode cc pc = .ok (.instanceof index, 3))
    (kt : ¬ bK B y = 3 → W p l e R s m args below meth c H locs cells slots Q (F0 m (pc + 3) ls (.int 1 :: rest))) (kf : bK B y = 3 → W p l e R s m args below meth c H locs cells slots Q (F0 m (pc + 3) ls (.int 0 :: rest))) : W p l e R s m args below meth c H locs cells slots Q (F0 m pc ls (.ref y :: rest)) := by
  by_cases h3 : bK B y = 3
  · exact va_instNo E.1.1 E.1.2.1 E.1.2.2.2.1 (E.1.2.2.2.2 _ hlink) E.2.1.2.2.2.2.2.2.2.2.1 (bl_recv3 E hM hy h3) hdg (kf h3)
  · by_cases h2 : bK B y = 2
    · exact va_instY E.1.1 E.1.2.1 E.1.2.2.2.1 (E.1.2.2.2.2 _ hlink) E.2.1.2.2.2.2.2.1 (bl_recv2 E hM hy h2) hdg (kt h3)
    · exact va_instY E.1.1 E.1.2.1 E.1.2.2.2.1 (E.1.2.2.2.2 _ hlink) E.2.1.2.1 (bl_recv1 E hM hy h3 h2) hdg (kt h3)
theorem bl_inG (E : bx_E p m c cc nL s args Ts own D t A) (hM : bx_M D A s (bl_w t h a B Z) H locs) (hy : y ∈ bL B) (hlink : Cond.classLink own index RX2 ∈ Ts) (hdg : decode cc pc = .ok (.instanceof index, 3))
    (kt : bK B y = 2 → W p l e R s m args below meth c H locs cells slots Q (F0 m (pc + 3) ls (.int 1 :: rest))) (kf : ¬ bK B y = 2 → W p l e R s m args below meth c H locs cells slots Q (F0 m (pc + 3) ls (.int 0 :: rest))) : W p l e R s m args below meth c H locs cells slots Q (F0 m pc ls (.ref y :: rest)) := by
  by_cases h3 : bK B y = 3
  · exact va_instNo E.1.1 E.1.2.1 E.1.2.2.2.1 (E.1.2.2.2.2 _ hlink) E.2.1.2.2.2.2.2.2.2.2.2.2.1 (bl_recv3 E hM hy h3) hdg (kf (by rw [h3]; decide))
  · by_cases h2 : bK B y = 2
    · exact va_instY E.1.1 E.1.2.1 E.1.2.2.2.1 (E.1.2.2.2.2 _ hlink) E.2.1.2.2.2.2.2.2.1 (bl_recv2 E hM hy h2) hdg (kt h2)
    · exact va_instNo E.1.1 E.1.2.1 E.1.2.2.2.1 (E.1.2.2.2.2 _ hlink) E.2.1.2.2.2.2.2.2.2.2.2.1 (bl_recv1 E hM hy h3 h2) hdg (kf h2)
theorem bl_csC (E : bx_E p m c cc nL s args Ts own D t A) (hM : bx_M D A s (bl_w t h a B Z) H locs) (hy : y ∈ bL B) (h3 : bK B y = 3) (hlink : Cond.classLink own index RX1 ∈ Ts) (hdg : decode cc pc = .ok (.checkcast index, 3)) (kk : W p l e R s m args below meth c H locs cells slots Q (F0 m (pc + 3) ls (.ref y :: rest))) : W p l e R s m args below meth c H locs cells slots Q (F0 m pc ls (.ref y :: rest)) :=
  va_castY E.1.1 E.1.2.1 E.1.2.2.2.1 (E.1.2.2.2.2 _ hlink) E.2.1.2.2.2.1 (bl_recv3 E hM hy h3) hdg kk
theorem bl_csB (E : bx_E p m c cc nL s args Ts own D t A) (hM : bx_M D A s (bl_w t h a B Z) H locs) (hy : y ∈ bL B) (h3 : ¬ bK B y = 3) (hlink : Cond.classLink own index RX0 ∈ Ts) (hdg : decode cc pc = .ok (.checkcast index, 3)) (kk : W p l e R s m args below meth c H locs cells slots Q (F0 m (pc + 3) ls (.ref y :: rest))) : W p l e R s m args below meth c H locs cells slots Q (F0 m pc ls (.ref y :: rest)) := by
  by_cases h2 : bK B y = 2
  · exact va_castY E.1.1 E.1.2.1 E.1.2.2.2.1 (E.1.2.2.2.2 _ hlink) E.2.1.2.2.2.2.2.1 (bl_recv2 E hM hy h2) hdg kk
  · exact va_castY E.1.1 E.1.2.1 E.1.2.2.2.1 (E.1.2.2.2.2 _ hlink) E.2.1.2.1 (bl_recv1 E hM hy h3 h2) hdg kk
theorem bl_csG (E : bx_E p m c cc nL s args Ts own D t A) (hM : bx_M D A s (bl_w t h a B Z) H locs) (hy : y ∈ bL B) (h2 : bK B y = 2) (hlink : Cond.classLink own index RX2 ∈ Ts) (hdg : decode cc pc = .ok (.checkcast index, 3)) (kk : W p l e R s m args below meth c H locs cells slots Q (F0 m (pc + 3) ls (.ref y :: rest))) : W p l e R s m args below meth c H locs cells slots Q (F0 m pc ls (.ref y :: rest)) :=
  va_castY E.1.1 E.1.2.1 E.1.2.2.2.1 (E.1.2.2.2.2 _ hlink) E.2.1.2.2.2.2.2.2.1 (bl_recv2 E hM hy h2) hdg kk

theorem bx_runU {l : Launch} {x yv : MethodName} {bytes : ByteArray} {maxL mc ms n : Nat} {ret : Option FieldType} {ws : List Cond} {rm : Room} {C owner : String} {b : Nat} {As st0 : List Value} {w : va_W} {Qc : Array Value → State → Outcome → State → Prop} (E : bx_E p m c cc nL s args Ts own D t A) (hM : bx_M D A s w H locs) (hC : Met l yv ws rm (va_Pc (.ref b :: As) (bx_I D t A w)) Qc mc ms A) (hrv : ∃ cell : Cell, H[b]? = some cell ∧ cell.vm.isStatics = false ∧ s.vm.findClass C = some cell.cls) (cw : va_CU R s args own C owner index x yv bytes maxL ret ws rm mc ms n)
    (hn : As.length = n) (hl : ls.size = nL) (hst : st0 = As.reverse ++ .ref b :: rest) (hrm : (rest.map fun v => v.category).sum ≤ 8) (hdg : decode cc pc = .ok (.invokevirtual index, 3)) (hf : cells + mc ≤ R.cells ∧ slots + ms ≤ R.slots) :
    va_Run p l e R s m args below meth c H locs cells slots mc ms (F0 m pc ls st0) rest (Qc (Value.ref b :: As).toArray) A :=
  va_runU E.1 hC cw (bx_preV E hM hrv) rfl hn hl hst (lv_room hrm) hdg hf
end BLR
