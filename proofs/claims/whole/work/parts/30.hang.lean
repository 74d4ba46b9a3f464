/-- fewer than N numbers leave one of N free -/
theorem pg_free : ∀ (N : Nat) (L : List Nat), L.length < N → ∃ n : Nat, n < N ∧ n ∉ L := by
  intro N
  induction N with
  | zero => intro L h; exact absurd h (Nat.not_lt_zero _)
  | succ N ih =>
    intro L h
    by_cases hN : N ∈ L
    · have h1 : (L.erase N).length < N := by
        rw [List.length_erase_of_mem hN]
        have : 0 < L.length := List.length_pos_of_mem hN
        omega
      obtain ⟨n, hn, hm⟩ := ih _ h1
      exact ⟨n, by omega, fun q => hm ((List.mem_erase_of_ne (by omega)).mpr q)⟩
    · exact ⟨N, by omega, hN⟩
theorem md_free {S : md_S} (hf : md_ln (S.2 0)) : ∃ n : Nat, n < 64 ∧ ¬ md_taken S (nI n) := by
  have hle := ln_le hf
  obtain ⟨n, hn, hm⟩ := pg_free 64 (((List.range 10).map fun i => (S.1 7 i).toNatClampNeg) ++ (((List.range 12).map fun i => (S.1 8 i).toNatClampNeg) ++ (((List.range 10).map fun i => (S.1 3 (S.1 7 i).toNatClampNeg).toNatClampNeg) ++ ((List.range 12).map fun i => (S.1 3 (S.1 8 i).toNatClampNeg).toNatClampNeg)))) (by simp)
  refine ⟨n, hn, fun ht => hm ?_⟩
  have hcl : (nI n).toNatClampNeg = n := nI_cl hn
  rcases ht with (⟨i, hi, e⟩ | ⟨i, hi, e⟩) | ⟨b, hb, e, -, (⟨i, hi, e2⟩ | ⟨i, hi, e2⟩)⟩
  · exact List.mem_append_left _ (List.mem_map.mpr ⟨i, List.mem_range.mpr hi, by rw [e]; exact hcl⟩)
  · exact List.mem_append_right _ (List.mem_append_left _ (List.mem_map.mpr ⟨i, List.mem_range.mpr (by omega), by rw [e]; exact hcl⟩))
  · exact List.mem_append_right _ (List.mem_append_right _ (List.mem_append_left _ (List.mem_map.mpr ⟨i, List.mem_range.mpr hi, by rw [e2, nI_cl hb, e]; exact hcl⟩)))
  · exact List.mem_append_right _ (List.mem_append_right _ (List.mem_append_right _ (List.mem_map.mpr ⟨i, List.mem_range.mpr (by omega), by rw [e2, nI_cl hb, e]; exact hcl⟩)))
/-- a hook is emptied -/
theorem sm.clear {ad : Nat → Nat} {V : Nat → Prop} {B : bl_S} {S : md_S} (h : sm ad V B S) (k : Nat) : sm ad V (bl_ri B 0 k none) (md_ai S 7 k (-1)) := by
  obtain ⟨h1, h2, h3, h4, h5, h6⟩ := h
  refine ⟨h1, h2, fun i hi => ?_, h4, h5, h6⟩
  show sm_hk ad V (upd (S.1 7) k (-1) i) (va_up (bR B 0) k none i)
  by_cases e : i = k
  · subst e; rw [pk_us, va_up_self]; exact Or.inl ⟨rfl, rfl⟩
  · rw [pk_un e, va_up_ne _ _ e]; exact h3 i hi
theorem md_I.clear {S : md_S} (hI : md_I S) (k : Nat) : md_I (md_ai S 7 k (-1)) := by
  obtain ⟨i1, i2, i3, i4, i5, i6, i7, i8, i9, i10⟩ := hI
  refine ⟨fun i hi => ?_, i2, i3, i4, i5, i6, i7, i8, i9, fun i hi => ?_⟩
  · show md_ok (upd (S.1 7) k (-1) i)
    by_cases e : i = k
    · rw [e, pk_us]; exact Or.inl rfl
    · rw [pk_un e]; exact i1 i hi
  · show upd (S.1 7) k (-1) i = -1 ∨ inB (S.1 0 (upd (S.1 7) k (-1) i).toNatClampNeg) 1 3 = true
    by_cases e : i = k
    · rw [e, pk_us]; exact Or.inl rfl
    · rw [pk_un e]; exact i10 i hi
theorem bl_I.clear {B : bl_S} (hB : bl_I B) (k : Nat) : bl_I (bl_ri B 0 k none) := by
  refine ⟨fun i hi z hz => ?_, hB.2.1, hB.2.2⟩
  have hz : va_up (bR B 0) k none i = some z := hz
  by_cases e : i = k
  · subst e; rw [va_up_self] at hz; cases hz
  · rw [va_up_ne _ _ e] at hz; exact hB.1 i hi z hz
/-- what is held stands in use -/
theorem sm.held {ad : Nat → Nat} {V : Nat → Prop} {B : bl_S} {S : md_S} (h : sm ad V B S) {m : Nat} (hm : m < 64) (ht : md_held S (nI m)) : V m := by
  rcases ht with ⟨i, hi, e⟩ | ⟨i, hi, e⟩
  · rcases h.2.2.1 i hi with ⟨e1, -⟩ | ⟨n, hn, hV, e1, -⟩
    · exact absurd (e.symm.trans e1) (nI_neg hm)
    · rw [nI_inj hm hn (e.symm.trans e1)]; exact hV
  · rcases h.2.2.2.1 i hi with ⟨e1, -⟩ | ⟨n, hn, hV, e1, -⟩
    · exact absurd (e.symm.trans e1) (nI_neg hm)
    · rw [nI_inj hm hn (e.symm.trans e1)]; exact hV
theorem sm.nclap {ad : Nat → Nat} {V : Nat → Prop} {B : bl_S} {S : md_S} (h : sm ad V B S) {b : Nat} (hb : b < 64) (hV : V b) (hs : inB (S.1 0 b) 1 2 = true) : ¬ bK B (ad b) = 3 := by
  intro k
  rw [(h.2.2.2.2.1 b hb hV).2.1, bf_sort3 k] at hs
  exact absurd hs (by decide)
theorem sm.bells {ad : Nat → Nat} {V : Nat → Prop} {B : bl_S} {S : md_S} (h : sm ad V B S) {b : Nat} (hb : b < 64) (hV : V b) (k : ¬ bK B (ad b) = 3) : inB (S.1 0 b) 1 2 = true := by
  rw [(h.2.2.2.2.1 b hb hV).2.1]
  by_cases k2 : bK B (ad b) = 2
  · rw [bf_sort2 k2]; decide
  · rw [bf_sort1 k k2]; decide
/-- what isn't free is in use; a bell among it is held -/
theorem sm.taken {ad : Nat → Nat} {V : Nat → Prop} {B : bl_S} {S : md_S} (h : sm ad V B S) {m : Nat} (hm : m < 64) (ht : md_taken S (nI m)) : V m ∧ (¬ bK B (ad m) = 3 → md_held S (nI m)) := by
  rcases ht with ht | ⟨b, hb, e, hs, hh⟩
  · exact ⟨h.held hm ht, fun _ => ht⟩
  · have hVb := h.held hb hh
    rcases (h.2.2.2.2.1 b hb hVb).2.2.2.2.2.2.2 (h.nclap hb hVb hs) with ⟨e1, -⟩ | ⟨c, hc, hVc, e1, e2, e3⟩
    · exact absurd (e.symm.trans e1) (nI_neg hm)
    · have ec := nI_inj hm hc (e.symm.trans e1)
      subst ec
      exact ⟨hVc, fun k => absurd e3 k⟩
/-- a new thing on an empty hook -/
theorem sm.new {ad : Nat → Nat} {V : Nat → Prop} {B : bl_S} {S : md_S} (h : sm ad V B S) {p k w : Int32} (hp : inB p 0 9 = true) (hk : k = 1 ∨ k = 2 ∨ k = 3) {q n : Nat} (hq : q ∉ bL B) (hn : n < 64) (hnt : ¬ md_taken S (nI n)) : sm (va_up ad n q) (fun m => m = n ∨ md_taken S (nI m)) (bl_ri (bl_v (bl_n B q (bf_kd k)) 0 q w) 0 p.toNatClampNeg (some q)) (mf_new S p k w n) := by
  have hmem : ∀ {m}, m < 64 → V m → ad m ≠ q := fun hm hV e => hq (e ▸ (h.2.2.2.2.1 _ hm hV).1)
  have hne : ∀ {m}, md_taken S (nI m) → m ≠ n := fun ht e => hnt (e ▸ ht)
  have hadn : va_up ad n q n = q := va_up_self _ _ _
  have hadm : ∀ {m}, m ≠ n → va_up ad n q m = ad m := fun e => va_up_ne _ _ e
  have h' := h
  obtain ⟨h1, h2, h3, h4, h5, h6⟩ := h
  refine ⟨h1, h2, fun i hi => ?_, fun i hi => ?_, fun m hm hVm => ?_, fun m m' hm hm' hVm hVm' e => ?_⟩
  · show sm_hk _ _ (upd (S.1 7) p.toNatClampNeg (nI n) i) (va_up (bR B 0) p.toNatClampNeg (some q) i)
    by_cases e : i = p.toNatClampNeg
    · rw [e, pk_us, va_up_self]; exact Or.inr ⟨n, hn, Or.inl rfl, rfl, by rw [hadn]⟩
    · rw [pk_un e, va_up_ne _ _ e]
      rcases h3 i hi with g | ⟨m, hm, hV, e1, e2⟩
      · exact Or.inl g
      · have ht : md_taken S (nI m) := Or.inl (Or.inl ⟨i, hi, e1⟩)
        exact Or.inr ⟨m, hm, Or.inr ht, e1, by rw [hadm (hne ht)]; exact e2⟩
  · rcases h4 i hi with g | ⟨m, hm, hV, e1, e2⟩
    · exact Or.inl g
    · have ht : md_taken S (nI m) := Or.inl (Or.inr ⟨i, hi, e1⟩)
      exact Or.inr ⟨m, hm, Or.inr ht, e1, by rw [hadm (hne ht)]; exact e2⟩
  · by_cases e : m = n
    · subst e
      unfold sm_th
      rw [hadn]
      have hK : bK (bl_ri (bl_v (bl_n B q (bf_kd k)) 0 q w) 0 p.toNatClampNeg (some q)) q = bf_kd k := va_up_self _ _ _
      have hV0 : bV (bl_ri (bl_v (bl_n B q (bf_kd k)) 0 q w) 0 p.toNatClampNeg (some q)) 0 q = w := by
        show va_up (va_up (bV B 0) q 0) q w q = w
        rw [va_up_self]
      have hVf : ∀ f, f ≠ 0 → bV (bl_ri (bl_v (bl_n B q (bf_kd k)) 0 q w) 0 p.toNatClampNeg (some q)) f q = 0 := by
        intro f hf
        show va_up (fun f => va_up (bV B f) q 0) 0 (va_up (va_up (bV B 0) q 0) q w) f q = 0
        rw [va_up_ne _ _ hf, va_up_self]
      have hC : bC (bl_ri (bl_v (bl_n B q (bf_kd k)) 0 q w) 0 p.toNatClampNeg (some q)) q = none := va_up_self _ _ _
      have hs : bf_sort (bl_ri (bl_v (bl_n B q (bf_kd k)) 0 q w) 0 p.toNatClampNeg (some q)) q = k := by
        unfold bf_sort
        rw [hK]
        rcases hk with rfl | rfl | rfl <;> decide
      refine ⟨List.mem_append_right _ (List.mem_singleton.mpr rfl), ?_, ?_, ?_, ?_, ?_, fun _ => ?_, fun _ => Or.inl ⟨?_, by rw [hadn]; exact hC⟩⟩
      · rw [hs]; show upd (S.1 0) m k m = k; rw [pk_us]
      · rw [hV0]; show upd (S.1 1) m w m = w; rw [pk_us]
      · rw [hVf 1 (by decide)]; show upd (S.1 2) m 0 m = _; rw [pk_us]; split <;> rfl
      · rw [hVf 2 (by decide)]; show upd (S.1 4) m 0 m = _; rw [pk_us]; split <;> rfl
      · rw [hVf 3 (by decide)]; show upd (S.1 5) m 0 m = _; rw [pk_us]; split <;> rfl
      · rw [hVf 4 (by decide)]; show upd (S.1 6) m 0 m = 0; rw [pk_us]
      · show upd (S.1 3) m (-1) m = -1; rw [pk_us]
    · have ht : md_taken S (nI m) := hVm.resolve_left e
      obtain ⟨hV, hheld⟩ := h'.taken hm ht
      obtain ⟨t1, t2, t3, t4, t5, t6, t7, t8⟩ := h5 m hm hV
      have hx := hmem hm hV
      have hK : bK (bl_ri (bl_v (bl_n B q (bf_kd k)) 0 q w) 0 p.toNatClampNeg (some q)) (ad m) = bK B (ad m) := va_up_ne _ _ hx
      have hVf : ∀ f, bV (bl_ri (bl_v (bl_n B q (bf_kd k)) 0 q w) 0 p.toNatClampNeg (some q)) f (ad m) = bV B f (ad m) := by
        intro f
        show va_up (fun f => va_up (bV B f) q 0) 0 (va_up (va_up (bV B 0) q 0) q w) f (ad m) = bV B f (ad m)
        by_cases ef : f = 0
        · subst ef; rw [va_up_self, va_up_ne _ _ hx, va_up_ne _ _ hx]
        · rw [va_up_ne _ _ ef, va_up_ne _ _ hx]
      have hC : bC (bl_ri (bl_v (bl_n B q (bf_kd k)) 0 q w) 0 p.toNatClampNeg (some q)) (ad m) = bC B (ad m) := va_up_ne _ _ hx
      have hs : bf_sort (bl_ri (bl_v (bl_n B q (bf_kd k)) 0 q w) 0 p.toNatClampNeg (some q)) (ad m) = bf_sort B (ad m) := by
        unfold bf_sort
        rw [hK]
      unfold sm_th
      rw [hadm e, hs, hK, hVf, hVf, hVf, hVf, hVf]
      refine ⟨List.mem_append_left _ t1, ?_, ?_, ?_, ?_, ?_, fun g => ?_, fun g => ?_⟩
      · show upd (S.1 0) n k m = _; rw [pk_un e]; exact t2
      · show upd (S.1 1) n w m = _; rw [pk_un e]; exact t3
      · show upd (S.1 2) n 0 m = _; rw [pk_un e]; exact t4
      · show upd (S.1 4) n 0 m = _; rw [pk_un e]; exact t5
      · show upd (S.1 5) n 0 m = _; rw [pk_un e]; exact t6
      · show upd (S.1 6) n 0 m = _; rw [pk_un e]; exact t7 g
      · unfold sm_cl
        rw [hadm e, hC]
        show (upd (S.1 3) n (-1) m = -1 ∧ _) ∨ _
        rcases t8 g with ⟨c1, c2⟩ | ⟨c, hc, hVc, c1, c2, c3⟩
        · exact Or.inl ⟨by rw [pk_un e]; exact c1, c2⟩
        · have htc : md_taken S (nI c) := Or.inr ⟨m, hm, c1, h'.bells hm hV g, hheld g⟩
          refine Or.inr ⟨c, hc, Or.inr htc, ?_, ?_, ?_⟩
          · show upd (S.1 3) n (-1) m = nI c
            rw [pk_un e]; exact c1
          · rw [hadm (hne htc)]; exact c2
          · rw [hadm (hne htc)]
            exact (va_up_ne _ _ (hmem hc hVc)).trans c3
  · rcases hVm with rfl | ht
    · rcases hVm' with rfl | ht'
      · rfl
      · rw [hadn, hadm (hne ht')] at e
        exact absurd e.symm (hmem hm' (h'.taken hm' ht').1)
    · rcases hVm' with rfl | ht'
      · rw [hadn, hadm (hne ht)] at e
        exact absurd e (hmem hm (h'.taken hm ht).1)
      · rw [hadm (hne ht), hadm (hne ht')] at e
        exact h6 m m' hm hm' (h'.taken hm ht).1 (h'.taken hm' ht').1 e
theorem md_I.new {S : md_S} (hI : md_I S) {p k w : Int32} (hk : k = 1 ∨ k = 2 ∨ k = 3) (hw : inB w 1 1000 = true) {n : Nat} (hn : n < 64) (hnt : ¬ md_taken S (nI n)) : md_I (mf_new S p k w n) := by
  obtain ⟨i1, i2, i3, i4, i5, i6, i7, i8, i9, i10⟩ := hI
  refine ⟨fun i hi => ?_, i2, fun i hi => ?_, i4, i5, i6, i7, fun i hi => ⟨?_, ?_⟩, i9, fun i hi => ?_⟩
  · show md_ok (upd (S.1 7) p.toNatClampNeg (nI n) i)
    by_cases e : i = p.toNatClampNeg
    · rw [e, pk_us]; exact Or.inr ⟨n, hn, rfl⟩
    · rw [pk_un e]; exact i1 i hi
  · show md_ok (upd (S.1 3) n (-1) i)
    by_cases e : i = n
    · rw [e, pk_us]; exact Or.inl rfl
    · rw [pk_un e]; exact i3 i hi
  · show inB (upd (S.1 1) n w i) 0 1000 = true
    by_cases e : i = n
    · rw [e, pk_us]
      obtain ⟨g1, g2⟩ := inB_ge hw
      exact inB_in (fun q => Int32.not_le.mpr (Int32.lt_of_lt_of_le q (show (0 : Int32) ≤ 1 by decide)) g1) (Int32.not_lt.mpr g2)
    · rw [pk_un e]; exact (i8 i hi).1
  · show inB (upd (S.1 5) n 0 i) 0 1000 = true
    by_cases e : i = n
    · rw [e, pk_us]; decide
    · rw [pk_un e]; exact (i8 i hi).2
  · show upd (S.1 7) p.toNatClampNeg (nI n) i = -1 ∨ inB (upd (S.1 0) n k (upd (S.1 7) p.toNatClampNeg (nI n) i).toNatClampNeg) 1 3 = true
    by_cases e : i = p.toNatClampNeg
    · rw [e, pk_us, nI_cl hn, pk_us]
      rcases hk with rfl | rfl | rfl <;> exact Or.inr (by decide)
    · rw [pk_un e]
      rcases i1 i hi with h0 | ⟨m, hm, h0⟩
      · exact Or.inl h0
      · have hne : m ≠ n := fun q => hnt (q ▸ Or.inl (Or.inl ⟨i, hi, h0⟩))
        rcases i10 i hi with g | g
        · exact Or.inl g
        · refine Or.inr ?_
          rw [h0, nI_cl hm] at g ⊢
          rw [pk_un hne]; exact g
theorem bl_I.new {B : bl_S} (hB : bl_I B) {q kd i0 : Nat} {w : Int32} (hq : q ∉ bL B) : bl_I (bl_ri (bl_v (bl_n B q kd) 0 q w) 0 i0 (some q)) := by
  have hx : ∀ {y}, y ∈ bL B → y ≠ q := fun hy e => hq (e ▸ hy)
  refine ⟨fun i hi y hy => ?_, fun i hi y hy => ?_, fun y hy z hz => ?_⟩
  · have hy : va_up (bR B 0) i0 (some q) i = some y := hy
    show y ∈ bL B ++ [q]
    by_cases e : i = i0
    · subst e; rw [va_up_self] at hy; cases hy; exact List.mem_append_right _ (List.mem_singleton.mpr rfl)
    · rw [va_up_ne _ _ e] at hy; exact List.mem_append_left _ (hB.1 i hi y hy)
  · obtain ⟨g1, g2⟩ := hB.2.1 i hi y hy
    refine ⟨List.mem_append_left _ g1, fun g => g2 ?_⟩
    have g : va_up (bK B) q kd y = 3 := g
    rw [va_up_ne _ _ (hx g1)] at g
    exact g
  · have hy : y ∈ bL B ++ [q] := hy
    have hz : va_up (bC B) q none y = some z := hz
    rcases List.mem_append.mp hy with g | g
    · rw [va_up_ne _ _ (hx g)] at hz
      obtain ⟨g1, g2⟩ := hB.2.2 y g z hz
      refine ⟨List.mem_append_left _ g1, ?_⟩
      show va_up (bK B) q kd z = 3
      rw [va_up_ne _ _ (hx g1)]; exact g2
    · rw [List.mem_singleton.mp g, va_up_self] at hz; cases hz
theorem bl_ri2 (B : bl_S) (q kd i : Nat) (w : Int32) : bl_ri (bl_v (bl_n (bl_ri B 0 i none) q kd) 0 q w) 0 i (some q) = bl_ri (bl_v (bl_n B q kd) 0 q w) 0 i (some q) := by
  refine Prod.ext rfl (Prod.ext rfl (Prod.ext ?_ rfl))
  show va_up (va_up (bR B) 0 (va_up (bR B 0) i none)) 0 (va_up (va_up (bR B) 0 (va_up (bR B 0) i none) 0) i (some q)) = va_up (bR B) 0 (va_up (bR B 0) i (some q))
  rw [bx_uu, va_up_self, bx_uu]
theorem op_hang {B : bl_S} {S : md_S} (H : Inv B S) (p k w : Int32) {q n : Nat} (hq : q ∉ bL B) (hn : n < 64) (hnt : ¬ md_taken (md_ai S 7 p.toNatClampNeg (-1)) (nI n)) : Rel (bf_hang B p k w q) (mf_hang S p k w n) := by
  obtain ⟨hB, hI, ad, V, h⟩ := id H
  by_cases hp : inB p 0 9 = true
  · by_cases hk : inB k 0 3 = true
    · have he : (match bR B 0 p.toNatClampNeg with
        | none => (0 : Int32)
        | some y => bf_sort B y) = mf_sortAt S p := by
        rcases h.hook hp with ⟨e1, e2⟩ | ⟨m, hm, hV, e1, e2⟩
        · rw [e2, mf_sort0 e1]
        · rw [e2, h.sort hm hV e1]
      by_cases k0 : k = 0
      · subst k0
        have b : bf_hang B p 0 w q = (mf_sortAt S p, bl_ri B 0 p.toNatClampNeg none) := by
          rw [← he]; simp [bf_hang, hp, hk] <;> rfl
        have m : mf_hang S p 0 w n = (mf_sortAt S p, md_ai S 7 p.toNatClampNeg (-1)) := by simp [mf_hang, hp, hk]
        rw [b, m]; exact ⟨rfl, hB.clear _, hI.clear _, ad, V, h.clear _⟩
      · have hk3 := in03 hk k0
        have hk1 : 0 < k := by rcases hk3 with rfl | rfl | rfl <;> decide
        by_cases hw : inB w 1 1000 = true
        · have b : bf_hang B p k w q = (mf_sortAt S p, bl_ri (bl_v (bl_n B q (bf_kd k)) 0 q w) 0 p.toNatClampNeg (some q)) := by
            rw [← he]; simp [bf_hang, hp, hk, k0, hw] <;> rfl
          have m : mf_hang S p k w n = (mf_sortAt S p, mf_new (md_ai S 7 p.toNatClampNeg (-1)) p k w n) := by simp [mf_hang, hp, hk, hk1, hw]
          have hs := (h.clear p.toNatClampNeg).new (w := w) hp hk3 (q := q) hq hn hnt
          rw [bl_ri2] at hs
          rw [b, m]
          exact ⟨rfl, hB.new hq, (hI.clear _).new hk3 hw hn hnt, _, _, hs⟩
        · have b : bf_hang B p k w q = (-1, B) := by simp [bf_hang, hp, hk, k0, hw]
          have m : mf_hang S p k w n = (-1, S) := by simp [mf_hang, hp, hk, hk1, hw]
          rw [b, m]; exact Rel.val H _
    · have b : bf_hang B p k w q = (-1, B) := by simp [bf_hang, hk]
      have m : mf_hang S p k w n = (-1, S) := by simp [mf_hang, hk]
      rw [b, m]; exact Rel.val H _
  · have b : bf_hang B p k w q = (-1, B) := by simp [bf_hang, hp]
    have m : mf_hang S p k w n = (-1, S) := by simp [mf_hang, hp]
    rw [b, m]; exact Rel.val H _
/-- two new objects stand for each other -/
theorem md_0hm : ∀ i, i < 10 → md_0h i = -1 := by
  intro i hi
  rcases (show i = 0 ∨ i = 1 ∨ i = 2 ∨ i = 3 ∨ i = 4 ∨ i = 5 ∨ i = 6 ∨ i = 7 ∨ i = 8 ∨ i = 9 by omega) with rfl | rfl | rfl | rfl | rfl | rfl | rfl | rfl | rfl | rfl <;> decide
theorem Inv0 : Inv bl_0 md_0 := by
  refine ⟨⟨fun i hi y hy => (by cases hy), fun i hi y hy => (by cases hy), fun y hy => (by cases hy)⟩, ⟨fun i hi => Or.inl (md_0hm i hi), fun i hi => Or.inr ⟨0, by decide, rfl⟩, fun i hi => Or.inr ⟨0, by decide, rfl⟩, Or.inl rfl, Or.inl rfl, Or.inl rfl, ⟨Or.inr ⟨0, by decide, rfl⟩, by decide⟩, fun i hi => ⟨rfl, rfl⟩, Or.inr rfl, fun i hi => Or.inl (md_0hm i hi)⟩, fun _ => 0, fun _ => False, ⟨rfl, rfl, rfl⟩, ⟨fun k hk => ?_, Or.inl rfl⟩, fun i hi => Or.inl ⟨md_0hm i hi, rfl⟩, fun i hi => ?_, fun n hn hV => hV.elim, fun m n hm hn hV => hV.elim⟩
  · show bl_0s k = md_0s k
    unfold bl_0s md_0s
    split <;> split <;> first | rfl | omega | (exfalso; simp_all; done)
  · have z : ((md_0).2 0).toNatClampNeg = 0 := by decide
    rw [z] at hi
    exact absurd hi (Nat.not_lt_zero i)
