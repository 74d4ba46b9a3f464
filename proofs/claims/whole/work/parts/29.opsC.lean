theorem md_s_id (S : md_S) (k : Nat) : md_s S k (S.2 k) = S := by
  refine Prod.ext rfl (funext fun j => ?_)
  show va_up S.2 k (S.2 k) j = S.2 j
  by_cases e : j = k
  · subst e; rw [va_up_self]
  · rw [va_up_ne _ _ e]
theorem in02 {w : Int32} (h : inB w 0 2 = true) : w = 0 ∨ w = 1 ∨ w = 2 := by
  obtain ⟨j, hj, rfl⟩ := vp_in_of (vp_inB h (n := 3) (by decide)) (by decide)
  rcases (show j = 0 ∨ j = 1 ∨ j = 2 by omega) with rfl | rfl | rfl
  · exact Or.inl rfl
  · exact Or.inr (Or.inl rfl)
  · exact Or.inr (Or.inr rfl)
theorem op_away {B : bl_S} {S : md_S} (H : Inv B S) (w : Int32) : Rel (bf_away B w) (mf_away S w) := by
  obtain ⟨hB, hI, ad, V, h⟩ := id H
  have h' := h
  obtain ⟨h1, ⟨g1, g2⟩, h3, h4, h5, h6⟩ := h
  obtain ⟨i1, i2, i3, i4, i5, i6, i7, i8, i9, i10⟩ := hI
  by_cases hw : inB w 0 2 = true
  · rcases in02 hw with rfl | rfl | rfl
    · have b : bf_away B 0 = (if B.2.1 0 = -1 then 0 else 1, bl_s B 0 (-1)) := by simp [bf_away]
      have m : mf_away S 0 = (if S.2 0 = -1 then 0 else 1, md_s (md_s (md_s S 0 (-1)) 2 ((md_s S 0 (-1)).2 2)) 3 ((md_s (md_s S 0 (-1)) 2 ((md_s S 0 (-1)).2 2)).2 3)) := by
        simp [mf_away, hw]; rfl
      rw [b, m, md_s_id, md_s_id, g1 0 (by decide)]
      refine ⟨rfl, hB, ⟨i1, i2, i3, Or.inl rfl, i5, i6, i7, i8, i9, i10⟩, ad, V, h1, ⟨fun j hj => h'.sc (by decide) j hj _, g2⟩, h3, fun i hi => ?_, h5, h6⟩
      have z : ((md_s S 0 (-1)).2 0).toNatClampNeg = 0 := by
        show (-1 : Int32).toNatClampNeg = 0
        decide
      rw [z] at hi
      exact absurd hi (Nat.not_lt_zero i)
    · have b : bf_away B 1 = (if B.2.1 2 = -1 then 0 else 1, bl_s B 2 (-1)) := by simp [bf_away]
      have m : mf_away S 1 = (if S.2 2 = -1 then 0 else 1, md_s (md_s (md_s S 0 (S.2 0)) 2 (-1)) 3 (S.2 3)) := by
        simp [mf_away, hw]
      have m2 : md_s (md_s S 2 (-1)) 3 (S.2 3) = md_s S 2 (-1) := md_s_id (md_s S 2 (-1)) 3
      rw [b, m, md_s_id, m2, g1 2 (by decide)]
      exact ⟨rfl, hB, ⟨i1, i2, i3, i4, Or.inl rfl, i6, i7, i8, i9, i10⟩, ad, V, h1, ⟨fun j hj => h'.sc (by decide) j hj _, g2⟩, h3, h4, h5, h6⟩
    · have b : bf_away B 2 = (if B.2.1 3 = -1 then 0 else 1, bl_s B 3 (-1)) := by simp [bf_away]
      have m : mf_away S 2 = (if S.2 3 = -1 then 0 else 1, md_s (md_s (md_s S 0 (S.2 0)) 2 (S.2 2)) 3 (-1)) := by
        simp [mf_away, hw]
      rw [b, m, md_s_id, md_s_id, g1 3 (by decide)]
      exact ⟨rfl, hB, ⟨i1, i2, i3, i4, i5, Or.inl rfl, i7, i8, i9, i10⟩, ad, V, h1, ⟨fun j hj => h'.sc (by decide) j hj _, Or.inl rfl⟩, h3, h4, h5, h6⟩
  · have b : bf_away B w = (-1, B) := by
      have n0 : ¬ w = 0 := fun e => hw (by rw [e]; decide)
      have n1 : ¬ w = 1 := fun e => hw (by rw [e]; decide)
      have n2 : ¬ w = 2 := fun e => hw (by rw [e]; decide)
      simp [bf_away, n0, n1, n2]
    have m : mf_away S w = (-1, S) := by simp [mf_away, hw]
    rw [b, m]; exact Rel.val H _
theorem ln_le {n : Int32} (h : md_ln n) : n.toNatClampNeg ≤ 12 := (md_fr h).2.2
theorem op_frame {B : bl_S} {S : md_S} (H : Inv B S) (n g : Int32) (hg : g = 1 ∨ g = 0) : Rel (bf_frame B n g) (mf_frame S n g) := by
  obtain ⟨hB, hI, ad, V, h⟩ := id H
  unfold bf_frame mf_frame
  by_cases h1 : 12 < n
  · rw [if_pos h1, if_pos h1]; exact Rel.val H _
  · rw [if_neg h1, if_neg h1]
    by_cases h2 : n < 0
    · rw [if_pos h2, if_pos h2]; exact Rel.tell H (by decide)
    · rw [if_neg h2, if_neg h2]
      have hl := in_ln h1 h2
      have hle := ln_le hl
      obtain ⟨a1, ⟨g1, g2⟩, h3, h4, h5, h6⟩ := h
      obtain ⟨i1, i2, i3, i4, i5, i6, i7, i8, i9, i10⟩ := hI
      refine ⟨rfl, ⟨hB.1, fun i hi y hy => ?_, hB.2.2⟩, ⟨i1, fun i hi => ?_, i3, hl, i5, i6, i7, i8, hg, i10⟩, ad, V, a1, ⟨fun j hj => ?_, g2⟩, h3, fun i hi => ?_, h5, h6⟩
      · have e : flq (bR B 1) 12 i = none := if_pos hi
        exact absurd (e.symm.trans hy) (by simp)
      · exact Or.inl (if_pos hi)
      · show va_up (va_up B.2.1 0 n) 1 g j = va_up (va_up S.2 0 n) 1 g j
        by_cases e : j = 1
        · subst e; rw [va_up_self, va_up_self]
        · rw [va_up_ne _ _ e, va_up_ne _ _ e]
          by_cases e2 : j = 0
          · subst e2; rw [va_up_self, va_up_self]
          · rw [va_up_ne _ _ e2, va_up_ne _ _ e2]; exact g1 j hj
      · have hi2 : i < 12 := Nat.lt_of_lt_of_le hi hle
        exact Or.inl ⟨if_pos hi2, if_pos hi2⟩
theorem sm.lay {ad : Nat → Nat} {V : Nat → Prop} {B : bl_S} {S : md_S} (h : sm ad V B S) (q : Nat) {x : Int32} {o : Option Nat} (hx : sm_hk ad V x o) : sm ad V (bl_ri B 1 q o) (md_ai S 8 q x) := by
  obtain ⟨h1, h2, h3, h4, h5, h6⟩ := h
  refine ⟨h1, h2, h3, fun i hi => ?_, h5, h6⟩
  show sm_hk ad V (upd (S.1 8) q x i) (va_up (bR B 1) q o i)
  by_cases e : i = q
  · subst e; rw [pk_us, va_up_self]; exact hx
  · rw [pk_un e, va_up_ne _ _ e]; exact h4 i hi
theorem md_I.lay {S : md_S} (hI : md_I S) (q : Nat) {x : Int32} (hx : md_ok x) : md_I (md_ai S 8 q x) := by
  obtain ⟨i1, i2, i3, i4, i5, i6, i7, i8, i9, i10⟩ := hI
  refine ⟨i1, fun i hi => ?_, i3, i4, i5, i6, i7, i8, i9, i10⟩
  show md_ok (upd (S.1 8) q x i)
  by_cases e : i = q
  · rw [e, pk_us]; exact hx
  · rw [pk_un e]; exact i2 i hi
theorem bl_I.layN {B : bl_S} (hB : bl_I B) (q : Nat) : bl_I (bl_ri B 1 q none) := by
  refine ⟨hB.1, fun i hi y hy => ?_, hB.2.2⟩
  have hy : va_up (bR B 1) q none i = some y := hy
  by_cases e : i = q
  · subst e; rw [va_up_self] at hy; cases hy
  · rw [va_up_ne _ _ e] at hy; exact hB.2.1 i hi y hy
theorem bl_I.layS {B : bl_S} (hB : bl_I B) (q : Nat) {z : Nat} (hz : z ∈ bL B) (hk : ¬ bK B z = 3) : bl_I (bl_ri B 1 q (some z)) := by
  refine ⟨hB.1, fun i hi y hy => ?_, hB.2.2⟩
  have hy : va_up (bR B 1) q (some z) i = some y := hy
  by_cases e : i = q
  · subst e; rw [va_up_self] at hy; cases hy; exact ⟨hz, hk⟩
  · rw [va_up_ne _ _ e] at hy; exact hB.2.1 i hi y hy
theorem hk_lt {p : Int32} (h : inB p 0 9 = true) : p.toNatClampNeg < 10 := vp_lt (vp_inB h (n := 10) (by decide))
theorem op_lay {B : bl_S} {S : md_S} (H : Inv B S) (q p : Int32) : Rel (bf_lay B q p) (mf_lay S q p) := by
  obtain ⟨hB, hI, ad, V, h⟩ := id H
  by_cases hp : inB p 0 9 = true
  · have g0 := h.2.1.1 0 (by decide)
    have g1 := h.2.1.1 1 (by decide)
    have hok := hI.1 _ (hk_lt hp)
    have hres : ∀ x, (md_ai S 8 q.toNatClampNeg x).1 7 p.toNatClampNeg = S.1 7 p.toNatClampNeg := fun _ => rfl
    rcases h.hook hp with ⟨e1, e2⟩ | ⟨n, hn, hV, e1, e2⟩
    · by_cases hf : S.2 0 = -1
      · have b : bf_lay B q p = (-10 - 1, bf_tell B 1) := by simp [bf_lay, hp, e2, g0, hf]
        have m : mf_lay S q p = (-10 - 1, mf_no S 1) := by simp [mf_lay, hp, mf_sort0 e1, hf]
        rw [b, m]; exact Rel.tell H (by decide)
      · by_cases hq : inB q 0 (S.2 0 - 1) = true
        · have b : bf_lay B q p = (0, bl_ri B 1 q.toNatClampNeg none) := by simp [bf_lay, hp, e2, g0, hf, h.isPlace hI hf q, hq]
          have m : mf_lay S q p = (0, md_ai S 8 q.toNatClampNeg (-1)) := by simp [mf_lay, hp, mf_sort0 e1, hf, hq, hres, e1]
          rw [b, m]; exact ⟨rfl, hB.layN _, hI.lay _ (Or.inl rfl), ad, V, h.lay _ (Or.inl ⟨rfl, rfl⟩)⟩
        · have b : bf_lay B q p = (-10 - 5, bf_tell B 5) := by simp [bf_lay, hp, e2, g0, hf, h.isPlace hI hf q, hq]
          have m : mf_lay S q p = (-10 - 5, mf_no S 5) := by simp [mf_lay, hp, mf_sort0 e1, hf, hq]
          rw [b, m]; exact Rel.tell H (by decide)
    · obtain ⟨t1, t2, t3, t4, t5, t6, t7, t8⟩ := h.2.2.2.2.1 n hn hV
      by_cases k : bK B (ad n) = 3
      · have b : bf_lay B q p = (-10 - 2, bf_tell B 2) := by simp [bf_lay, hp, e2, k]
        have m : mf_lay S q p = (-10 - 2, mf_no S 2) := by simp [mf_lay, hp, h.sort3 hn hV e1 k]
        rw [b, m]; exact Rel.tell H (by decide)
      · have hs3 : ¬ mf_sortAt S p = 3 := by
          rcases h.sortb hn hV e1 k with e | e <;> rw [e] <;> decide
        by_cases hf : S.2 0 = -1
        · have b : bf_lay B q p = (-10 - 1, bf_tell B 1) := by simp [bf_lay, hp, e2, k, g0, hf]
          have m : mf_lay S q p = (-10 - 1, mf_no S 1) := by simp [mf_lay, hp, hs3, hf]
          rw [b, m]; exact Rel.tell H (by decide)
        · by_cases hq : inB q 0 (S.2 0 - 1) = true
          · have good : Rel (1, bl_ri B 1 q.toNatClampNeg (some (ad n))) (1, md_ai S 8 q.toNatClampNeg (nI n)) := ⟨rfl, hB.layS _ t1 k, hI.lay _ (Or.inr ⟨n, hn, rfl⟩), ad, V, h.lay _ (Or.inr ⟨n, hn, hV, rfl, rfl⟩)⟩
            by_cases hg : S.2 1 = 0
            · have b : bf_lay B q p = (1, bl_ri B 1 q.toNatClampNeg (some (ad n))) := by simp [bf_lay, hp, e2, k, g0, g1, hg, hf, h.isPlace hI hf q, hq]
              have m : mf_lay S q p = (1, md_ai S 8 q.toNatClampNeg (nI n)) := by simp [mf_lay, hp, hs3, hf, hq, hg, hres, e1, nI_neg hn]
              rw [b, m]; exact good
            · by_cases k2 : bK B (ad n) = 2
              · have b : bf_lay B q p = (1, bl_ri B 1 q.toNatClampNeg (some (ad n))) := by simp [bf_lay, hp, e2, g0, g1, hg, hf, h.isPlace hI hf q, hq, k2]
                have m : mf_lay S q p = (1, md_ai S 8 q.toNatClampNeg (nI n)) := by simp [mf_lay, hp, h.sort2 hn hV e1 k2, hf, hq, hg, hres, e1, nI_neg hn]
                rw [b, m]; exact good
              · have b : bf_lay B q p = (-10 - 3, bf_tell B 3) := by simp [bf_lay, hp, e2, k, g0, g1, hg, hf, h.isPlace hI hf q, hq, k2]
                have m : mf_lay S q p = (-10 - 3, mf_no S 3) := by simp [mf_lay, hp, h.sort1 hn hV e1 k k2, hf, hq, hg]
                rw [b, m]; exact Rel.tell H (by decide)
          · have b : bf_lay B q p = (-10 - 5, bf_tell B 5) := by simp [bf_lay, hp, e2, k, g0, hf, h.isPlace hI hf q, hq]
            have m : mf_lay S q p = (-10 - 5, mf_no S 5) := by simp [mf_lay, hp, hs3, hf, hq]
            rw [b, m]; exact Rel.tell H (by decide)
  · have b : bf_lay B q p = (-1, B) := by simp [bf_lay, hp]
    have m : mf_lay S q p = (-1, S) := by simp [mf_lay, hp]
    rw [b, m]; exact Rel.val H _
/-- a bell gets a clapper, or none; the clapper's hook holds nothing then -/
theorem sm.fit {ad : Nat → Nat} {V : Nat → Prop} {B : bl_S} {S : md_S} (h : sm ad V B S) {n k : Nat} (hn : n < 64) (hV : V n) {x : Int32} {o : Option Nat} (hx : (x = -1 ∧ o = none) ∨ ∃ c : Nat, c < 64 ∧ V c ∧ x = nI c ∧ o = some (ad c) ∧ bK B (ad c) = 3) : sm ad V (bl_ri (bl_c B (ad n) o) 0 k none) (md_ai (md_ai S 3 n x) 7 k (-1)) := by
  obtain ⟨h1, h2, h3, h4, h5, h6⟩ := h
  refine ⟨h1, h2, fun i hi => ?_, h4, fun m hm hVm => ?_, h6⟩
  · show sm_hk ad V (upd (S.1 7) k (-1) i) (va_up (bR B 0) k none i)
    by_cases e : i = k
    · subst e; rw [pk_us, va_up_self]; exact Or.inl ⟨rfl, rfl⟩
    · rw [pk_un e, va_up_ne _ _ e]; exact h3 i hi
  · obtain ⟨t1, t2, t3, t4, t5, t6, t7, t8⟩ := h5 m hm hVm
    refine ⟨t1, t2, t3, t4, t5, t6, t7, fun hk => ?_⟩
    show (upd (S.1 3) n x m = -1 ∧ va_up (bC B) (ad n) o (ad m) = none) ∨ ∃ c : Nat, c < 64 ∧ V c ∧ upd (S.1 3) n x m = nI c ∧ va_up (bC B) (ad n) o (ad m) = some (ad c) ∧ bK B (ad c) = 3
    by_cases e : m = n
    · subst e; rw [pk_us, va_up_self]; exact hx
    · have ha : ad m ≠ ad n := fun q => e (h6 m n hm hn hVm hV q)
      rw [pk_un e, va_up_ne _ _ ha]; exact t8 hk
theorem md_I.fit {S : md_S} (hI : md_I S) (n k : Nat) {x : Int32} (hx : md_ok x) : md_I (md_ai (md_ai S 3 n x) 7 k (-1)) := by
  obtain ⟨i1, i2, i3, i4, i5, i6, i7, i8, i9, i10⟩ := hI
  refine ⟨fun i hi => ?_, i2, fun i hi => ?_, i4, i5, i6, i7, i8, i9, fun i hi => ?_⟩
  · show md_ok (upd (S.1 7) k (-1) i)
    by_cases e : i = k
    · rw [e, pk_us]; exact Or.inl rfl
    · rw [pk_un e]; exact i1 i hi
  · show md_ok (upd (S.1 3) n x i)
    by_cases e : i = n
    · rw [e, pk_us]; exact hx
    · rw [pk_un e]; exact i3 i hi
  · show upd (S.1 7) k (-1) i = -1 ∨ inB (S.1 0 (upd (S.1 7) k (-1) i).toNatClampNeg) 1 3 = true
    by_cases e : i = k
    · rw [e, pk_us]; exact Or.inl rfl
    · rw [pk_un e]; exact i10 i hi
theorem bl_I.fit {B : bl_S} (hB : bl_I B) (y k : Nat) {o : Option Nat} (ho : ∀ z, o = some z → z ∈ bL B ∧ bK B z = 3) : bl_I (bl_ri (bl_c B y o) 0 k none) := by
  refine ⟨fun i hi z hz => ?_, hB.2.1, fun w hw z hz => ?_⟩
  · have hz : va_up (bR B 0) k none i = some z := hz
    by_cases e : i = k
    · subst e; rw [va_up_self] at hz; cases hz
    · rw [va_up_ne _ _ e] at hz; exact hB.1 i hi z hz
  · have hz : va_up (bC B) y o w = some z := hz
    by_cases e : w = y
    · subst e; rw [va_up_self] at hz; exact ho z hz
    · rw [va_up_ne _ _ e] at hz; exact hB.2.2 w hw z hz
theorem op_fit {B : bl_S} {S : md_S} (H : Inv B S) (p k : Int32) : Rel (bf_fit B p k) (mf_fit S p k) := by
  obtain ⟨hB, hI, ad, V, h⟩ := id H
  by_cases hp : inB p 0 9 = true
  · by_cases hk : inB k 0 9 = true
    · rcases h.hook hp with ⟨e1, e2⟩ | ⟨n, hn, hV, e1, e2⟩
      · rcases h.hook hk with ⟨f1, f2⟩ | ⟨c, hc, hVc, f1, f2⟩
        · have b : bf_fit B p k = (-10 - 1, bf_tell B 1) := by simp [bf_fit, hp, hk, e2, f2]
          have m : mf_fit S p k = (-10 - 1, mf_no S 1) := by simp [mf_fit, hp, hk, mf_sort0 e1, mf_sort0 f1, e1, show inB 0 1 2 = false by decide]
          rw [b, m]; exact Rel.tell H (by decide)
        · by_cases kc : bK B (ad c) = 3
          · have b : bf_fit B p k = (-10 - 1, bf_tell B 1) := by simp [bf_fit, hp, hk, e2, f2, kc]
            have m : mf_fit S p k = (-10 - 1, mf_no S 1) := by simp [mf_fit, hp, hk, mf_sort0 e1, h.sort3 hc hVc f1 kc, e1, show inB 3 1 2 = false by decide]
            rw [b, m]; exact Rel.tell H (by decide)
          · have hs : inB (mf_sortAt S k) 1 2 = true := by
              rcases h.sortb hc hVc f1 kc with e | e <;> rw [e] <;> decide
            have b : bf_fit B p k = (-10 - 2, bf_tell B 2) := by simp [bf_fit, hp, hk, e2, f2, kc]
            have m : mf_fit S p k = (-10 - 2, mf_no S 2) := by simp [mf_fit, hp, hk, mf_sort0 e1, hs]
            rw [b, m]; exact Rel.tell H (by decide)
      · by_cases kn : bK B (ad n) = 3
        · have b : bf_fit B p k = (-10 - 2, bf_tell B 2) := by simp [bf_fit, hp, hk, e2, kn]
          have m : mf_fit S p k = (-10 - 2, mf_no S 2) := by simp [mf_fit, hp, hk, h.sort3 hn hV e1 kn]
          rw [b, m]; exact Rel.tell H (by decide)
        · have hs3 : ¬ mf_sortAt S p = 3 := by
            rcases h.sortb hn hV e1 kn with e | e <;> rw [e] <;> decide
          have t1 := (h.2.2.2.2.1 n hn hV).1
          have key : ∀ (x : Int32) (o : Option Nat), S.1 7 k.toNatClampNeg = x → bR B 0 k.toNatClampNeg = o → p.toNatClampNeg ≠ k.toNatClampNeg → inB (mf_sortAt S k) 1 2 = false → mf_fit S p k = (if x = -1 then 0 else 1, md_ai (md_ai S 3 n x) 7 k.toNatClampNeg (-1)) := by
            intro x o hx ho hne hs
            have a1 : (md_ai (md_ai S 3 n x) 7 k.toNatClampNeg (-1)).1 7 p.toNatClampNeg = nI n := by
              show upd (S.1 7) k.toNatClampNeg (-1) p.toNatClampNeg = nI n
              rw [pk_un hne, e1]
            have a2 : (md_ai (md_ai S 3 n x) 7 k.toNatClampNeg (-1)).1 3 n = x := by
              show upd (S.1 3) n x n = x
              rw [pk_us]
            simp [mf_fit, hp, hk, hs3, hs, e1, nI_neg hn, nI_cl hn, hx, a1, a2]
          rcases h.hook hk with ⟨f1, f2⟩ | ⟨c, hc, hVc, f1, f2⟩
          · have hne : p.toNatClampNeg ≠ k.toNatClampNeg := fun e => by rw [e, f2] at e2; cases e2
            have b : bf_fit B p k = (0, bl_ri (bl_c B (ad n) none) 0 k.toNatClampNeg none) := by simp [bf_fit, hp, hk, e2, f2, kn]
            rw [b, key _ _ f1 f2 hne (by rw [mf_sort0 f1]; decide), if_pos rfl]
            exact ⟨rfl, hB.fit _ _ (fun z hz => by cases hz), hI.fit _ _ (Or.inl rfl), ad, V, h.fit hn hV (Or.inl ⟨rfl, rfl⟩)⟩
          · by_cases kc : bK B (ad c) = 3
            · have hne : p.toNatClampNeg ≠ k.toNatClampNeg := fun e => by
                rw [e, f2] at e2
                have e3 := Option.some.inj e2
                rw [← e3] at kn
                exact kn kc
              have b : bf_fit B p k = (1, bl_ri (bl_c B (ad n) (some (ad c))) 0 k.toNatClampNeg none) := by simp [bf_fit, hp, hk, e2, f2, kn, kc]
              rw [b, key _ _ f1 f2 hne (by rw [h.sort3 hc hVc f1 kc]; decide), if_neg (nI_neg hc)]
              exact ⟨rfl, hB.fit _ _ (fun z hz => by cases hz; exact ⟨(h.2.2.2.2.1 c hc hVc).1, kc⟩), hI.fit _ _ (Or.inr ⟨c, hc, rfl⟩), ad, V, h.fit hn hV (Or.inr ⟨c, hc, hVc, rfl, rfl, kc⟩)⟩
            · have hs : inB (mf_sortAt S k) 1 2 = true := by
                rcases h.sortb hc hVc f1 kc with e | e <;> rw [e] <;> decide
              have b : bf_fit B p k = (-10 - 2, bf_tell B 2) := by simp [bf_fit, hp, hk, e2, f2, kn, kc]
              have m : mf_fit S p k = (-10 - 2, mf_no S 2) := by simp [mf_fit, hp, hk, hs3, hs]
              rw [b, m]; exact Rel.tell H (by decide)
    · have b : bf_fit B p k = (-1, B) := by simp [bf_fit, hk]
      have m : mf_fit S p k = (-1, S) := by simp [mf_fit, hk]
      rw [b, m]; exact Rel.val H _
  · have b : bf_fit B p k = (-1, B) := by simp [bf_fit, hp]
    have m : mf_fit S p k = (-1, S) := by simp [mf_fit, hp]
    rw [b, m]; exact Rel.val H _
