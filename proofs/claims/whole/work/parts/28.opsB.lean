/-- a length that is there: the class's test of a place is the reference's -/
theorem pl_eq {f q : Int32} (h : md_ln f) (hf : ¬ f = -1) : inB q 0 (f - 1) = (!decide (q < 0) && (decide (q < f) && decide (q < 12))) := by
  rcases h with h | ⟨n, hn, e⟩
  · exact absurd h hf
  · have e1 := md_ln.sub hn e
    have e2 : f.toInt = n := by rw [e]; exact nI_toInt (by omega)
    have z : (0 : Int32).toInt = 0 := by decide
    have z2 : (12 : Int32).toInt = 12 := by decide
    rw [Bool.eq_iff_iff]
    simp only [inB, Bool.and_eq_true, Bool.not_eq_true', decide_eq_true_eq, decide_eq_false_iff_not, Int32.le_iff_toInt_le, Int32.lt_iff_toInt_lt, e1, e2, z, z2]
    omega
theorem sm.isPlace {ad : Nat → Nat} {V : Nat → Prop} {B : bl_S} {S : md_S} (h : sm ad V B S) (hI : md_I S) (hf : ¬ S.2 0 = -1) (q : Int32) : bf_isPlace B q = inB q 0 (S.2 0 - 1) := by
  rw [pl_eq hI.2.2.2.1 hf]
  unfold bf_isPlace
  rw [h.2.1.1 0 (by decide)]
theorem sm.isNumber {ad : Nat → Nat} {V : Nat → Prop} {B : bl_S} {S : md_S} (h : sm ad V B S) (hI : md_I S) (hf : ¬ S.2 2 = -1) (q : Int32) : bf_isNumber B q = inB q 0 (S.2 2 - 1) := by
  rw [pl_eq hI.2.2.2.2.1 hf]
  unfold bf_isNumber
  rw [h.2.1.1 2 (by decide)]
theorem sm.isMark {ad : Nat → Nat} {V : Nat → Prop} {B : bl_S} {S : md_S} (h : sm ad V B S) (hI : md_I S) (hf : ¬ S.2 3 = -1) (i j : Int32) : bf_isMark B i j = (inB i 0 (S.2 3 - 1) && inB j 0 (S.2 4 - 1)) := by
  rw [pl_eq hI.2.2.2.2.2.1 hf, pl_eq hI.2.2.2.2.2.2.1.1 hI.2.2.2.2.2.2.1.2]
  unfold bf_isMark
  have e4 : B.2.1 4 = S.2 4 := h.2.1.2.resolve_left hf
  rw [h.2.1.1 3 (by decide), e4]
  simp only [Bool.and_assoc]
/-- a place of the frame -/
theorem sm.place {ad : Nat → Nat} {V : Nat → Prop} {B : bl_S} {S : md_S} (h : sm ad V B S) (hI : md_I S) (hf : ¬ S.2 0 = -1) {q : Int32} (hq : inB q 0 (S.2 0 - 1) = true) : q.toNatClampNeg < (S.2 0).toNatClampNeg ∧ q.toNatClampNeg < 12 := by
  rcases hI.2.2.2.1 with e | ⟨n, hn, e⟩
  · exact absurd e hf
  · have h1 := inB_toInt hq
    rw [md_ln.sub hn e] at h1
    have z : (0 : Int32).toInt = 0 := by decide
    obtain ⟨j, hj, ej⟩ := vp_in_of (x := q) (n := 12) (md_ln.in hI.2.2.2.1 hf hq).1 (by decide)
    have e2 : q.toInt = j := by rw [ej]; exact nI_toInt (by omega)
    rw [ej, e, nI_clamp (by omega), nI_clamp (by omega)]
    omega
theorem op_see {B : bl_S} {S : md_S} (H : Inv B S) (q : Int32) : Rel (bf_see B q) (mf_see S q) := by
  obtain ⟨hB, hI, ad, V, h⟩ := id H
  unfold bf_see mf_see
  rw [h.2.1.1 0 (by decide)]
  by_cases hf : S.2 0 = -1
  · rw [if_pos hf, if_pos hf]; exact Rel.tell H (by decide)
  · rw [if_neg hf, if_neg hf, h.isPlace hI hf q]
    by_cases hq : inB q 0 (S.2 0 - 1) = true
    · rw [if_pos hq, if_pos hq]
      rcases h.2.2.2.1 _ (h.place hI hf hq).1 with ⟨e1, e2⟩ | ⟨n, hn, hV, e1, e2⟩
      · rw [e2, if_pos e1]; exact Rel.tell H (k := 1) (by decide)
      · rw [e2, e1, if_neg (nI_neg hn), nI_cl hn, (h.2.2.2.2.1 n hn hV).2.2.1]; exact Rel.val H _
    · rw [if_neg hq, if_neg hq]; exact Rel.tell H (by decide)
/-- the places of the frame hold bells -/
def sm_pb (B : bl_S) (S : md_S) : Prop := ∀ i, i < (S.2 0).toNatClampNeg → i < 12
theorem op_strike {B : bl_S} {S : md_S} (H : Inv B S) (i : Int32) : Rel (bf_strike B i) (mf_strike S i) := by
  obtain ⟨hB, hI, ad, V, h⟩ := id H
  unfold bf_strike mf_strike
  rw [h.2.1.1 2 (by decide), h.2.1.1 0 (by decide), h.1.1]
  by_cases hc : S.2 2 = -1
  · rw [if_pos hc, if_pos hc]; exact Rel.tell H (by decide)
  · rw [if_neg hc, if_neg hc, h.isNumber hI hc i]
    by_cases hi : inB i 0 (S.2 2 - 1) = true
    · rw [if_pos hi, if_pos hi]
      by_cases hf : S.2 0 = -1
      · rw [if_pos hf, if_pos hf]; exact Rel.tell H (by decide)
      · rw [if_neg hf, if_neg hf, h.isPlace hI hf]
        by_cases hq : inB (S.1 9 i.toNatClampNeg) 0 (S.2 0 - 1) = true
        · rw [if_pos hq, if_pos hq]
          have hlt := h.place hI hf hq
          rcases h.2.2.2.1 _ hlt.1 with ⟨e1, e2⟩ | ⟨n, hn, hV, e1, e2⟩
          · rw [e2, if_pos e1, mf_got1]; exact Rel.tell H (k := 1) (by decide)
          · rw [e2, e1, if_neg (nI_neg hn)]
            exact sm_sound hB hI h hn hV (hB.2.1 _ hlt.2 _ e2).2
        · rw [if_neg hq, if_neg hq]; exact Rel.tell H (by decide)
    · rw [if_neg hi, if_neg hi]; exact Rel.tell H (by decide)
theorem op_loop (mode : Int32) : ∀ (k i : Nat) (n : Int32) {B : bl_S} {S : md_S}, Inv B S → Rel (bf_loop mode k i n B) (mf_loop mode k i n S) := by
  intro k
  induction k with
  | zero => intro i n B S H; exact Rel.val H n
  | succ k ih =>
    intro i n B S H
    have hR := op_strike H (nI i)
    unfold bf_loop mf_loop
    rw [← hR.1]
    by_cases hq : (bf_strike B (nI i)).1 < 0
    · rw [if_pos hq, if_pos hq]
      by_cases hm : mode = 1
      · rw [if_pos hm, if_pos hm]; exact hR
      · rw [if_neg hm, if_neg hm, Int32.add_zero]; exact ih (i + 1) n hR.2
    · rw [if_neg hq, if_neg hq]; exact ih (i + 1) (n + 1) hR.2
theorem op_chime {B : bl_S} {S : md_S} (H : Inv B S) (mode : Int32) : Rel (bf_chime B mode) (mf_chime S mode) := by
  obtain ⟨hB, hI, ad, V, h⟩ := id H
  unfold bf_chime mf_chime
  rw [h.2.1.1 2 (by decide)]
  split
  · split
    · exact Rel.tell H (by decide)
    · exact op_loop mode _ _ _ H
  · exact Rel.val H _
theorem sm.sc {ad : Nat → Nat} {V : Nat → Prop} {B : bl_S} {S : md_S} (h : sm ad V B S) {k : Nat} (hk : k ≠ 4) (j : Nat) (hj : j ≠ 4) (x : Int32) : va_up B.2.1 k x j = va_up S.2 k x j := by
  by_cases e : j = k
  · subst e; rw [va_up_self, va_up_self]
  · rw [va_up_ne _ _ e, va_up_ne _ _ e]; exact h.2.1.1 j hj
theorem in_ln {n : Int32} (h1 : ¬ 12 < n) (h2 : ¬ n < 0) : md_ln n := by
  have a := Int32.le_iff_toInt_le.mp (Int32.not_lt.mp h1)
  have b := Int32.le_iff_toInt_le.mp (Int32.not_lt.mp h2)
  have z : (0 : Int32).toInt = 0 := by decide
  have z2 : (12 : Int32).toInt = 12 := by decide
  obtain ⟨j, hj, e⟩ := vp_in_of (x := n) (n := 13) (vp_in_iff.mpr (by omega)) (by decide)
  exact Or.inr ⟨j, by omega, e⟩
theorem in_ln1 {n : Int32} (h2 : ¬ n < 0) : ¬ n = -1 := fun e => h2 (by rw [e]; decide)
theorem op_change {B : bl_S} {S : md_S} (H : Inv B S) (n : Int32) : Rel (bf_change B n) (mf_change S n) := by
  obtain ⟨hB, hI, ad, V, h⟩ := id H
  unfold bf_change mf_change
  by_cases h1 : 12 < n
  · rw [if_pos h1, if_pos h1]; exact Rel.val H _
  · rw [if_neg h1, if_neg h1]
    by_cases h2 : n < 0
    · rw [if_pos h2, if_pos h2]; exact Rel.tell H (by decide)
    · rw [if_neg h2, if_neg h2]
      obtain ⟨⟨a1, a2, a3⟩, ⟨g1, g2⟩, h3, h4, h5, h6⟩ := h
      obtain ⟨i1, i2, i3, i4, i5, i6, i7, i8, i9, i10⟩ := hI
      refine ⟨rfl, hB, ⟨i1, i2, i3, i4, in_ln h1 h2, i6, i7, i8, i9, i10⟩, ad, V, ⟨?_, a2, a3⟩, ⟨fun j hj => sm.sc ⟨⟨a1, a2, a3⟩, ⟨g1, g2⟩, h3, h4, h5, h6⟩ (by decide) j hj n, g2⟩, h3, h4, h5, h6⟩
      show fl (B.1 0) 12 0 = fl (S.1 9) 12 0
      rw [a1]
theorem op_call {B : bl_S} {S : md_S} (H : Inv B S) (i x : Int32) : Rel (bf_call B i x) (mf_call S i x) := by
  obtain ⟨hB, hI, ad, V, h⟩ := id H
  unfold bf_call mf_call
  rw [h.2.1.1 2 (by decide)]
  by_cases hx : inB x 0 99 = true
  · rw [if_pos hx, if_pos hx]
    by_cases hc : S.2 2 = -1
    · rw [if_pos hc, if_pos hc]; exact Rel.tell H (by decide)
    · rw [if_neg hc, if_neg hc, h.isNumber hI hc i]
      by_cases hi : inB i 0 (S.2 2 - 1) = true
      · rw [if_pos hi, if_pos hi]
        obtain ⟨⟨a1, a2, a3⟩, h2, h3, h4, h5, h6⟩ := h
        refine ⟨rfl, hB, hI, ad, V, ⟨?_, a2, a3⟩, h2, h3, h4, h5, h6⟩
        show upd (B.1 0) i.toNatClampNeg x = upd (S.1 9) i.toNatClampNeg x
        rw [a1]
      · rw [if_neg hi, if_neg hi]; exact Rel.tell H (by decide)
  · rw [if_neg hx, if_neg hx]; exact Rel.val H _
theorem op_peal {B : bl_S} {S : md_S} (H : Inv B S) (n k : Int32) : Rel (bf_peal B n k) (mf_peal S n k) := by
  obtain ⟨hB, hI, ad, V, h⟩ := id H
  unfold bf_peal mf_peal
  by_cases h1 : 12 < n
  · rw [if_pos h1, if_pos h1]; exact Rel.val H _
  rw [if_neg h1, if_neg h1]
  by_cases h2 : 12 < k
  · rw [if_pos h2, if_pos h2]; exact Rel.val H _
  rw [if_neg h2, if_neg h2]
  by_cases h3 : n < 0
  · rw [if_pos h3, if_pos h3]; exact Rel.tell H (by decide)
  rw [if_neg h3, if_neg h3]
  by_cases h4 : k < 0
  · rw [if_pos h4, if_pos h4]; exact Rel.tell H (by decide)
  rw [if_neg h4, if_neg h4]
  obtain ⟨⟨a1, a2, a3⟩, ⟨g1, g2⟩, s3, s4, s5, s6⟩ := h
  obtain ⟨i1, i2, i3, i4, i5, i6, i7, i8, i9, i10⟩ := hI
  refine ⟨rfl, hB, ⟨i1, i2, i3, i4, i5, in_ln h1 h3, ⟨in_ln h2 h4, in_ln1 h4⟩, i8, i9, i10⟩, ad, V, ⟨a1, ?_, a3⟩, ⟨fun j hj => ?_, Or.inr rfl⟩, s3, s4, s5, s6⟩
  · show fl (B.1 1) 144 0 = fl (S.1 10) 144 0
    rw [a2]
  · show va_up (va_up B.2.1 3 n) 4 k j = va_up (va_up S.2 3 n) 4 k j
    rw [va_up_ne _ _ hj, va_up_ne _ _ hj]
    by_cases e : j = 3
    · subst e; rw [va_up_self, va_up_self]
    · rw [va_up_ne _ _ e, va_up_ne _ _ e]; exact g1 j hj
theorem op_mark {B : bl_S} {S : md_S} (H : Inv B S) (i j x : Int32) : Rel (bf_mark B i j x) (mf_mark S i j x) := by
  obtain ⟨hB, hI, ad, V, h⟩ := id H
  unfold bf_mark mf_mark
  rw [h.2.1.1 3 (by decide)]
  by_cases hx : inB x 0 99 = true
  · rw [if_pos hx, if_pos hx]
    by_cases hc : S.2 3 = -1
    · rw [if_pos hc, if_pos hc]; exact Rel.tell H (by decide)
    · rw [if_neg hc, if_neg hc, h.isMark hI hc i j]
      by_cases hi : (inB i 0 (S.2 3 - 1) && inB j 0 (S.2 4 - 1)) = true
      · rw [if_pos hi, if_pos hi]
        obtain ⟨⟨a1, a2, a3⟩, h2, h3, h4, h5, h6⟩ := h
        refine ⟨rfl, hB, hI, ad, V, ⟨a1, ?_, a3⟩, h2, h3, h4, h5, h6⟩
        show upd (B.1 1) (i * 12 + j).toNatClampNeg x = upd (S.1 10) (12 * i + j).toNatClampNeg x
        rw [a2, Int32.mul_comm]
      · rw [if_neg hi, if_neg hi]; exact Rel.tell H (by decide)
  · rw [if_neg hx, if_neg hx]; exact Rel.val H _
theorem op_marked {B : bl_S} {S : md_S} (H : Inv B S) (i j : Int32) : Rel (bf_marked B i j) (mf_marked S i j) := by
  obtain ⟨hB, hI, ad, V, h⟩ := id H
  unfold bf_marked mf_marked
  rw [h.2.1.1 3 (by decide)]
  by_cases hc : S.2 3 = -1
  · rw [if_pos hc, if_pos hc]; exact Rel.tell H (by decide)
  · rw [if_neg hc, if_neg hc, h.isMark hI hc i j]
    by_cases hi : (inB i 0 (S.2 3 - 1) && inB j 0 (S.2 4 - 1)) = true
    · rw [if_pos hi, if_pos hi, h.1.2.1, Int32.mul_comm]; exact Rel.val H _
    · rw [if_neg hi, if_neg hi]; exact Rel.tell H (by decide)
