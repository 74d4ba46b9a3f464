/-! what a stroke may change in the reference: strokes, wear, told, level -/
def md_same (S T : md_S) : Prop := (∀ k, k ≠ 2 → k ≠ 6 → k ≠ 11 → T.1 k = S.1 k) ∧ ∀ k, k ≠ 5 → T.2 k = S.2 k
theorem md_same.rf {S : md_S} : md_same S S := ⟨fun _ _ _ _ => rfl, fun _ _ => rfl⟩
theorem md_same.tr {S T U : md_S} (h1 : md_same S T) (h2 : md_same T U) : md_same S U := ⟨fun k a b c => (h2.1 k a b c).trans (h1.1 k a b c), fun k a => (h2.2 k a).trans (h1.2 k a)⟩
theorem md_same.ai {S : md_S} {k i : Nat} {x : Int32} (hk : k = 2 ∨ k = 6 ∨ k = 11) : md_same S (md_ai S k i x) := ⟨fun j a b c => va_up_ne _ _ (by omega), fun _ _ => rfl⟩
theorem md_same.s {S : md_S} {x : Int32} : md_same S (md_s S 5 x) := ⟨fun _ _ _ _ => rfl, fun j a => va_up_ne _ _ a⟩
theorem md_same.no {S : md_S} {k : Int32} : md_same S (mf_no S k) := md_same.ai (by omega)
theorem md_same.rings (S : md_S) (b : Int32) : md_same S (mf_rings S b).2 := by
  simp only [mf_rings]
  split
  · split
    · exact md_same.ai (by omega)
    · exact (md_same.ai (by omega)).tr md_same.s
  · split
    · exact md_same.ai (by omega)
    · exact (md_same.ai (by omega)).tr (md_same.ai (by omega))
theorem md_same.got {S : md_S} {q : Int32 × md_S} (h : md_same S q.2) : md_same S (mf_got q).2 := by
  unfold mf_got
  split
  · exact h.tr md_same.no
  · exact h
theorem md_same.strike (S : md_S) (i : Int32) : md_same S (mf_strike S i).2 := by
  unfold mf_strike
  split
  · exact md_same.no
  split
  · split
    · exact md_same.no
    split
    · split
      · exact md_same.got md_same.rf
      · exact md_same.got (md_same.rings _ _)
    · exact md_same.no
  · exact md_same.no
theorem md_same.I {S T : md_S} (h : md_same S T) (hI : md_I S) : md_I T := by
  have e7 := h.1 7 (by decide) (by decide) (by decide)
  have e8 := h.1 8 (by decide) (by decide) (by decide)
  have e3 := h.1 3 (by decide) (by decide) (by decide)
  have e1 := h.1 1 (by decide) (by decide) (by decide)
  have e5 := h.1 5 (by decide) (by decide) (by decide)
  have e0 := h.1 0 (by decide) (by decide) (by decide)
  have f0 := h.2 0 (by decide)
  have f1 := h.2 1 (by decide)
  have f2 := h.2 2 (by decide)
  have f3 := h.2 3 (by decide)
  have f4 := h.2 4 (by decide)
  unfold md_I
  rw [e7, e8, e3, e1, e5, e0, f0, f1, f2, f3, f4]
  exact hI
