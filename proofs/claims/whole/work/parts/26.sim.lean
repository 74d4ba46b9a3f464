/-! the class's state stands for the reference's: ad tells where each thing is, V which things are in use -/
def sm_cl (ad : Nat → Nat) (V : Nat → Prop) (B : bl_S) (S : md_S) (n : Nat) : Prop := (S.1 3 n = -1 ∧ bC B (ad n) = none) ∨ ∃ c : Nat, c < 64 ∧ V c ∧ S.1 3 n = nI c ∧ bC B (ad n) = some (ad c) ∧ bK B (ad c) = 3
def sm_th (ad : Nat → Nat) (V : Nat → Prop) (B : bl_S) (S : md_S) (n : Nat) : Prop := ad n ∈ bL B ∧ S.1 0 n = bf_sort B (ad n) ∧ S.1 1 n = bV B 0 (ad n) ∧ (S.1 2 n = if bK B (ad n) = 3 then 0 else bV B 1 (ad n)) ∧ (S.1 4 n = if bK B (ad n) = 3 then 0 else bV B 2 (ad n)) ∧ (S.1 5 n = if bK B (ad n) = 2 then bV B 3 (ad n) else 0) ∧ (bK B (ad n) = 3 → S.1 6 n = bV B 4 (ad n)) ∧ (¬ bK B (ad n) = 3 → sm_cl ad V B S n)
def sm_hk (ad : Nat → Nat) (V : Nat → Prop) (x : Int32) (o : Option Nat) : Prop := (x = -1 ∧ o = none) ∨ ∃ n : Nat, n < 64 ∧ V n ∧ x = nI n ∧ o = some (ad n)
def sm (ad : Nat → Nat) (V : Nat → Prop) (B : bl_S) (S : md_S) : Prop := (B.1 0 = S.1 9 ∧ B.1 1 = S.1 10 ∧ B.1 2 = S.1 11) ∧ ((∀ k, k ≠ 4 → B.2.1 k = S.2 k) ∧ (S.2 3 = -1 ∨ B.2.1 4 = S.2 4)) ∧ (∀ i, i < 10 → sm_hk ad V (S.1 7 i) (bR B 0 i)) ∧ (∀ i, i < (S.2 0).toNatClampNeg → sm_hk ad V (S.1 8 i) (bR B 1 i)) ∧ (∀ n, n < 64 → V n → sm_th ad V B S n) ∧ ∀ m n, m < 64 → n < 64 → V m → V n → ad m = ad n → m = n
def Inv (B : bl_S) (S : md_S) : Prop := bl_I B ∧ md_I S ∧ ∃ (ad : Nat → Nat) (V : Nat → Prop), sm ad V B S
def Rel (q : Int32 × bl_S) (r : Int32 × md_S) : Prop := q.1 = r.1 ∧ Inv q.2 r.2
theorem nI_neg {n : Nat} (h : n < 64) : ¬ nI n = -1 := by
  intro e
  have := congrArg Int32.toInt e
  rw [nI_toInt (by omega)] at this
  have z : (-1 : Int32).toInt = -1 := by decide
  omega
theorem nI_inj {m n : Nat} (hm : m < 64) (hn : n < 64) (e : nI m = nI n) : m = n := (nI_eq (by omega) (by omega)).mp e
theorem nI_cl {n : Nat} (h : n < 64) : (nI n).toNatClampNeg = n := nI_clamp (by omega)
theorem Rel.val {B : bl_S} {S : md_S} (h : Inv B S) (x : Int32) : Rel (x, B) (x, S) := ⟨rfl, h⟩
theorem sm.tell {ad : Nat → Nat} {V : Nat → Prop} {B : bl_S} {S : md_S} (h : sm ad V B S) {k : Int32} (hk : inB k 1 6 = true) : sm ad V (bf_tell B k) (mf_no S k) := by
  obtain ⟨⟨a1, a2, a3⟩, h2, h3, h4, h5, h6⟩ := h
  have e : bf_tell B k = bl_ai B 2 k.toNatClampNeg (B.1 2 k.toNatClampNeg + 1) := by simp [bf_tell, hk]
  rw [e]
  refine ⟨⟨a1, a2, ?_⟩, h2, h3, h4, h5, h6⟩
  show upd (B.1 2) k.toNatClampNeg (B.1 2 k.toNatClampNeg + 1) = upd (S.1 11) k.toNatClampNeg (S.1 11 k.toNatClampNeg + 1)
  rw [a3]
theorem Inv.tell {B : bl_S} {S : md_S} (h : Inv B S) {k : Int32} (hk : inB k 1 6 = true) : Inv (bf_tell B k) (mf_no S k) := by
  obtain ⟨h1, h2, ad, V, h3⟩ := h
  exact ⟨(bl_same.tell B k).I h1, md_same.no.I h2, ad, V, h3.tell hk⟩
theorem Rel.tell {B : bl_S} {S : md_S} (h : Inv B S) {k : Int32} (hk : inB k 1 6 = true) : Rel (-10 - k, bf_tell B k) (-10 - k, mf_no S k) := ⟨rfl, h.tell hk⟩
theorem sm.lev {ad : Nat → Nat} {V : Nat → Prop} {B : bl_S} {S : md_S} (h : sm ad V B S) (x : Int32) : sm ad V (bl_s B 5 x) (md_s S 5 x) := by
  obtain ⟨h1, ⟨g1, g2⟩, h3, h4, h5, h6⟩ := h
  refine ⟨h1, ⟨fun k hk => ?_, g2⟩, h3, h4, h5, h6⟩
  show va_up B.2.1 5 x k = va_up S.2 5 x k
  by_cases q : k = 5
  · subst q; rw [va_up_self, va_up_self]
  · rw [va_up_ne _ _ q, va_up_ne _ _ q]; exact g1 k hk
theorem sm.hook {ad : Nat → Nat} {V : Nat → Prop} {B : bl_S} {S : md_S} (h : sm ad V B S) {p : Int32} (hp : inB p 0 9 = true) : (S.1 7 p.toNatClampNeg = -1 ∧ bR B 0 p.toNatClampNeg = none) ∨ ∃ n : Nat, n < 64 ∧ V n ∧ S.1 7 p.toNatClampNeg = nI n ∧ bR B 0 p.toNatClampNeg = some (ad n) := h.2.2.1 _ (vp_lt (vp_inB hp (n := 10) (by decide)))
theorem bf_sort3 {B : bl_S} {y : Nat} (h : bK B y = 3) : bf_sort B y = 3 := if_pos h
theorem bf_sort2 {B : bl_S} {y : Nat} (h : bK B y = 2) : bf_sort B y = 2 := by simp [bf_sort, h]
theorem bf_sort1 {B : bl_S} {y : Nat} (h : ¬ bK B y = 3) (h2 : ¬ bK B y = 2) : bf_sort B y = 1 := by simp [bf_sort, h, h2]
/-- the reference's view of a hook that holds thing n -/
theorem sm.sort {ad : Nat → Nat} {V : Nat → Prop} {B : bl_S} {S : md_S} (h : sm ad V B S) {p : Int32} {n : Nat} (hn : n < 64) (hV : V n) (e : S.1 7 p.toNatClampNeg = nI n) : mf_sortAt S p = bf_sort B (ad n) := by
  rw [← (h.2.2.2.2.1 n hn hV).2.1]
  simp [mf_sortAt, e, nI_neg hn, nI_cl hn]
theorem mf_sort0 {S : md_S} {p : Int32} (e : S.1 7 p.toNatClampNeg = -1) : mf_sortAt S p = 0 := by simp [mf_sortAt, e]
theorem mf_ag0 {S : md_S} {p g : Int32} (e : S.1 7 p.toNatClampNeg = -1) : mf_against S p g = 1 := by simp [mf_against, mf_sort0 e]
theorem mf_ag3 {S : md_S} {p g : Int32} (e : mf_sortAt S p = 3) : mf_against S p g = 2 := by
  simp [mf_against, e]
theorem mf_agb {S : md_S} {p : Int32} (e : mf_sortAt S p = 1 ∨ mf_sortAt S p = 2) : mf_against S p 0 = 0 := by
  rcases e with e | e <;> simp [mf_against, e]
theorem mf_ag2 {S : md_S} {p : Int32} (e : mf_sortAt S p = 2) : mf_against S p 1 = 0 := by simp [mf_against, e]
theorem mf_ag1 {S : md_S} {p : Int32} (e : mf_sortAt S p = 1) : mf_against S p 1 = 2 := by simp [mf_against, e]
theorem sm.v1 {ad : Nat → Nat} {V : Nat → Prop} {B : bl_S} {S : md_S} (h : sm ad V B S) {n : Nat} (hn : n < 64) (hV : V n) (hk : ¬ bK B (ad n) = 3) (x : Int32) : sm ad V (bl_v B 1 (ad n) x) (md_ai S 2 n x) := by
  obtain ⟨h1, h2, h3, h4, h5, h6⟩ := h
  refine ⟨h1, h2, h3, h4, fun m hm hVm => ?_, h6⟩
  obtain ⟨t1, t2, t3, t4, t5, t6, t7, t8⟩ := h5 m hm hVm
  refine ⟨t1, t2, t3, ?_, t5, t6, t7, t8⟩
  by_cases e : m = n
  · subst e
    show upd (S.1 2) m x m = if bK B (ad m) = 3 then 0 else va_up (bV B 1) (ad m) x (ad m)
    rw [pk_us, if_neg hk, va_up_self]
  · have ha : ad m ≠ ad n := fun q => e (h6 m n hm hn hVm hV q)
    show upd (S.1 2) n x m = if bK B (ad m) = 3 then 0 else va_up (bV B 1) (ad n) x (ad m)
    rw [pk_un e, va_up_ne _ _ ha]; exact t4
theorem sm.v2 {ad : Nat → Nat} {V : Nat → Prop} {B : bl_S} {S : md_S} (h : sm ad V B S) {n : Nat} (hn : n < 64) (hV : V n) (hk : ¬ bK B (ad n) = 3) (x : Int32) : sm ad V (bl_v B 2 (ad n) x) (md_ai S 4 n x) := by
  obtain ⟨h1, h2, h3, h4, h5, h6⟩ := h
  refine ⟨h1, h2, h3, h4, fun m hm hVm => ?_, h6⟩
  obtain ⟨t1, t2, t3, t4, t5, t6, t7, t8⟩ := h5 m hm hVm
  refine ⟨t1, t2, t3, t4, ?_, t6, t7, t8⟩
  by_cases e : m = n
  · subst e
    show upd (S.1 4) m x m = if bK B (ad m) = 3 then 0 else va_up (bV B 2) (ad m) x (ad m)
    rw [pk_us, if_neg hk, va_up_self]
  · have ha : ad m ≠ ad n := fun q => e (h6 m n hm hn hVm hV q)
    show upd (S.1 4) n x m = if bK B (ad m) = 3 then 0 else va_up (bV B 2) (ad n) x (ad m)
    rw [pk_un e, va_up_ne _ _ ha]; exact t5
theorem sm.v3 {ad : Nat → Nat} {V : Nat → Prop} {B : bl_S} {S : md_S} (h : sm ad V B S) {n : Nat} (hn : n < 64) (hV : V n) (hk : bK B (ad n) = 2) (x : Int32) : sm ad V (bl_v B 3 (ad n) x) (md_ai S 5 n x) := by
  obtain ⟨h1, h2, h3, h4, h5, h6⟩ := h
  refine ⟨h1, h2, h3, h4, fun m hm hVm => ?_, h6⟩
  obtain ⟨t1, t2, t3, t4, t5, t6, t7, t8⟩ := h5 m hm hVm
  refine ⟨t1, t2, t3, t4, t5, ?_, t7, t8⟩
  by_cases e : m = n
  · subst e
    show upd (S.1 5) m x m = if bK B (ad m) = 2 then va_up (bV B 3) (ad m) x (ad m) else 0
    rw [pk_us, if_pos hk, va_up_self]
  · have ha : ad m ≠ ad n := fun q => e (h6 m n hm hn hVm hV q)
    show upd (S.1 5) n x m = if bK B (ad m) = 2 then va_up (bV B 3) (ad n) x (ad m) else 0
    rw [pk_un e, va_up_ne _ _ ha]; exact t6
theorem sm.v4 {ad : Nat → Nat} {V : Nat → Prop} {B : bl_S} {S : md_S} (h : sm ad V B S) {n : Nat} (hn : n < 64) (hV : V n) (hk : bK B (ad n) = 3) (x : Int32) : sm ad V (bl_v B 4 (ad n) x) (md_ai S 6 n x) := by
  obtain ⟨h1, h2, h3, h4, h5, h6⟩ := h
  refine ⟨h1, h2, h3, h4, fun m hm hVm => ?_, h6⟩
  obtain ⟨t1, t2, t3, t4, t5, t6, t7, t8⟩ := h5 m hm hVm
  refine ⟨t1, t2, t3, t4, t5, t6, ?_, t8⟩
  intro hk3
  by_cases e : m = n
  · subst e
    show upd (S.1 6) m x m = va_up (bV B 4) (ad m) x (ad m)
    rw [pk_us, va_up_self]
  · have ha : ad m ≠ ad n := fun q => e (h6 m n hm hn hVm hV q)
    show upd (S.1 6) n x m = va_up (bV B 4) (ad n) x (ad m)
    rw [pk_un e, va_up_ne _ _ ha]; exact t7 hk3
/-- an alarm goes off -/
theorem sm_off {ad : Nat → Nat} {V : Nat → Prop} {B : bl_S} {S : md_S} (hB : bl_I B) (hI : md_I S) (h : sm ad V B S) {n : Nat} (hn : n < 64) (hV : V n) (hk : ¬ bK B (ad n) = 3) : Rel (bf_goOff B (ad n)) (if S.1 4 n = 0 then (-10 - 1, mf_no S 1) else (-10 - 6, mf_no (md_s S 5 (S.1 4 n)) 6)) := by
  have e : S.1 4 n = bV B 2 (ad n) := by rw [(h.2.2.2.2.1 n hn hV).2.2.2.2.1, if_neg hk]
  rw [e]
  unfold bf_goOff
  by_cases q : bV B 2 (ad n) = 0
  · rw [if_pos q, if_pos q]
    exact Rel.tell ⟨hB, hI, ad, V, h⟩ (by decide)
  · rw [if_neg q, if_neg q]
    exact Rel.tell ⟨bl_same.s.I hB, md_same.s.I hI, ad, V, h.lev _⟩ (by decide)
theorem mf_got1 (U : md_S) : mf_got (-1, U) = (-10 - 1, mf_no U 1) := by
  have e : -(-1 : Int32) = 1 := by decide
  have e2 : (-1 : Int32) < 0 := by decide
  simp only [mf_got, e, if_pos e2]
theorem mf_got6 (U : md_S) : mf_got (-6, U) = (-10 - 6, mf_no U 6) := by
  have e : -(-6 : Int32) = 6 := by decide
  have e2 : (-6 : Int32) < 0 := by decide
  simp only [mf_got, e, if_pos e2]
/-- a bell is rung -/
theorem sm_sound {ad : Nat → Nat} {V : Nat → Prop} {B : bl_S} {S : md_S} (hB : bl_I B) (hI : md_I S) (h : sm ad V B S) {n : Nat} (hn : n < 64) (hV : V n) (hk : ¬ bK B (ad n) = 3) : Rel (bf_sound B (ad n)) (mf_got (mf_rings S (nI n))) := by
  have e0 : S.1 2 n = bV B 1 (ad n) := by rw [(h.2.2.2.2.1 n hn hV).2.2.2.1, if_neg hk]
  have hT := h.v1 hn hV hk (bV B 1 (ad n) + 1)
  have hBT : bl_I (bl_v B 1 (ad n) (bV B 1 (ad n) + 1)) := hB
  have hIT : md_I (md_ai S 2 n (bV B 1 (ad n) + 1)) := (md_same.ai (Or.inl rfl)).I hI
  have hkT : ¬ bK (bl_v B 1 (ad n) (bV B 1 (ad n) + 1)) (ad n) = 3 := hk
  simp only [mf_rings, nI_cl hn, e0]
  unfold bf_sound
  generalize bl_v B 1 (ad n) (bV B 1 (ad n) + 1) = T at hT hBT hkT ⊢
  generalize md_ai S 2 n (bV B 1 (ad n) + 1) = U at hT hIT ⊢
  obtain ⟨t1, t2, t3, t4, t5, t6, t7, t8⟩ := hT.2.2.2.2.1 n hn hV
  rw [if_neg hkT] at t4 t5
  rw [t4]
  by_cases q : 5 < bV T 1 (ad n)
  · rw [if_pos q, if_pos q]
    have hR := sm_off hBT hIT hT hn hV hkT
    by_cases q2 : U.1 4 n = 0
    · rw [if_pos q2] at hR ⊢
      rw [mf_got1]
      exact hR
    · rw [if_neg q2] at hR ⊢
      rw [mf_got6]
      exact hR
  · rw [if_neg q, if_neg q]
    rcases t8 hkT with ⟨c1, c2⟩ | ⟨c, hc, hVc, c1, c2, c3⟩
    · rw [c2, if_pos c1, mf_got1]
      exact Rel.tell ⟨hBT, hIT, ad, V, hT⟩ (k := 1) (by decide)
    · rw [c2, c1, if_neg (nI_neg hc), nI_cl hc]
      obtain ⟨u1, u2, u3, u4, u5, u6, u7, u8⟩ := hT.2.2.2.2.1 c hc hVc
      have hU := hT.v4 hc hVc c3 (bV T 4 (ad c) + 1)
      have hw1 := (hIT.2.2.2.2.2.2.2.1 n hn).1
      have hw2 := (hIT.2.2.2.2.2.2.2.1 c hc).1
      have hw3 := (hIT.2.2.2.2.2.2.2.1 n hn).2
      have e1 : U.1 6 c = bV T 4 (ad c) := u7 c3
      have e2 : (if U.1 0 n = 2 then U.1 5 n else 0) = (if bK T (ad n) = 2 then bV T 3 (ad n) else 0) := by
        rw [t2]
        by_cases k2 : bK T (ad n) = 2
        · rw [bf_sort2 k2, if_pos rfl, if_pos k2, t6, if_pos k2]
        · rw [bf_sort1 hkT k2, if_neg (by decide), if_neg k2]
      have e3 : inB (if U.1 0 n = 2 then U.1 5 n else 0) 0 1000 = true := by
        split
        · exact hw3
        · decide
      have hpos := inB_sum hw1 hw2 e3
      have eg : mf_got (U.1 1 n + U.1 1 c + (if U.1 0 n = 2 then U.1 5 n else 0), md_ai U 6 c (U.1 6 c + 1)) = (U.1 1 n + U.1 1 c + (if U.1 0 n = 2 then U.1 5 n else 0), md_ai U 6 c (U.1 6 c + 1)) := if_neg hpos
      show Rel _ (mf_got (U.1 1 n + U.1 1 c + (if U.1 0 n = 2 then U.1 5 n else 0), md_ai U 6 c (U.1 6 c + 1)))
      rw [eg]
      refine ⟨?_, hBT, (md_same.ai (Or.inr (Or.inl rfl))).I hIT, ad, V, ?_⟩
      · show bV T 0 (ad n) + bV T 0 (ad c) + (if bK T (ad n) = 2 then bV T 3 (ad n) else 0) = U.1 1 n + U.1 1 c + (if U.1 0 n = 2 then U.1 5 n else 0)
        rw [e2, t3, u3]
      · rw [e1]
        exact hU
