/-! each call: both answer alike, and go on alike -/
theorem sm.sort3 {ad : Nat → Nat} {V : Nat → Prop} {B : bl_S} {S : md_S} (h : sm ad V B S) {p : Int32} {n : Nat} (hn : n < 64) (hV : V n) (e : S.1 7 p.toNatClampNeg = nI n) (k : bK B (ad n) = 3) : mf_sortAt S p = 3 := (h.sort hn hV e).trans (bf_sort3 k)
theorem sm.sort2 {ad : Nat → Nat} {V : Nat → Prop} {B : bl_S} {S : md_S} (h : sm ad V B S) {p : Int32} {n : Nat} (hn : n < 64) (hV : V n) (e : S.1 7 p.toNatClampNeg = nI n) (k : bK B (ad n) = 2) : mf_sortAt S p = 2 := (h.sort hn hV e).trans (bf_sort2 k)
theorem sm.sort1 {ad : Nat → Nat} {V : Nat → Prop} {B : bl_S} {S : md_S} (h : sm ad V B S) {p : Int32} {n : Nat} (hn : n < 64) (hV : V n) (e : S.1 7 p.toNatClampNeg = nI n) (k : ¬ bK B (ad n) = 3) (k2 : ¬ bK B (ad n) = 2) : mf_sortAt S p = 1 := (h.sort hn hV e).trans (bf_sort1 k k2)
theorem sm.sortb {ad : Nat → Nat} {V : Nat → Prop} {B : bl_S} {S : md_S} (h : sm ad V B S) {p : Int32} {n : Nat} (hn : n < 64) (hV : V n) (e : S.1 7 p.toNatClampNeg = nI n) (k : ¬ bK B (ad n) = 3) : mf_sortAt S p = 1 ∨ mf_sortAt S p = 2 := by
  by_cases k2 : bK B (ad n) = 2
  · exact Or.inr (h.sort2 hn hV e k2)
  · exact Or.inl (h.sort1 hn hV e k k2)
theorem op_weigh {B : bl_S} {S : md_S} (H : Inv B S) (p : Int32) : Rel (bf_weigh B p) (mf_weigh S p) := by
  obtain ⟨hB, hI, ad, V, h⟩ := id H
  by_cases hp : inB p 0 9 = true
  · rcases h.hook hp with ⟨e1, e2⟩ | ⟨n, hn, hV, e1, e2⟩
    · have b : bf_weigh B p = (-10 - 1, bf_tell B 1) := by simp [bf_weigh, hp, e2]
      have m : mf_weigh S p = (-10 - 1, mf_no S 1) := by simp [mf_weigh, hp, e1]
      rw [b, m]; exact Rel.tell H (by decide)
    · have b : bf_weigh B p = (bV B 0 (ad n), B) := by simp [bf_weigh, hp, e2]
      have m : mf_weigh S p = (S.1 1 n, S) := by simp [mf_weigh, hp, e1, nI_neg hn, nI_cl hn]
      rw [b, m, (h.2.2.2.2.1 n hn hV).2.2.1]; exact Rel.val H _
  · have b : bf_weigh B p = (-1, B) := by simp [bf_weigh, hp]
    have m : mf_weigh S p = (-1, S) := by simp [mf_weigh, hp]
    rw [b, m]; exact Rel.val H _
theorem op_ring {B : bl_S} {S : md_S} (H : Inv B S) (p : Int32) : Rel (bf_ring B p) (mf_ring S p) := by
  obtain ⟨hB, hI, ad, V, h⟩ := id H
  by_cases hp : inB p 0 9 = true
  · rcases h.hook hp with ⟨e1, e2⟩ | ⟨n, hn, hV, e1, e2⟩
    · have b : bf_ring B p = (-10 - 1, bf_tell B 1) := by simp [bf_ring, hp, e2]
      have m : mf_ring S p = (-10 - 1, mf_no S 1) := by simp [mf_ring, hp, mf_ag0 e1]
      rw [b, m]; exact Rel.tell H (by decide)
    · by_cases k : bK B (ad n) = 3
      · have b : bf_ring B p = (-10 - 2, bf_tell B 2) := by simp [bf_ring, hp, e2, k]
        have m : mf_ring S p = (-10 - 2, mf_no S 2) := by simp [mf_ring, hp, mf_ag3 (h.sort3 hn hV e1 k)]
        rw [b, m]; exact Rel.tell H (by decide)
      · have b : bf_ring B p = bf_sound B (ad n) := by simp [bf_ring, hp, e2, k]
        have m : mf_ring S p = mf_got (mf_rings S (nI n)) := by simp [mf_ring, hp, mf_agb (h.sortb hn hV e1 k), e1]
        rw [b, m]; exact sm_sound hB hI h hn hV k
  · have b : bf_ring B p = (-1, B) := by simp [bf_ring, hp]
    have m : mf_ring S p = (-1, S) := by simp [mf_ring, hp]
    rw [b, m]; exact Rel.val H _
theorem op_hum {B : bl_S} {S : md_S} (H : Inv B S) (p : Int32) : Rel (bf_hum B p) (mf_hum S p) := by
  obtain ⟨hB, hI, ad, V, h⟩ := id H
  by_cases hp : inB p 0 9 = true
  · rcases h.hook hp with ⟨e1, e2⟩ | ⟨n, hn, hV, e1, e2⟩
    · have b : bf_hum B p = (-10 - 1, bf_tell B 1) := by simp [bf_hum, hp, e2]
      have m : mf_hum S p = (-10 - 1, mf_no S 1) := by simp [mf_hum, hp, mf_ag0 e1]
      rw [b, m]; exact Rel.tell H (by decide)
    · by_cases k2 : bK B (ad n) = 2
      · have b : bf_hum B p = (bV B 3 (ad n), B) := by simp [bf_hum, hp, e2, k2]
        have m : mf_hum S p = (S.1 5 n, S) := by simp [mf_hum, hp, mf_ag2 (h.sort2 hn hV e1 k2), e1, nI_cl hn]
        rw [b, m, (h.2.2.2.2.1 n hn hV).2.2.2.2.2.1, if_pos k2]; exact Rel.val H _
      · have b : bf_hum B p = (-10 - 2, bf_tell B 2) := by simp [bf_hum, hp, e2, k2]
        have m : mf_hum S p = (-10 - 2, mf_no S 2) := by
          by_cases k : bK B (ad n) = 3
          · simp [mf_hum, hp, mf_ag3 (h.sort3 hn hV e1 k)]
          · simp [mf_hum, hp, mf_ag1 (h.sort1 hn hV e1 k k2)]
        rw [b, m]; exact Rel.tell H (by decide)
  · have b : bf_hum B p = (-1, B) := by simp [bf_hum, hp]
    have m : mf_hum S p = (-1, S) := by simp [mf_hum, hp]
    rw [b, m]; exact Rel.val H _
theorem md_I.hum {S : md_S} (hI : md_I S) {n : Nat} {x : Int32} (hx : inB x 0 1000 = true) : md_I (md_ai S 5 n x) := by
  obtain ⟨h1, h2, h3, h4, h5, h6, h7, h8, h9, h10⟩ := hI
  refine ⟨h1, h2, h3, h4, h5, h6, h7, fun i hi => ⟨(h8 i hi).1, ?_⟩, h9, h10⟩
  show inB (upd (S.1 5) n x i) 0 1000 = true
  by_cases e : i = n
  · rw [e, pk_us]; exact hx
  · rw [pk_un e]; exact (h8 i hi).2
theorem op_tune {B : bl_S} {S : md_S} (H : Inv B S) (p x : Int32) : Rel (bf_tune B p x) (mf_tune S p x) := by
  obtain ⟨hB, hI, ad, V, h⟩ := id H
  by_cases hp : inB p 0 9 = true
  · by_cases hx : inB x 0 1000 = true
    · rcases h.hook hp with ⟨e1, e2⟩ | ⟨n, hn, hV, e1, e2⟩
      · have b : bf_tune B p x = (-10 - 1, bf_tell B 1) := by simp [bf_tune, hp, hx, e2]
        have m : mf_tune S p x = (-10 - 1, mf_no S 1) := by simp [mf_tune, hp, hx, mf_ag0 e1]
        rw [b, m]; exact Rel.tell H (by decide)
      · by_cases k2 : bK B (ad n) = 2
        · have b : bf_tune B p x = (x, bl_v B 3 (ad n) x) := by simp [bf_tune, hp, hx, e2, k2]
          have m : mf_tune S p x = (x, md_ai S 5 n x) := by simp [mf_tune, hp, hx, mf_ag2 (h.sort2 hn hV e1 k2), e1, nI_cl hn]
          rw [b, m]; exact ⟨rfl, hB, hI.hum hx, ad, V, h.v3 hn hV k2 x⟩
        · have b : bf_tune B p x = (-10 - 2, bf_tell B 2) := by simp [bf_tune, hp, hx, e2, k2]
          have m : mf_tune S p x = (-10 - 2, mf_no S 2) := by
            by_cases k : bK B (ad n) = 3
            · simp [mf_tune, hp, hx, mf_ag3 (h.sort3 hn hV e1 k)]
            · simp [mf_tune, hp, hx, mf_ag1 (h.sort1 hn hV e1 k k2)]
          rw [b, m]; exact Rel.tell H (by decide)
    · have b : bf_tune B p x = (-1, B) := by simp [bf_tune, hx]
      have m : mf_tune S p x = (-1, S) := by simp [mf_tune, hx]
      rw [b, m]; exact Rel.val H _
  · have b : bf_tune B p x = (-1, B) := by simp [bf_tune, hp]
    have m : mf_tune S p x = (-1, S) := by simp [mf_tune, hp]
    rw [b, m]; exact Rel.val H _
theorem op_alarm {B : bl_S} {S : md_S} (H : Inv B S) (p x : Int32) : Rel (bf_alarm B p x) (mf_alarm S p x) := by
  obtain ⟨hB, hI, ad, V, h⟩ := id H
  by_cases hp : inB p 0 9 = true
  · by_cases hx : inB x 0 9 = true
    · rcases h.hook hp with ⟨e1, e2⟩ | ⟨n, hn, hV, e1, e2⟩
      · have b : bf_alarm B p x = (-10 - 1, bf_tell B 1) := by simp [bf_alarm, hp, hx, e2]
        have m : mf_alarm S p x = (-10 - 1, mf_no S 1) := by simp [mf_alarm, hp, hx, mf_ag0 e1]
        rw [b, m]; exact Rel.tell H (by decide)
      · by_cases k : bK B (ad n) = 3
        · have b : bf_alarm B p x = (-10 - 2, bf_tell B 2) := by simp [bf_alarm, hp, hx, e2, k]
          have m : mf_alarm S p x = (-10 - 2, mf_no S 2) := by simp [mf_alarm, hp, hx, mf_ag3 (h.sort3 hn hV e1 k)]
          rw [b, m]; exact Rel.tell H (by decide)
        · have b : bf_alarm B p x = (bV B 2 (ad n), bl_v B 2 (ad n) x) := by simp [bf_alarm, hp, hx, e2, k]
          have m : mf_alarm S p x = (S.1 4 n, md_ai S 4 n x) := by simp [mf_alarm, hp, hx, mf_agb (h.sortb hn hV e1 k), e1, nI_cl hn]
          rw [b, m, (h.2.2.2.2.1 n hn hV).2.2.2.2.1, if_neg k]
          exact ⟨rfl, hB, hI, ad, V, h.v2 hn hV k x⟩
    · have b : bf_alarm B p x = (-1, B) := by simp [bf_alarm, hx]
      have m : mf_alarm S p x = (-1, S) := by simp [mf_alarm, hx]
      rw [b, m]; exact Rel.val H _
  · have b : bf_alarm B p x = (-1, B) := by simp [bf_alarm, hp]
    have m : mf_alarm S p x = (-1, S) := by simp [mf_alarm, hp]
    rw [b, m]; exact Rel.val H _
theorem op_raise {B : bl_S} {S : md_S} (H : Inv B S) (p : Int32) : Rel (bf_raise B p) (mf_raise S p) := by
  obtain ⟨hB, hI, ad, V, h⟩ := id H
  by_cases hp : inB p 0 9 = true
  · rcases h.hook hp with ⟨e1, e2⟩ | ⟨n, hn, hV, e1, e2⟩
    · have b : bf_raise B p = (-10 - 1, bf_tell B 1) := by simp [bf_raise, hp, e2]
      have m : mf_raise S p = (-10 - 1, mf_no S 1) := by simp [mf_raise, hp, mf_ag0 e1]
      rw [b, m]; exact Rel.tell H (by decide)
    · by_cases k : bK B (ad n) = 3
      · have b : bf_raise B p = (-10 - 2, bf_tell B 2) := by simp [bf_raise, hp, e2, k]
        have m : mf_raise S p = (-10 - 2, mf_no S 2) := by simp [mf_raise, hp, mf_ag3 (h.sort3 hn hV e1 k)]
        rw [b, m]; exact Rel.tell H (by decide)
      · have b : bf_raise B p = bf_goOff B (ad n) := by simp [bf_raise, hp, e2, k]
        have m : mf_raise S p = if S.1 4 n = 0 then (-10 - 1, mf_no S 1) else (-10 - 6, mf_no (md_s S 5 (S.1 4 n)) 6) := by simp [mf_raise, hp, mf_agb (h.sortb hn hV e1 k), e1, nI_cl hn]
        rw [b, m]; exact sm_off hB hI h hn hV k
  · have b : bf_raise B p = (-1, B) := by simp [bf_raise, hp]
    have m : mf_raise S p = (-1, S) := by simp [mf_raise, hp]
    rw [b, m]; exact Rel.val H _
theorem op_level {B : bl_S} {S : md_S} (H : Inv B S) : Rel (bf_level B) (mf_level S) := by
  obtain ⟨hB, hI, ad, V, h⟩ := id H
  refine ⟨h.2.1.1 5 (by decide), H⟩
theorem op_size {B : bl_S} {S : md_S} (H : Inv B S) : Rel (bf_size B) (mf_size S) := by
  obtain ⟨hB, hI, ad, V, h⟩ := id H
  unfold bf_size mf_size
  rw [h.2.1.1 0 (by decide)]
  split
  · exact Rel.tell H (by decide)
  · exact Rel.val H _
theorem op_reasons {B : bl_S} {S : md_S} (H : Inv B S) (k : Int32) : Rel (bf_reasons B k) (mf_reasons S k) := by
  obtain ⟨hB, hI, ad, V, h⟩ := id H
  unfold bf_reasons mf_reasons
  rw [h.1.2.2]
  split
  · exact Rel.val H _
  · exact Rel.val H _
theorem op_about {B : bl_S} {S : md_S} (H : Inv B S) (p w : Int32) : Rel (bf_about B p w) (mf_about S p w) := by
  obtain ⟨hB, hI, ad, V, h⟩ := id H
  by_cases hp : inB p 0 9 = true
  · by_cases hw : inB w 0 5 = true
    · rcases h.hook hp with ⟨e1, e2⟩ | ⟨n, hn, hV, e1, e2⟩
      · have b : bf_about B p w = (0, B) := by simp [bf_about, hp, hw, e2]
        have m : mf_about S p w = (0, S) := by simp [mf_about, hp, hw, e1]
        rw [b, m]; exact Rel.val H _
      · obtain ⟨t1, t2, t3, t4, t5, t6, t7, t8⟩ := h.2.2.2.2.1 n hn hV
        have b : bf_about B p w = (if w = 0 then bf_sort B (ad n) else if w = 1 then bV B 0 (ad n) else if w = 2 then (if bK B (ad n) = 3 then 0 else bV B 1 (ad n)) else if w = 3 then (if bK B (ad n) = 2 then bV B 3 (ad n) else 0) else if w = 4 then bf_wear B (ad n) else (if bK B (ad n) = 3 then 0 else bV B 2 (ad n)), B) := by simp [bf_about, hp, hw, e2]
        have m : mf_about S p w = (if w = 0 then S.1 0 n else if w = 1 then S.1 1 n else if w = 2 then S.1 2 n else if w = 3 then S.1 5 n else if w = 4 then (if S.1 0 n = 3 then S.1 6 n else if S.1 3 n = -1 then 0 else S.1 6 (S.1 3 n).toNatClampNeg) else S.1 4 n, S) := by simp [mf_about, hp, hw, e1, nI_neg hn, nI_cl hn]
        have hwr : bf_wear B (ad n) = (if S.1 0 n = 3 then S.1 6 n else if S.1 3 n = -1 then 0 else S.1 6 (S.1 3 n).toNatClampNeg) := by
          by_cases k : bK B (ad n) = 3
          · rw [t2, bf_sort3 k, if_pos rfl, t7 k]; simp [bf_wear, k]
          · have hs : ¬ S.1 0 n = 3 := by
              rw [t2]
              by_cases k2 : bK B (ad n) = 2
              · rw [bf_sort2 k2]; decide
              · rw [bf_sort1 k k2]; decide
            rw [if_neg hs]
            rcases t8 k with ⟨c1, c2⟩ | ⟨c, hc, hVc, c1, c2, c3⟩
            · rw [if_pos c1]; simp [bf_wear, k, c2]
            · rw [c1, if_neg (nI_neg hc), nI_cl hc, (h.2.2.2.2.1 c hc hVc).2.2.2.2.2.2.1 c3]; simp [bf_wear, k, c2]
        rw [b, m, t2, t3, t4, t5, t6, ← t2, ← hwr]
        exact Rel.val H _
    · have b : bf_about B p w = (-1, B) := by simp [bf_about, hw]
      have m : mf_about S p w = (-1, S) := by simp [mf_about, hw]
      rw [b, m]; exact Rel.val H _
  · have b : bf_about B p w = (-1, B) := by simp [bf_about, hp]
    have m : mf_about S p w = (-1, S) := by simp [mf_about, hp]
    rw [b, m]; exact Rel.val H _
