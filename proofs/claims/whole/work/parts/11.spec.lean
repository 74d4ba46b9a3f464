/-! the reference's methods as functions of its state -/
def inB (v lo hi : Int32) : Bool := decide (lo ≤ v) && decide (v ≤ hi)
theorem inB_lt {v lo hi : Int32} (h : v < lo) : inB v lo hi = false := by
  have : ¬ lo ≤ v := Int32.not_le.mpr h
  simp [inB, this]
theorem inB_gt {v lo hi : Int32} (h : hi < v) : inB v lo hi = false := by
  have : ¬ v ≤ hi := Int32.not_le.mpr h
  simp [inB, this]
theorem inB_in {v lo hi : Int32} (h1 : ¬ v < lo) (h2 : ¬ hi < v) : inB v lo hi = true := by
  have a : lo ≤ v := Int32.not_lt.mp h1
  have b : v ≤ hi := Int32.not_lt.mp h2
  simp [inB, a, b]
theorem inB_ge {v lo hi : Int32} (h : inB v lo hi = true) : lo ≤ v ∧ v ≤ hi := by simpa [inB] using h
/-- a number of 0 .. n - 1 is a place of n -/
theorem vp_inB {v hi : Int32} {n : Nat} (h : inB v 0 hi = true) (hn : hi.toInt < n) : vp_in v n := by
  obtain ⟨h1, h2⟩ := inB_ge h
  rw [vp_in_iff]
  have a := Int32.le_iff_toInt_le.mp h1
  have b := Int32.le_iff_toInt_le.mp h2
  have z : (0 : Int32).toInt = 0 := by decide
  omega
/-- a reference of the model: none (-1), or a thing's number -/
def md_ok (x : Int32) : Prop := x = -1 ∨ ∃ n : Nat, n < 64 ∧ x = nI n
theorem md_ok.in {x : Int32} (h : md_ok x) (hx : ¬ x = -1) : vp_in x 64 := by
  rcases h with h | ⟨n, hn, rfl⟩
  · exact absurd h hx
  · exact vp_in_nI hn (by decide)
/-- a length: none (-1), or at most 12 -/
def md_ln (x : Int32) : Prop := x = -1 ∨ ∃ n : Nat, n ≤ 12 ∧ x = nI n
/-- what holds of the reference's state between calls -/
def md_I (S : md_S) : Prop := (∀ i, i < 10 → md_ok (S.1 7 i)) ∧ (∀ i, i < 12 → md_ok (S.1 8 i)) ∧ (∀ i, i < 64 → md_ok (S.1 3 i)) ∧ md_ln (S.2 0) ∧ md_ln (S.2 2) ∧ md_ln (S.2 3) ∧ (md_ln (S.2 4) ∧ ¬ S.2 4 = -1) ∧ (∀ i, i < 64 → inB (S.1 1 i) 0 1000 = true ∧ inB (S.1 5 i) 0 1000 = true) ∧ (S.2 1 = 1 ∨ S.2 1 = 0) ∧ (∀ i, i < 10 → S.1 7 i = -1 ∨ inB (S.1 0 (S.1 7 i).toNatClampNeg) 1 3 = true)
theorem md_I.hook {S : md_S} (h : md_I S) {v : Int32} (hv : inB v 0 9 = true) (hn : ¬ S.1 7 v.toNatClampNeg = -1) : vp_in (S.1 7 v.toNatClampNeg) 64 := by
  have hp : vp_in v 10 := vp_inB hv (by decide)
  exact (h.1 _ (Nat.not_le.mp fun q => hp (Or.inr q))).in hn
theorem md_hk {v : Int32} (hv : inB v 0 9 = true) : vp_in v (md_len 7) := vp_inB hv (by decide)
def mf_no (S : md_S) (k : Int32) : md_S := md_ai S 11 k.toNatClampNeg (S.1 11 k.toNatClampNeg + 1)
def mf_sortAt (S : md_S) (h : Int32) : Int32 := if S.1 7 h.toNatClampNeg = -1 then 0 else S.1 0 (S.1 7 h.toNatClampNeg).toNatClampNeg
def mf_against (S : md_S) (h : Int32) (g : Int32) : Int32 := if mf_sortAt S h = 0 then 1 else if mf_sortAt S h = 3 then 2 else if g = 0 then 0 else if mf_sortAt S h = 2 then 0 else 2
def mf_weigh (S : md_S) (h : Int32) : Int32 × md_S := if inB h 0 9 then (if S.1 7 h.toNatClampNeg = -1 then (-10 - 1, mf_no S 1) else (S.1 1 (S.1 7 h.toNatClampNeg).toNatClampNeg, S)) else (-1, S)
def mf_rings (S : md_S) (b : Int32) : Int32 × md_S :=
  let T := md_ai S 2 b.toNatClampNeg (S.1 2 b.toNatClampNeg + 1)
  if 5 < T.1 2 b.toNatClampNeg then (if T.1 4 b.toNatClampNeg = 0 then (-1, T) else (-6, md_s T 5 (T.1 4 b.toNatClampNeg)))
  else if T.1 3 b.toNatClampNeg = -1 then (-1, T)
  else
    let U := md_ai T 6 (T.1 3 b.toNatClampNeg).toNatClampNeg (T.1 6 (T.1 3 b.toNatClampNeg).toNatClampNeg + 1)
    (U.1 1 b.toNatClampNeg + U.1 1 (T.1 3 b.toNatClampNeg).toNatClampNeg + (if U.1 0 b.toNatClampNeg = 2 then U.1 5 b.toNatClampNeg else 0), U)
/-- a ringing's answer as calls tell it -/
def mf_got (q : Int32 × md_S) : Int32 × md_S := if q.1 < 0 then (-10 - -q.1, mf_no q.2 (-q.1)) else q
def mf_ring (S : md_S) (h : Int32) : Int32 × md_S := if inB h 0 9 then (if 0 < mf_against S h 0 then (-10 - mf_against S h 0, mf_no S (mf_against S h 0)) else mf_got (mf_rings S (S.1 7 h.toNatClampNeg))) else (-1, S)
def mf_hum (S : md_S) (h : Int32) : Int32 × md_S := if inB h 0 9 then (if 0 < mf_against S h 1 then (-10 - mf_against S h 1, mf_no S (mf_against S h 1)) else (S.1 5 (S.1 7 h.toNatClampNeg).toNatClampNeg, S)) else (-1, S)
def mf_tune (S : md_S) (h x : Int32) : Int32 × md_S := if inB h 0 9 && inB x 0 1000 then (if 0 < mf_against S h 1 then (-10 - mf_against S h 1, mf_no S (mf_against S h 1)) else (x, md_ai S 5 (S.1 7 h.toNatClampNeg).toNatClampNeg x)) else (-1, S)
def mf_fit (S : md_S) (h k : Int32) : Int32 × md_S :=
  if inB h 0 9 && inB k 0 9 then
    (if mf_sortAt S h = 3 then (-10 - 2, mf_no S 2) else if inB (mf_sortAt S k) 1 2 then (-10 - 2, mf_no S 2)
    else if S.1 7 h.toNatClampNeg = -1 then (-10 - 1, mf_no S 1)
    else
      let T := md_ai S 3 (S.1 7 h.toNatClampNeg).toNatClampNeg (S.1 7 k.toNatClampNeg)
      let U := md_ai T 7 k.toNatClampNeg (-1)
      (if U.1 3 (U.1 7 h.toNatClampNeg).toNatClampNeg = -1 then 0 else 1, U))
  else (-1, S)
def mf_alarm (S : md_S) (h x : Int32) : Int32 × md_S := if inB h 0 9 && inB x 0 9 then (if 0 < mf_against S h 0 then (-10 - mf_against S h 0, mf_no S (mf_against S h 0)) else (S.1 4 (S.1 7 h.toNatClampNeg).toNatClampNeg, md_ai S 4 (S.1 7 h.toNatClampNeg).toNatClampNeg x)) else (-1, S)
def mf_raise (S : md_S) (h : Int32) : Int32 × md_S := if inB h 0 9 then (if 0 < mf_against S h 0 then (-10 - mf_against S h 0, mf_no S (mf_against S h 0)) else if S.1 4 (S.1 7 h.toNatClampNeg).toNatClampNeg = 0 then (-10 - 1, mf_no S 1) else (-10 - 6, mf_no (md_s S 5 (S.1 4 (S.1 7 h.toNatClampNeg).toNatClampNeg)) 6)) else (-1, S)
def mf_level (S : md_S) : Int32 × md_S := (S.2 5, S)
/-- the first n places of a row become x -/
def fl (f : Nat → Int32) (n : Nat) (x : Int32) : Nat → Int32 := fun j => if j < n then x else f j
def mf_frame (S : md_S) (n g : Int32) : Int32 × md_S := if 12 < n then (-1, S) else if n < 0 then (-10 - 4, mf_no S 4) else (n, md_a (md_s (md_s S 0 n) 1 g) 8 (fl (S.1 8) 12 (-1)))
def mf_size (S : md_S) : Int32 × md_S := if S.2 0 = -1 then (-10 - 1, mf_no S 1) else (S.2 0, S)
def mf_lay (S : md_S) (q h : Int32) : Int32 × md_S :=
  if inB h 0 9 then
    (if mf_sortAt S h = 3 then (-10 - 2, mf_no S 2) else if S.2 0 = -1 then (-10 - 1, mf_no S 1)
    else if inB q 0 (S.2 0 - 1) then
      (if S.2 1 = 0 then (if (md_ai S 8 q.toNatClampNeg (S.1 7 h.toNatClampNeg)).1 7 h.toNatClampNeg = -1 then 0 else 1, md_ai S 8 q.toNatClampNeg (S.1 7 h.toNatClampNeg))
      else if mf_sortAt S h = 1 then (-10 - 3, mf_no S 3)
      else (if (md_ai S 8 q.toNatClampNeg (S.1 7 h.toNatClampNeg)).1 7 h.toNatClampNeg = -1 then 0 else 1, md_ai S 8 q.toNatClampNeg (S.1 7 h.toNatClampNeg)))
    else (-10 - 5, mf_no S 5))
  else (-1, S)
def mf_see (S : md_S) (q : Int32) : Int32 × md_S := if S.2 0 = -1 then (-10 - 1, mf_no S 1) else if inB q 0 (S.2 0 - 1) then (if S.1 8 q.toNatClampNeg = -1 then (-10 - 1, mf_no S 1) else (S.1 1 (S.1 8 q.toNatClampNeg).toNatClampNeg, S)) else (-10 - 5, mf_no S 5)
def mf_change (S : md_S) (n : Int32) : Int32 × md_S := if 12 < n then (-1, S) else if n < 0 then (-10 - 4, mf_no S 4) else (n, md_a (md_s S 2 n) 9 (fl (S.1 9) 12 0))
def mf_call (S : md_S) (i x : Int32) : Int32 × md_S := if inB x 0 99 then (if S.2 2 = -1 then (-10 - 1, mf_no S 1) else if inB i 0 (S.2 2 - 1) then (x, md_ai S 9 i.toNatClampNeg x) else (-10 - 5, mf_no S 5)) else (-1, S)
def mf_strike (S : md_S) (i : Int32) : Int32 × md_S :=
  if S.2 2 = -1 then (-10 - 1, mf_no S 1) else if inB i 0 (S.2 2 - 1) then
    (if S.2 0 = -1 then (-10 - 1, mf_no S 1) else if inB (S.1 9 i.toNatClampNeg) 0 (S.2 0 - 1) then
      (if S.1 8 (S.1 9 i.toNatClampNeg).toNatClampNeg = -1 then mf_got (-1, S) else mf_got (mf_rings S (S.1 8 (S.1 9 i.toNatClampNeg).toNatClampNeg)))
    else (-10 - 5, mf_no S 5))
  else (-10 - 5, mf_no S 5)
/-- chime's loop: k strokes from number i on, n rung so far -/
def mf_loop (mode : Int32) : Nat → Nat → Int32 → md_S → Int32 × md_S
  | 0, _, n, S => (n, S)
  | k + 1, i, n, S => if (mf_strike S (nI i)).1 < 0 then (if mode = 1 then mf_strike S (nI i) else mf_loop mode k (i + 1) (n + 0) (mf_strike S (nI i)).2) else mf_loop mode k (i + 1) (n + 1) (mf_strike S (nI i)).2
def mf_chime (S : md_S) (mode : Int32) : Int32 × md_S := if inB mode 0 1 then (if S.2 2 = -1 then (-10 - 1, mf_no S 1) else mf_loop mode (S.2 2).toNatClampNeg 0 0 S) else (-1, S)
def mf_peal (S : md_S) (n k : Int32) : Int32 × md_S := if 12 < n then (-1, S) else if 12 < k then (-1, S) else if n < 0 then (-10 - 4, mf_no S 4) else if k < 0 then (-10 - 4, mf_no S 4) else (n * k, md_a (md_s (md_s S 3 n) 4 k) 10 (fl (S.1 10) 144 0))
def mf_mark (S : md_S) (i j x : Int32) : Int32 × md_S := if inB x 0 99 then (if S.2 3 = -1 then (-10 - 1, mf_no S 1) else if inB i 0 (S.2 3 - 1) && inB j 0 (S.2 4 - 1) then (x, md_ai S 10 (12 * i + j).toNatClampNeg x) else (-10 - 5, mf_no S 5)) else (-1, S)
def mf_marked (S : md_S) (i j : Int32) : Int32 × md_S := if S.2 3 = -1 then (-10 - 1, mf_no S 1) else if inB i 0 (S.2 3 - 1) && inB j 0 (S.2 4 - 1) then (S.1 10 (12 * i + j).toNatClampNeg, S) else (-10 - 5, mf_no S 5)
def mf_away (S : md_S) (w : Int32) : Int32 × md_S :=
  if inB w 0 2 then (if w = 0 then (if S.2 0 = -1 then 0 else 1) else if w = 1 then (if S.2 2 = -1 then 0 else 1) else (if S.2 3 = -1 then 0 else 1),
    md_s (md_s (md_s S 0 (if w = 0 then -1 else S.2 0)) 2 (if w = 1 then -1 else S.2 2)) 3 (if w = 2 then -1 else S.2 3))
  else (-1, S)
def mf_about (S : md_S) (h w : Int32) : Int32 × md_S :=
  if inB h 0 9 && inB w 0 5 then
    (if S.1 7 h.toNatClampNeg = -1 then 0 else
      let b := (S.1 7 h.toNatClampNeg).toNatClampNeg
      if w = 0 then S.1 0 b else if w = 1 then S.1 1 b else if w = 2 then S.1 2 b else if w = 3 then S.1 5 b
      else if w = 4 then (if S.1 0 b = 3 then S.1 6 b else if S.1 3 b = -1 then 0 else S.1 6 (S.1 3 b).toNatClampNeg) else S.1 4 b, S)
  else (-1, S)
def mf_reasons (S : md_S) (k : Int32) : Int32 × md_S := if inB k 1 6 then (S.1 11 k.toNatClampNeg, S) else (-1, S)
/-- a thing that is held; one that isn't free -/
def md_held (S : md_S) (x : Int32) : Prop := (∃ i : Nat, i < 10 ∧ S.1 7 i = x) ∨ ∃ i : Nat, i < (S.2 0).toNatClampNeg ∧ S.1 8 i = x
def md_taken (S : md_S) (x : Int32) : Prop := md_held S x ∨ ∃ b : Nat, b < 64 ∧ S.1 3 b = x ∧ inB (S.1 0 b) 1 2 = true ∧ md_held S (nI b)
def mf_new (S : md_S) (h k w : Int32) (n : Nat) : md_S := md_ai (md_ai (md_ai (md_ai (md_ai (md_ai (md_ai (md_ai S 0 n k) 1 n w) 2 n 0) 3 n (-1)) 4 n 0) 5 n 0) 6 n 0) 7 h.toNatClampNeg (nI n)
def mf_hang (S : md_S) (h k w : Int32) (n : Nat) : Int32 × md_S := if inB h 0 9 && (inB k 0 3 && (inB w 1 1000 || !decide (0 < k))) then (mf_sortAt S h, if 0 < k then mf_new (md_ai S 7 h.toNatClampNeg (-1)) h k w n else md_ai S 7 h.toNatClampNeg (-1)) else (-1, S)
theorem vp_lt {x : Int32} {n : Nat} (h : vp_in x n) : x.toNatClampNeg < n := Nat.not_le.mp fun q => h (Or.inr q)
theorem inB_toInt {v lo hi : Int32} (h : inB v lo hi = true) : lo.toInt ≤ v.toInt ∧ v.toInt ≤ hi.toInt := ⟨Int32.le_iff_toInt_le.mp (inB_ge h).1, Int32.le_iff_toInt_le.mp (inB_ge h).2⟩
theorem inB_not {v lo hi : Int32} (h : inB v lo hi = false) : v.toInt < lo.toInt ∨ hi.toInt < v.toInt := by
  by_cases a : v < lo
  · exact Or.inl (Int32.lt_iff_toInt_lt.mp a)
  · by_cases b : hi < v
    · exact Or.inr (Int32.lt_iff_toInt_lt.mp b)
    · rw [inB_in a b] at h; cases h
theorem vp_in16 {v : Int32} (h : inB v 1 6 = true) : vp_in v 7 := by
  have := inB_toInt h
  rw [vp_in_iff]
  have a : (1 : Int32).toInt = 1 := by decide
  have b : (6 : Int32).toInt = 6 := by decide
  omega
/-- a place of a row that is there -/
theorem md_ln.sub {f : Int32} {n : Nat} (hn : n ≤ 12) (e : f = nI n) : (f - 1).toInt = (n : Int) - 1 := by
  subst e
  have h := pk_sub_toInt (a := n) (b := 1) (by omega) (by decide)
  exact h
theorem md_ln.in {f q : Int32} (h : md_ln f) (hf : ¬ f = -1) (hq : inB q 0 (f - 1) = true) : vp_in q 12 ∧ 0 ≤ q.toInt ∧ q.toInt ≤ 11 := by
  rcases h with h | ⟨n, hn, e⟩
  · exact absurd h hf
  · have h1 := inB_toInt hq
    rw [md_ln.sub hn e] at h1
    have z : (0 : Int32).toInt = 0 := by decide
    have h2 : 0 ≤ q.toInt ∧ q.toInt ≤ 11 := by omega
    exact ⟨vp_in_iff.mpr (by omega), h2⟩
theorem md_pl {i j : Int32} (hi : 0 ≤ i.toInt ∧ i.toInt ≤ 11) (hj : 0 ≤ j.toInt ∧ j.toInt ≤ 11) : vp_in (12 * i + j) 144 := by
  have e1 : ∃ a : Nat, a ≤ 11 ∧ i = nI a := by
    obtain ⟨a, ha, e⟩ := vp_in_of (x := i) (n := 12) (vp_in_iff.mpr (by omega)) (by decide)
    exact ⟨a, by omega, e⟩
  have e2 : ∃ a : Nat, a ≤ 11 ∧ j = nI a := by
    obtain ⟨a, ha, e⟩ := vp_in_of (x := j) (n := 12) (vp_in_iff.mpr (by omega)) (by decide)
    exact ⟨a, by omega, e⟩
  obtain ⟨a, ha, rfl⟩ := e1
  obtain ⟨b, hb, rfl⟩ := e2
  rw [show (12 : Int32) = nI 12 from rfl, pk_mul, nI_add]
  exact vp_in_nI (by omega) (by decide)
theorem md_I.place {S : md_S} (h : md_I S) {v : Int32} (hv : vp_in v 12) (hn : ¬ S.1 8 v.toNatClampNeg = -1) : vp_in (S.1 8 v.toNatClampNeg) 64 := (h.2.1 _ (vp_lt hv)).in hn
theorem md_I.clap {S : md_S} (h : md_I S) {v : Int32} (hv : vp_in v 64) (hn : ¬ S.1 3 v.toNatClampNeg = -1) : vp_in (S.1 3 v.toNatClampNeg) 64 := (h.2.2.1 _ (vp_lt hv)).in hn
theorem md_fit_ne {S : md_S} {h k : Int32} (hI : md_I S) (hh : inB h 0 9 = true) (c1 : ¬ mf_sortAt S h = 3) (c2 : inB (mf_sortAt S k) 1 2 = false) (c3 : ¬ S.1 7 h.toNatClampNeg = -1) : h.toNatClampNeg ≠ k.toNatClampNeg := by
  intro e
  have e2 : mf_sortAt S k = mf_sortAt S h := by simp only [mf_sortAt, e]
  rw [e2] at c2
  have e3 : mf_sortAt S h = S.1 0 (S.1 7 h.toNatClampNeg).toNatClampNeg := by simp only [mf_sortAt, if_neg c3]
  rcases hI.2.2.2.2.2.2.2.2.2 _ (vp_lt (vp_inB hh (n := 10) (by decide))) with g | g
  · exact c3 g
  · rw [← e3] at g
    have g1 := inB_toInt g
    have g2 := inB_not c2
    have a : (1 : Int32).toInt = 1 := by decide
    have b : (2 : Int32).toInt = 2 := by decide
    have c : (3 : Int32).toInt = 3 := by decide
    exact c1 (Int32.toInt_inj.mp (by omega))
theorem md_fit_in {S : md_S} {h k : Int32} (hI : md_I S) (hh : inB h 0 9 = true) (c1 : ¬ mf_sortAt S h = 3) (c2 : inB (mf_sortAt S k) 1 2 = false) (c3 : ¬ S.1 7 h.toNatClampNeg = -1) (x y : Int32) (i : Nat) : vp_in ((md_ai (md_ai S 3 i x) 7 k.toNatClampNeg y).1 7 h.toNatClampNeg) 64 := by
  have e : (md_ai (md_ai S 3 i x) 7 k.toNatClampNeg y).1 7 h.toNatClampNeg = S.1 7 h.toNatClampNeg := by
    show upd (S.1 7) k.toNatClampNeg y h.toNatClampNeg = _
    exact pk_un (md_fit_ne hI hh c1 c2 c3)
  rw [e]
  exact hI.hook hh c3
/-- a ringing that doesn't sound answers -1 or -6 -/
theorem inB_sum {a b c : Int32} (ha : inB a 0 1000 = true) (hb : inB b 0 1000 = true) (hc : inB c 0 1000 = true) : ¬ a + b + c < 0 := by
  obtain ⟨i, hi, rfl⟩ := vp_in_of (vp_inB ha (n := 1001) (by decide)) (by decide)
  obtain ⟨j, hj, rfl⟩ := vp_in_of (vp_inB hb (n := 1001) (by decide)) (by decide)
  obtain ⟨k, hk, rfl⟩ := vp_in_of (vp_inB hc (n := 1001) (by decide)) (by decide)
  rw [nI_add, nI_add]
  exact nI_pos (by omega)
theorem mf_rings_neg {S : md_S} {b : Int32} (hI : md_I S) (hv : vp_in b 64) (hn : (mf_rings S b).1 < 0) : (mf_rings S b).1 = -1 ∨ (mf_rings S b).1 = -6 := by
  revert hn
  simp only [mf_rings]
  split
  · split
    · exact fun _ => Or.inl rfl
    · exact fun _ => Or.inr rfl
  · split
    · exact fun _ => Or.inl rfl
    · rename_i q1 q2
      intro hn
      have hc : vp_in (S.1 3 b.toNatClampNeg) 64 := hI.clap hv q2
      have w1 := (hI.2.2.2.2.2.2.2.1 _ (vp_lt hv)).1
      have w2 := (hI.2.2.2.2.2.2.2.1 _ (vp_lt hc)).1
      have w3 := (hI.2.2.2.2.2.2.2.1 _ (vp_lt hv)).2
      refine absurd hn (inB_sum w1 w2 ?_)
      split
      · exact w3
      · decide
theorem mf_rings_vp {S : md_S} {b : Int32} (hI : md_I S) (hv : vp_in b 64) (hn : (mf_rings S b).1 < 0) : vp_in (-(mf_rings S b).1) 7 := by
  rcases mf_rings_neg hI hv hn with e | e <;> rw [e] <;> exact vp_in_iff.mpr (by decide)
