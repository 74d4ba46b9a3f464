/-! the class's methods as functions of its state -/
def bf_tell (B : bl_S) (k : Int32) : bl_S := if inB k 1 6 then bl_ai B 2 k.toNatClampNeg (B.1 2 k.toNatClampNeg + 1) else B
def bf_goOff (B : bl_S) (y : Nat) : Int32 × bl_S := if bV B 2 y = 0 then (-10 - 1, bf_tell B 1) else (-10 - 6, bf_tell (bl_s B 5 (bV B 2 y)) 6)
def bf_sound (B : bl_S) (y : Nat) : Int32 × bl_S :=
  if 5 < bV (bl_v B 1 y (bV B 1 y + 1)) 1 y then bf_goOff (bl_v B 1 y (bV B 1 y + 1)) y
  else match bC (bl_v B 1 y (bV B 1 y + 1)) y with
    | none => (-10 - 1, bf_tell (bl_v B 1 y (bV B 1 y + 1)) 1)
    | some z =>
      let U := bl_v (bl_v B 1 y (bV B 1 y + 1)) 4 z (bV (bl_v B 1 y (bV B 1 y + 1)) 4 z + 1)
      (bV U 0 y + bV U 0 z + (if bK U y = 2 then bV U 3 y else 0), U)
def bf_sort (B : bl_S) (y : Nat) : Int32 := if bK B y = 3 then 3 else if bK B y = 2 then 2 else 1
def bf_isPlace (B : bl_S) (q : Int32) : Bool := !decide (q < 0) && (decide (q < B.2.1 0) && decide (q < 12))
def bf_isNumber (B : bl_S) (q : Int32) : Bool := !decide (q < 0) && (decide (q < B.2.1 2) && decide (q < 12))
def bf_isMark (B : bl_S) (i j : Int32) : Bool := !decide (i < 0) && (decide (i < B.2.1 3) && (decide (i < 12) && (!decide (j < 0) && (decide (j < B.2.1 4) && decide (j < 12)))))
def flq (f : Nat → Option Nat) (n : Nat) : Nat → Option Nat := fun j => if j < n then none else f j
def bf_weigh (B : bl_S) (h : Int32) : Int32 × bl_S := if inB h 0 9 then (match bR B 0 h.toNatClampNeg with
  | none => (-10 - 1, bf_tell B 1)
  | some y => (bV B 0 y, B)) else (-1, B)
def bf_ring (B : bl_S) (h : Int32) : Int32 × bl_S := if inB h 0 9 then (match bR B 0 h.toNatClampNeg with
  | none => (-10 - 1, bf_tell B 1)
  | some y => if bK B y = 3 then (-10 - 2, bf_tell B 2) else bf_sound B y) else (-1, B)
def bf_hum (B : bl_S) (h : Int32) : Int32 × bl_S := if inB h 0 9 then (match bR B 0 h.toNatClampNeg with
  | none => (-10 - 1, bf_tell B 1)
  | some y => if bK B y = 2 then (bV B 3 y, B) else (-10 - 2, bf_tell B 2)) else (-1, B)
def bf_tune (B : bl_S) (h x : Int32) : Int32 × bl_S := if inB h 0 9 && inB x 0 1000 then (match bR B 0 h.toNatClampNeg with
  | none => (-10 - 1, bf_tell B 1)
  | some y => if bK B y = 2 then (x, bl_v B 3 y x) else (-10 - 2, bf_tell B 2)) else (-1, B)
def bf_fit (B : bl_S) (h k : Int32) : Int32 × bl_S := if inB h 0 9 && inB k 0 9 then (match bR B 0 h.toNatClampNeg with
  | none => (match bR B 0 k.toNatClampNeg with
    | none => (-10 - 1, bf_tell B 1)
    | some z => if bK B z = 3 then (-10 - 1, bf_tell B 1) else (-10 - 2, bf_tell B 2))
  | some y => if bK B y = 3 then (-10 - 2, bf_tell B 2) else (match bR B 0 k.toNatClampNeg with
    | none => (0, bl_ri (bl_c B y none) 0 k.toNatClampNeg none)
    | some z => if bK B z = 3 then (1, bl_ri (bl_c B y (some z)) 0 k.toNatClampNeg none) else (-10 - 2, bf_tell B 2))) else (-1, B)
def bf_alarm (B : bl_S) (h x : Int32) : Int32 × bl_S := if inB h 0 9 && inB x 0 9 then (match bR B 0 h.toNatClampNeg with
  | none => (-10 - 1, bf_tell B 1)
  | some y => if bK B y = 3 then (-10 - 2, bf_tell B 2) else (bV B 2 y, bl_v B 2 y x)) else (-1, B)
def bf_raise (B : bl_S) (h : Int32) : Int32 × bl_S := if inB h 0 9 then (match bR B 0 h.toNatClampNeg with
  | none => (-10 - 1, bf_tell B 1)
  | some y => if bK B y = 3 then (-10 - 2, bf_tell B 2) else bf_goOff B y) else (-1, B)
def bf_level (B : bl_S) : Int32 × bl_S := (B.2.1 5, B)
def bf_frame (B : bl_S) (n g : Int32) : Int32 × bl_S := if 12 < n then (-1, B) else if n < 0 then (-10 - 4, bf_tell B 4) else (n, bl_s (bl_s (bl_r B 1 (flq (bR B 1) 12)) 0 n) 1 g)
def bf_size (B : bl_S) : Int32 × bl_S := if B.2.1 0 = -1 then (-10 - 1, bf_tell B 1) else (B.2.1 0, B)
def bf_lay (B : bl_S) (q h : Int32) : Int32 × bl_S := if inB h 0 9 then (match bR B 0 h.toNatClampNeg with
  | none => if B.2.1 0 = -1 then (-10 - 1, bf_tell B 1) else if bf_isPlace B q then (0, bl_ri B 1 q.toNatClampNeg none) else (-10 - 5, bf_tell B 5)
  | some y => if bK B y = 3 then (-10 - 2, bf_tell B 2) else if B.2.1 0 = -1 then (-10 - 1, bf_tell B 1) else if bf_isPlace B q then (if B.2.1 1 = 0 then (1, bl_ri B 1 q.toNatClampNeg (some y)) else if bK B y = 2 then (1, bl_ri B 1 q.toNatClampNeg (some y)) else (-10 - 3, bf_tell B 3)) else (-10 - 5, bf_tell B 5)) else (-1, B)
def bf_see (B : bl_S) (q : Int32) : Int32 × bl_S := if B.2.1 0 = -1 then (-10 - 1, bf_tell B 1) else if bf_isPlace B q then (match bR B 1 q.toNatClampNeg with
  | none => (-10 - 1, bf_tell B 1)
  | some y => (bV B 0 y, B)) else (-10 - 5, bf_tell B 5)
def bf_change (B : bl_S) (n : Int32) : Int32 × bl_S := if 12 < n then (-1, B) else if n < 0 then (-10 - 4, bf_tell B 4) else (n, bl_s (bl_a B 0 (fl (B.1 0) 12 0)) 2 n)
def bf_call (B : bl_S) (i x : Int32) : Int32 × bl_S := if inB x 0 99 then (if B.2.1 2 = -1 then (-10 - 1, bf_tell B 1) else if bf_isNumber B i then (x, bl_ai B 0 i.toNatClampNeg x) else (-10 - 5, bf_tell B 5)) else (-1, B)
def bf_strike (B : bl_S) (i : Int32) : Int32 × bl_S := if B.2.1 2 = -1 then (-10 - 1, bf_tell B 1) else if bf_isNumber B i then
    (if B.2.1 0 = -1 then (-10 - 1, bf_tell B 1) else if bf_isPlace B (B.1 0 i.toNatClampNeg) then (match bR B 1 (B.1 0 i.toNatClampNeg).toNatClampNeg with
      | none => (-10 - 1, bf_tell B 1)
      | some y => bf_sound B y) else (-10 - 5, bf_tell B 5))
  else (-10 - 5, bf_tell B 5)
def bf_loop (mode : Int32) : Nat → Nat → Int32 → bl_S → Int32 × bl_S
  | 0, _, n, B => (n, B)
  | k + 1, i, n, B => if (bf_strike B (nI i)).1 < 0 then (if mode = 1 then bf_strike B (nI i) else bf_loop mode k (i + 1) n (bf_strike B (nI i)).2) else bf_loop mode k (i + 1) (n + 1) (bf_strike B (nI i)).2
def bf_chime (B : bl_S) (mode : Int32) : Int32 × bl_S := if inB mode 0 1 then (if B.2.1 2 = -1 then (-10 - 1, bf_tell B 1) else bf_loop mode (B.2.1 2).toNatClampNeg 0 0 B) else (-1, B)
def bf_peal (B : bl_S) (n k : Int32) : Int32 × bl_S := if 12 < n then (-1, B) else if 12 < k then (-1, B) else if n < 0 then (-10 - 4, bf_tell B 4) else if k < 0 then (-10 - 4, bf_tell B 4) else (n * k, bl_s (bl_s (bl_a B 1 (fl (B.1 1) 144 0)) 3 n) 4 k)
def bf_mark (B : bl_S) (i j x : Int32) : Int32 × bl_S := if inB x 0 99 then (if B.2.1 3 = -1 then (-10 - 1, bf_tell B 1) else if bf_isMark B i j then (x, bl_ai B 1 (i * 12 + j).toNatClampNeg x) else (-10 - 5, bf_tell B 5)) else (-1, B)
def bf_marked (B : bl_S) (i j : Int32) : Int32 × bl_S := if B.2.1 3 = -1 then (-10 - 1, bf_tell B 1) else if bf_isMark B i j then (B.1 1 (i * 12 + j).toNatClampNeg, B) else (-10 - 5, bf_tell B 5)
def bf_away (B : bl_S) (w : Int32) : Int32 × bl_S := if w = 0 then (if B.2.1 0 = -1 then 0 else 1, bl_s B 0 (-1)) else if w = 1 then (if B.2.1 2 = -1 then 0 else 1, bl_s B 2 (-1)) else if w = 2 then (if B.2.1 3 = -1 then 0 else 1, bl_s B 3 (-1)) else (-1, B)
def bf_wear (B : bl_S) (y : Nat) : Int32 := if bK B y = 3 then bV B 4 y else (match bC B y with
  | none => 0
  | some z => bV B 4 z)
def bf_about (B : bl_S) (h w : Int32) : Int32 × bl_S := if inB h 0 9 && inB w 0 5 then ((match bR B 0 h.toNatClampNeg with
  | none => 0
  | some y => if w = 0 then bf_sort B y else if w = 1 then bV B 0 y else if w = 2 then (if bK B y = 3 then 0 else bV B 1 y) else if w = 3 then (if bK B y = 2 then bV B 3 y else 0) else if w = 4 then bf_wear B y else (if bK B y = 3 then 0 else bV B 2 y)), B) else (-1, B)
def bf_reasons (B : bl_S) (k : Int32) : Int32 × bl_S := if inB k 1 6 then (B.1 2 k.toNatClampNeg, B) else (-1, B)
/-- the kind of a sort -/
def bf_kd (k : Int32) : Nat := if k = 3 then 3 else if k = 2 then 2 else 1
def bf_hang (B : bl_S) (h k w : Int32) (q : Nat) : Int32 × bl_S := if inB h 0 9 && inB k 0 3 then
    (if k = 0 then ((match bR B 0 h.toNatClampNeg with
      | none => 0
      | some y => bf_sort B y), bl_ri B 0 h.toNatClampNeg none)
    else if inB w 1 1000 then ((match bR B 0 h.toNatClampNeg with
      | none => 0
      | some y => bf_sort B y), bl_ri (bl_v (bl_n B q (bf_kd k)) 0 q w) 0 h.toNatClampNeg (some q)) else (-1, B))
  else (-1, B)
theorem bf_place {B : bl_S} {q : Int32} (h : bf_isPlace B q = true) : vp_in q 12 := by
  simp only [bf_isPlace, Bool.and_eq_true, Bool.not_eq_true', decide_eq_true_eq, decide_eq_false_iff_not] at h
  obtain ⟨h1, h2, h3⟩ := h
  rw [vp_in_iff]
  have a := Int32.le_iff_toInt_le.mp (Int32.not_lt.mp h1)
  have b := Int32.lt_iff_toInt_lt.mp h3
  have z : (0 : Int32).toInt = 0 := by decide
  have z2 : (12 : Int32).toInt = 12 := by decide
  omega
theorem bf_number {B : bl_S} {q : Int32} (h : bf_isNumber B q = true) : vp_in q 12 := by
  simp only [bf_isNumber, Bool.and_eq_true, Bool.not_eq_true', decide_eq_true_eq, decide_eq_false_iff_not] at h
  obtain ⟨h1, h2, h3⟩ := h
  rw [vp_in_iff]
  have a := Int32.le_iff_toInt_le.mp (Int32.not_lt.mp h1)
  have b := Int32.lt_iff_toInt_lt.mp h3
  have z : (0 : Int32).toInt = 0 := by decide
  have z2 : (12 : Int32).toInt = 12 := by decide
  omega
theorem bf_marks {B : bl_S} {i j : Int32} (h : bf_isMark B i j = true) : vp_in (i * 12 + j) 144 := by
  simp only [bf_isMark, Bool.and_eq_true, Bool.not_eq_true', decide_eq_true_eq, decide_eq_false_iff_not] at h
  obtain ⟨h1, h2, h3, h4, h5, h6⟩ := h
  have a := Int32.le_iff_toInt_le.mp (Int32.not_lt.mp h1)
  have b := Int32.lt_iff_toInt_lt.mp h3
  have a2 := Int32.le_iff_toInt_le.mp (Int32.not_lt.mp h4)
  have b2 := Int32.lt_iff_toInt_lt.mp h6
  have z : (0 : Int32).toInt = 0 := by decide
  have z2 : (12 : Int32).toInt = 12 := by decide
  rw [Int32.mul_comm]
  exact md_pl (by omega) (by omega)
