def FAC_add (S : hS) (x1 : Int32) : Int32 × hS :=
  if (S.1 2 0) < 8 then
    (S.1 2 0, (sI (sI (sI (sL (sL (sI (sI (sI S 3 ((S.1 2 0).toNatClampNeg) x1) 4 ((S.1 2 0).toNatClampNeg) 0) 5 ((S.1 2 0).toNatClampNeg) 0) 6 ((S.1 2 0).toNatClampNeg) 0) 7 ((S.1 2 0).toNatClampNeg) (-1)) 8 ((S.1 2 0).toNatClampNeg) (-1)) 9 ((S.1 2 0).toNatClampNeg) (-1)) 2 0 ((S.1 2 0) + 1)))
  else
    ((-1), S)
theorem FAC_add_e (S : hS) (x1 : Int32) : FAC_add S x1 =
  (if (S.1 2 0) < 8 then
    (S.1 2 0, (sI (sI (sI (sL (sL (sI (sI (sI S 3 ((S.1 2 0).toNatClampNeg) x1) 4 ((S.1 2 0).toNatClampNeg) 0) 5 ((S.1 2 0).toNatClampNeg) 0) 6 ((S.1 2 0).toNatClampNeg) 0) 7 ((S.1 2 0).toNatClampNeg) (-1)) 8 ((S.1 2 0).toNatClampNeg) (-1)) 9 ((S.1 2 0).toNatClampNeg) (-1)) 2 0 ((S.1 2 0) + 1)))
  else
    ((-1), S) : Int32 × hS) := rfl
def FHL_account (S : hS) (x1 : Int32) : Int32 × hS :=
  if x1 < 0 then
    ((-1), S)
  else
    if x1 ≤ 2 then
      (fun (v4 : Int32) (S4 : hS) =>
        (v4, S4)) (FAC_add S x1).1 (FAC_add S x1).2
    else
      ((-1), S)
theorem FHL_account_e (S : hS) (x1 : Int32) : FHL_account S x1 =
  (if x1 < 0 then
    ((-1), S)
  else
    if x1 ≤ 2 then
      (fun (v4 : Int32) (S4 : hS) =>
        (v4, S4)) (FAC_add S x1).1 (FAC_add S x1).2
    else
      ((-1), S) : Int32 × hS) := rfl
def FHL_isDay (S : hS) (x0 : Int64) : Int32 :=
  if x0 < 0 then
    0
  else
    if 3600 ≤ x0 then
      0
    else
      1
theorem FHL_isDay_e (S : hS) (x0 : Int64) : FHL_isDay S x0 =
  (if x0 < 0 then
    0
  else
    if 3600 ≤ x0 then
      0
    else
      1 : Int32) := rfl
def FBO_isUnclosedDay (S : hS) (x1 : Int64) : Int32 :=
  if (FHL_isDay S x1) = 0 then
    0
  else
    if (x1 / 30) < ((S.1 1 5).toInt64) then
      0
    else
      1
theorem FBO_isUnclosedDay_e (S : hS) (x1 : Int64) : FBO_isUnclosedDay S x1 =
  (if (FHL_isDay S x1) = 0 then
    0
  else
    if (x1 / 30) < ((S.1 1 5).toInt64) then
      0
    else
      1 : Int32) := rfl
def FJO_isFull (S : hS)  : Int32 :=
  if (S.1 10 0) < 40 then
    0
  else
    1
theorem FJO_isFull_e (S : hS)  : FJO_isFull S  =
  (if (S.1 10 0) < 40 then
    0
  else
    1 : Int32) := rfl
def LJO_add_38 : Nat → hS → Int32 → Int32 → Int32 → Int32 → Int32 × hS
  | 0, S, x1, x2, x3, x4 => (0, S)
  | n + 1, S, x1, x2, x3, x4 =>
    if x4 ≤ 0 then
      (x4, S)
    else
      if (S.1 11 ((S.1 14 ((x4 - 1).toNatClampNeg)).toNatClampNeg)) ≤ x1 then
        (x4, S)
      else
        LJO_add_38 n (sI S 14 x4.toNatClampNeg (S.1 14 ((x4 - 1).toNatClampNeg))) x1 x2 x3 (x4 + (-1))
theorem LJO_add_38_s (n : Nat) (S : hS) (x1 : Int32) (x2 : Int32) (x3 : Int32) (x4 : Int32) : LJO_add_38 (n + 1) S x1 x2 x3 x4 =
    (if x4 ≤ 0 then
      (x4, S)
    else
      if (S.1 11 ((S.1 14 ((x4 - 1).toNatClampNeg)).toNatClampNeg)) ≤ x1 then
        (x4, S)
      else
        LJO_add_38 n (sI S 14 x4.toNatClampNeg (S.1 14 ((x4 - 1).toNatClampNeg))) x1 x2 x3 (x4 + (-1)) : Int32 × hS) := rfl
def FJO_add (S : hS) (x1 : Int32) (x2 : Int32) : Int32 × hS :=
  if (FJO_isFull S) = 0 then
    (fun (y14_4 : Int32) (S14 : hS) =>
      (S.1 10 0, (sI (sI S14 14 y14_4.toNatClampNeg (S.1 10 0)) 10 0 ((S14.1 10 0) + 1)))) (LJO_add_38 300 (sI (sI (sI S 11 ((S.1 10 0).toNatClampNeg) x1) 12 ((S.1 10 0).toNatClampNeg) x2) 13 ((S.1 10 0).toNatClampNeg) 0) x1 x2 (S.1 10 0) (S.1 10 0)).1 (LJO_add_38 300 (sI (sI (sI S 11 ((S.1 10 0).toNatClampNeg) x1) 12 ((S.1 10 0).toNatClampNeg) x2) 13 ((S.1 10 0).toNatClampNeg) 0) x1 x2 (S.1 10 0) (S.1 10 0)).2
  else
    ((-1), S)
theorem FJO_add_e (S : hS) (x1 : Int32) (x2 : Int32) : FJO_add S x1 x2 =
  (if (FJO_isFull S) = 0 then
    (fun (y14_4 : Int32) (S14 : hS) =>
      (S.1 10 0, (sI (sI S14 14 y14_4.toNatClampNeg (S.1 10 0)) 10 0 ((S14.1 10 0) + 1)))) (LJO_add_38 300 (sI (sI (sI S 11 ((S.1 10 0).toNatClampNeg) x1) 12 ((S.1 10 0).toNatClampNeg) x2) 13 ((S.1 10 0).toNatClampNeg) 0) x1 x2 (S.1 10 0) (S.1 10 0)).1 (LJO_add_38 300 (sI (sI (sI S 11 ((S.1 10 0).toNatClampNeg) x1) 12 ((S.1 10 0).toNatClampNeg) x2) 13 ((S.1 10 0).toNatClampNeg) 0) x1 x2 (S.1 10 0) (S.1 10 0)).2
  else
    ((-1), S) : Int32 × hS) := rfl
def FHL_entry (S : hS) (x1 : Int64) : Int32 × hS :=
  if (FBO_isUnclosedDay S x1) = 0 then
    ((-1), S)
  else
    (fun (v4 : Int32) (S4 : hS) =>
      (v4, S4)) (FJO_add S x1.toInt32 0).1 (FJO_add S x1.toInt32 0).2
theorem FHL_entry_e (S : hS) (x1 : Int64) : FHL_entry S x1 =
  (if (FBO_isUnclosedDay S x1) = 0 then
    ((-1), S)
  else
    (fun (v4 : Int32) (S4 : hS) =>
      (v4, S4)) (FJO_add S x1.toInt32 0).1 (FJO_add S x1.toInt32 0).2 : Int32 × hS) := rfl
def FJO_isOpen (S : hS) (x1 : Int32) : Int32 :=
  if x1 < 0 then
    0
  else
    if (S.1 10 0) ≤ x1 then
      0
    else
      if (S.1 12 x1.toNatClampNeg) = 0 then
        1
      else
        0
theorem FJO_isOpen_e (S : hS) (x1 : Int32) : FJO_isOpen S x1 =
  (if x1 < 0 then
    0
  else
    if (S.1 10 0) ≤ x1 then
      0
    else
      if (S.1 12 x1.toNatClampNeg) = 0 then
        1
      else
        0 : Int32) := rfl
def FAC_has (S : hS) (x1 : Int32) : Int32 :=
  if x1 < 0 then
    0
  else
    if (S.1 2 0) ≤ x1 then
      0
    else
      1
theorem FAC_has_e (S : hS) (x1 : Int32) : FAC_has S x1 =
  (if x1 < 0 then
    0
  else
    if (S.1 2 0) ≤ x1 then
      0
    else
      1 : Int32) := rfl
def FJO_addRow (S : hS) (x1 : Int32) (x2 : Int32) (x3 : Int64) : Int32 × hS :=
  if x1 < 0 then
    (0, S)
  else
    if (S.1 10 0) ≤ x1 then
      (0, S)
    else
      if (S.1 13 x1.toNatClampNeg) < 6 then
        (1, (sI (sL (sL (sI S 15 (((x1 * 6) + (S.1 13 x1.toNatClampNeg)).toNatClampNeg) x2) 16 (((x1 * 6) + (S.1 13 x1.toNatClampNeg)).toNatClampNeg) x3) 17 (((x1 * 6) + (S.1 13 x1.toNatClampNeg)).toNatClampNeg) (-1)) 13 x1.toNatClampNeg ((S.1 13 x1.toNatClampNeg) + 1)))
      else
        (0, S)
theorem FJO_addRow_e (S : hS) (x1 : Int32) (x2 : Int32) (x3 : Int64) : FJO_addRow S x1 x2 x3 =
  (if x1 < 0 then
    (0, S)
  else
    if (S.1 10 0) ≤ x1 then
      (0, S)
    else
      if (S.1 13 x1.toNatClampNeg) < 6 then
        (1, (sI (sL (sL (sI S 15 (((x1 * 6) + (S.1 13 x1.toNatClampNeg)).toNatClampNeg) x2) 16 (((x1 * 6) + (S.1 13 x1.toNatClampNeg)).toNatClampNeg) x3) 17 (((x1 * 6) + (S.1 13 x1.toNatClampNeg)).toNatClampNeg) (-1)) 13 x1.toNatClampNeg ((S.1 13 x1.toNatClampNeg) + 1)))
      else
        (0, S) : Int32 × hS) := rfl
def FHL_row (S : hS) (x1 : Int32) (x2 : Int32) (x3 : Int64) : Int32 × hS :=
  if (FJO_isOpen S x1) = 0 then
    (0, S)
  else
    if (FAC_has S x2) = 0 then
      (0, S)
    else
      if x3 = 0 then
        (0, S)
      else
        if x3 < (-100000000) then
          (0, S)
        else
          if x3 ≤ 100000000 then
            (fun (v9 : Int32) (S9 : hS) =>
              (v9, S9)) (FJO_addRow S x1 x2 x3).1 (FJO_addRow S x1 x2 x3).2
          else
            (0, S)
theorem FHL_row_e (S : hS) (x1 : Int32) (x2 : Int32) (x3 : Int64) : FHL_row S x1 x2 x3 =
  (if (FJO_isOpen S x1) = 0 then
    (0, S)
  else
    if (FAC_has S x2) = 0 then
      (0, S)
    else
      if x3 = 0 then
        (0, S)
      else
        if x3 < (-100000000) then
          (0, S)
        else
          if x3 ≤ 100000000 then
            (fun (v9 : Int32) (S9 : hS) =>
              (v9, S9)) (FJO_addRow S x1 x2 x3).1 (FJO_addRow S x1 x2 x3).2
          else
            (0, S) : Int32 × hS) := rfl
def LJO_sumOf_23 : Nat → hS → Int32 → Int64 → Int32 → Int32 → Int32 → Int64 × Int32
  | 0, S, x1, x2, x4, x5, x6 => (0, 0)
  | n + 1, S, x1, x2, x4, x5, x6 =>
    if x5 ≤ x6 then
      (x2, x6)
    else
      LJO_sumOf_23 n S x1 (x2 + (S.2 16 x6.toNatClampNeg)) x4 x5 (x6 + 1)
theorem LJO_sumOf_23_s (n : Nat) (S : hS) (x1 : Int32) (x2 : Int64) (x4 : Int32) (x5 : Int32) (x6 : Int32) : LJO_sumOf_23 (n + 1) S x1 x2 x4 x5 x6 =
    (if x5 ≤ x6 then
      (x2, x6)
    else
      LJO_sumOf_23 n S x1 (x2 + (S.2 16 x6.toNatClampNeg)) x4 x5 (x6 + 1) : Int64 × Int32) := rfl
def FJO_sumOf (S : hS) (x1 : Int32) : Int64 :=
  (fun (y6_2 : Int64) (y6_6 : Int32) =>
    y6_2) (LJO_sumOf_23 300 S x1 0 (x1 * 6) ((x1 * 6) + (S.1 13 x1.toNatClampNeg)) (x1 * 6)).1 (LJO_sumOf_23 300 S x1 0 (x1 * 6) ((x1 * 6) + (S.1 13 x1.toNatClampNeg)) (x1 * 6)).2
theorem FJO_sumOf_e (S : hS) (x1 : Int32) : FJO_sumOf S x1 =
  ((fun (y6_2 : Int64) (y6_6 : Int32) =>
    y6_2) (LJO_sumOf_23 300 S x1 0 (x1 * 6) ((x1 * 6) + (S.1 13 x1.toNatClampNeg)) (x1 * 6)).1 (LJO_sumOf_23 300 S x1 0 (x1 * 6) ((x1 * 6) + (S.1 13 x1.toNatClampNeg)) (x1 * 6)).2 : Int64) := rfl
def FAC_hasHousehold (S : hS) (x1 : Int32) : Int32 :=
  if (FAC_has S x1) = 0 then
    0
  else
    if (S.1 3 x1.toNatClampNeg) = 1 then
      1
    else
      0
theorem FAC_hasHousehold_e (S : hS) (x1 : Int32) : FAC_hasHousehold S x1 =
  (if (FAC_has S x1) = 0 then
    0
  else
    if (S.1 3 x1.toNatClampNeg) = 1 then
      1
    else
      0 : Int32) := rfl
def LBO_makeItems_20 : Nat → hS → Int32 → Int32 → Int32 → Int32 → Int32 × hS
  | 0, S, x1, x2, x3, x4 => (0, S)
  | n + 1, S, x1, x2, x3, x4 =>
    if x3 ≤ x4 then
      (x4, S)
    else
      if (S.2 16 x4.toNatClampNeg) ≤ 0 then
        LBO_makeItems_20 n S x1 x2 x3 (x4 + 1)
      else
        if (FAC_hasHousehold S (S.1 15 x4.toNatClampNeg)) = 0 then
          LBO_makeItems_20 n S x1 x2 x3 (x4 + 1)
        else
          LBO_makeItems_20 n (sL S 17 x4.toNatClampNeg (S.2 16 x4.toNatClampNeg)) x1 x2 x3 (x4 + 1)
theorem LBO_makeItems_20_s (n : Nat) (S : hS) (x1 : Int32) (x2 : Int32) (x3 : Int32) (x4 : Int32) : LBO_makeItems_20 (n + 1) S x1 x2 x3 x4 =
    (if x3 ≤ x4 then
      (x4, S)
    else
      if (S.2 16 x4.toNatClampNeg) ≤ 0 then
        LBO_makeItems_20 n S x1 x2 x3 (x4 + 1)
      else
        if (FAC_hasHousehold S (S.1 15 x4.toNatClampNeg)) = 0 then
          LBO_makeItems_20 n S x1 x2 x3 (x4 + 1)
        else
          LBO_makeItems_20 n (sL S 17 x4.toNatClampNeg (S.2 16 x4.toNatClampNeg)) x1 x2 x3 (x4 + 1) : Int32 × hS) := rfl
def FBO_makeItems (S : hS) (x1 : Int32) : hS :=
  (fun (y16_4 : Int32) (S16 : hS) =>
    S16) (LBO_makeItems_20 300 S x1 (x1 * 6) ((x1 * 6) + (S.1 13 x1.toNatClampNeg)) (x1 * 6)).1 (LBO_makeItems_20 300 S x1 (x1 * 6) ((x1 * 6) + (S.1 13 x1.toNatClampNeg)) (x1 * 6)).2
theorem FBO_makeItems_e (S : hS) (x1 : Int32) : FBO_makeItems S x1 =
  ((fun (y16_4 : Int32) (S16 : hS) =>
    S16) (LBO_makeItems_20 300 S x1 (x1 * 6) ((x1 * 6) + (S.1 13 x1.toNatClampNeg)) (x1 * 6)).1 (LBO_makeItems_20 300 S x1 (x1 * 6) ((x1 * 6) + (S.1 13 x1.toNatClampNeg)) (x1 * 6)).2 : hS) := rfl
def FHL_close (S : hS) (x1 : Int32) : Int32 × hS :=
  if (FJO_isOpen S x1) = 0 then
    ((-1), S)
  else
    if (FBO_isUnclosedDay S ((S.1 11 x1.toNatClampNeg).toInt64)) = 0 then
      ((-1), S)
    else
      if (FJO_sumOf S x1) = 0 then
        ((FBO_makeItems (sI S 12 x1.toNatClampNeg 1) x1).1 13 x1.toNatClampNeg, (FBO_makeItems (sI S 12 x1.toNatClampNeg 1) x1))
      else
        (0, S)
theorem FHL_close_e (S : hS) (x1 : Int32) : FHL_close S x1 =
  (if (FJO_isOpen S x1) = 0 then
    ((-1), S)
  else
    if (FBO_isUnclosedDay S ((S.1 11 x1.toNatClampNeg).toInt64)) = 0 then
      ((-1), S)
    else
      if (FJO_sumOf S x1) = 0 then
        ((FBO_makeItems (sI S 12 x1.toNatClampNeg 1) x1).1 13 x1.toNatClampNeg, (FBO_makeItems (sI S 12 x1.toNatClampNeg 1) x1))
      else
        (0, S) : Int32 × hS) := rfl
def FJO_isPostedRow (S : hS) (x1 : Int32) (x2 : Int32) : Int32 :=
  if (S.1 12 ((x1 / 6).toNatClampNeg)) = 0 then
    0
  else
    if (S.1 13 ((x1 / 6).toNatClampNeg)) ≤ (x1 - x1 / 6 * 6) then
      0
    else
      if (S.1 15 x1.toNatClampNeg) = x2 then
        1
      else
        0
theorem FJO_isPostedRow_e (S : hS) (x1 : Int32) (x2 : Int32) : FJO_isPostedRow S x1 x2 =
  (if (S.1 12 ((x1 / 6).toNatClampNeg)) = 0 then
    0
  else
    if (S.1 13 ((x1 / 6).toNatClampNeg)) ≤ (x1 - x1 / 6 * 6) then
      0
    else
      if (S.1 15 x1.toNatClampNeg) = x2 then
        1
      else
        0 : Int32) := rfl
def LJO_sumUntil_14 : Nat → hS → Int32 → Int32 → Int64 → Int32 → Int32 → Int64 × Int32
  | 0, S, x1, x2, x3, x5, x6 => (0, 0)
  | n + 1, S, x1, x2, x3, x5, x6 =>
    if x5 ≤ x6 then
      (x3, x6)
    else
      if x2 < (S.1 11 ((x6 / 6).toNatClampNeg)) then
        LJO_sumUntil_14 n S x1 x2 x3 x5 (x6 + 1)
      else
        if (FJO_isPostedRow S x6 x1) = 0 then
          LJO_sumUntil_14 n S x1 x2 x3 x5 (x6 + 1)
        else
          LJO_sumUntil_14 n S x1 x2 (x3 + (S.2 16 x6.toNatClampNeg)) x5 (x6 + 1)
theorem LJO_sumUntil_14_s (n : Nat) (S : hS) (x1 : Int32) (x2 : Int32) (x3 : Int64) (x5 : Int32) (x6 : Int32) : LJO_sumUntil_14 (n + 1) S x1 x2 x3 x5 x6 =
    (if x5 ≤ x6 then
      (x3, x6)
    else
      if x2 < (S.1 11 ((x6 / 6).toNatClampNeg)) then
        LJO_sumUntil_14 n S x1 x2 x3 x5 (x6 + 1)
      else
        if (FJO_isPostedRow S x6 x1) = 0 then
          LJO_sumUntil_14 n S x1 x2 x3 x5 (x6 + 1)
        else
          LJO_sumUntil_14 n S x1 x2 (x3 + (S.2 16 x6.toNatClampNeg)) x5 (x6 + 1) : Int64 × Int32) := rfl
def FJO_sumUntil (S : hS) (x1 : Int32) (x2 : Int32) : Int64 :=
  (fun (y13_3 : Int64) (y13_6 : Int32) =>
    y13_3) (LJO_sumUntil_14 300 S x1 x2 0 ((S.1 10 0) * 6) 0).1 (LJO_sumUntil_14 300 S x1 x2 0 ((S.1 10 0) * 6) 0).2
theorem FJO_sumUntil_e (S : hS) (x1 : Int32) (x2 : Int32) : FJO_sumUntil S x1 x2 =
  ((fun (y13_3 : Int64) (y13_6 : Int32) =>
    y13_3) (LJO_sumUntil_14 300 S x1 x2 0 ((S.1 10 0) * 6) 0).1 (LJO_sumUntil_14 300 S x1 x2 0 ((S.1 10 0) * 6) 0).2 : Int64) := rfl
def FHL_balance (S : hS) (x1 : Int32) (x2 : Int64) : Int64 :=
  if (FAC_has S x1) = 0 then
    0
  else
    if (FHL_isDay S x2) = 0 then
      0
    else
      FJO_sumUntil S x1 x2.toInt32
theorem FHL_balance_e (S : hS) (x1 : Int32) (x2 : Int64) : FHL_balance S x1 x2 =
  (if (FAC_has S x1) = 0 then
    0
  else
    if (FHL_isDay S x2) = 0 then
      0
    else
      FJO_sumUntil S x1 x2.toInt32 : Int64) := rfl
def LAC_firstCash_2 : Nat → hS → Int32 → (Int32) ⊕ (Int32)
  | 0, S, x1 => .inr 0
  | n + 1, S, x1 =>
    if (S.1 2 0) ≤ x1 then
      .inr x1
    else
      if (S.1 3 x1.toNatClampNeg) = 0 then
        .inl x1
      else
        LAC_firstCash_2 n S (x1 + 1)
theorem LAC_firstCash_2_s (n : Nat) (S : hS) (x1 : Int32) : LAC_firstCash_2 (n + 1) S x1 =
    (if (S.1 2 0) ≤ x1 then
      .inr x1
    else
      if (S.1 3 x1.toNatClampNeg) = 0 then
        .inl x1
      else
        LAC_firstCash_2 n S (x1 + 1) : (Int32) ⊕ (Int32)) := rfl
def FAC_firstCash (S : hS)  : Int32 :=
  Sum.elim (fun q => q) (fun (qq : Int32) => (fun (y6_1 : Int32) =>
    (-1)) qq) (LAC_firstCash_2 300 S 0)
theorem FAC_firstCash_e (S : hS)  : FAC_firstCash S  =
  (Sum.elim (fun q => q) (fun (qq : Int32) => (fun (y6_1 : Int32) =>
    (-1)) qq) (LAC_firstCash_2 300 S 0) : Int32) := rfl
def FJO_itemAt (S : hS) (x1 : Int32) (x2 : Int32) : Int32 :=
  if (S.1 13 ((S.1 14 ((x1 / 6).toNatClampNeg)).toNatClampNeg)) ≤ (x1 - x1 / 6 * 6) then
    (-1)
  else
    if (S.1 15 ((((S.1 14 ((x1 / 6).toNatClampNeg)) * 6) + (x1 - x1 / 6 * 6)).toNatClampNeg)) = x2 then
      if (S.2 17 ((((S.1 14 ((x1 / 6).toNatClampNeg)) * 6) + (x1 - x1 / 6 * 6)).toNatClampNeg)) = (-1) then
        (-1)
      else
        ((S.1 14 ((x1 / 6).toNatClampNeg)) * 6) + (x1 - x1 / 6 * 6)
    else
      (-1)
theorem FJO_itemAt_e (S : hS) (x1 : Int32) (x2 : Int32) : FJO_itemAt S x1 x2 =
  (if (S.1 13 ((S.1 14 ((x1 / 6).toNatClampNeg)).toNatClampNeg)) ≤ (x1 - x1 / 6 * 6) then
    (-1)
  else
    if (S.1 15 ((((S.1 14 ((x1 / 6).toNatClampNeg)) * 6) + (x1 - x1 / 6 * 6)).toNatClampNeg)) = x2 then
      if (S.2 17 ((((S.1 14 ((x1 / 6).toNatClampNeg)) * 6) + (x1 - x1 / 6 * 6)).toNatClampNeg)) = (-1) then
        (-1)
      else
        ((S.1 14 ((x1 / 6).toNatClampNeg)) * 6) + (x1 - x1 / 6 * 6)
    else
      (-1) : Int32) := rfl
def FJO_keepGift (S : hS) (x1 : Int32) (x2 : Int32) : hS :=
  if 280 ≤ (S.1 10 8) then
    S
  else
    (sI (sI (sI S 18 ((S.1 10 8).toNatClampNeg) x1) 19 ((S.1 10 8).toNatClampNeg) x2) 10 8 ((S.1 10 8) + 1))
theorem FJO_keepGift_e (S : hS) (x1 : Int32) (x2 : Int32) : FJO_keepGift S x1 x2 =
  (if 280 ≤ (S.1 10 8) then
    S
  else
    (sI (sI (sI S 18 ((S.1 10 8).toNatClampNeg) x1) 19 ((S.1 10 8).toNatClampNeg) x2) 10 8 ((S.1 10 8) + 1)) : hS) := rfl
def LJO_payItems_15 : Nat → hS → Int32 → Int32 → Int64 → Int64 → Int32 → Int32 → Int64 × Int32 × hS
  | 0, S, x1, x2, x3, x5, x7, x8 => (0, 0, S)
  | n + 1, S, x1, x2, x3, x5, x7, x8 =>
    if x7 ≤ x8 then
      (x5, x8, S)
    else
      if x5 ≤ 0 then
        (x5, x8, S)
      else
        if (FJO_itemAt S x8 x2) = (-1) then
          LJO_payItems_15 n S x1 x2 x3 x5 x7 (x8 + 1)
        else
          if (S.2 17 ((FJO_itemAt S x8 x2).toNatClampNeg)) ≤ 0 then
            LJO_payItems_15 n S x1 x2 x3 x5 x7 (x8 + 1)
          else
            LJO_payItems_15 n (FJO_keepGift (sL S 17 ((FJO_itemAt S x8 x2).toNatClampNeg) ((S.2 17 ((FJO_itemAt S x8 x2).toNatClampNeg)) - (if (S.2 17 ((FJO_itemAt S x8 x2).toNatClampNeg)) < x5 then (S.2 17 ((FJO_itemAt S x8 x2).toNatClampNeg)) else x5))) x1 (FJO_itemAt S x8 x2)) x1 x2 x3 (x5 - (if (S.2 17 ((FJO_itemAt S x8 x2).toNatClampNeg)) < x5 then (S.2 17 ((FJO_itemAt S x8 x2).toNatClampNeg)) else x5)) x7 (x8 + 1)
theorem LJO_payItems_15_s (n : Nat) (S : hS) (x1 : Int32) (x2 : Int32) (x3 : Int64) (x5 : Int64) (x7 : Int32) (x8 : Int32) : LJO_payItems_15 (n + 1) S x1 x2 x3 x5 x7 x8 =
    (if x7 ≤ x8 then
      (x5, x8, S)
    else
      if x5 ≤ 0 then
        (x5, x8, S)
      else
        if (FJO_itemAt S x8 x2) = (-1) then
          LJO_payItems_15 n S x1 x2 x3 x5 x7 (x8 + 1)
        else
          if (S.2 17 ((FJO_itemAt S x8 x2).toNatClampNeg)) ≤ 0 then
            LJO_payItems_15 n S x1 x2 x3 x5 x7 (x8 + 1)
          else
            LJO_payItems_15 n (FJO_keepGift (sL S 17 ((FJO_itemAt S x8 x2).toNatClampNeg) ((S.2 17 ((FJO_itemAt S x8 x2).toNatClampNeg)) - (if (S.2 17 ((FJO_itemAt S x8 x2).toNatClampNeg)) < x5 then (S.2 17 ((FJO_itemAt S x8 x2).toNatClampNeg)) else x5))) x1 (FJO_itemAt S x8 x2)) x1 x2 x3 (x5 - (if (S.2 17 ((FJO_itemAt S x8 x2).toNatClampNeg)) < x5 then (S.2 17 ((FJO_itemAt S x8 x2).toNatClampNeg)) else x5)) x7 (x8 + 1) : Int64 × Int32 × hS) := rfl
def FJO_payItems (S : hS) (x1 : Int32) (x2 : Int32) (x3 : Int64) : hS :=
  (fun (y17_5 : Int64) (y17_8 : Int32) (S17 : hS) =>
    S17) (LJO_payItems_15 300 S x1 x2 x3 x3 ((S.1 10 0) * 6) 0).1 (LJO_payItems_15 300 S x1 x2 x3 x3 ((S.1 10 0) * 6) 0).2.1 (LJO_payItems_15 300 S x1 x2 x3 x3 ((S.1 10 0) * 6) 0).2.2
theorem FJO_payItems_e (S : hS) (x1 : Int32) (x2 : Int32) (x3 : Int64) : FJO_payItems S x1 x2 x3 =
  ((fun (y17_5 : Int64) (y17_8 : Int32) (S17 : hS) =>
    S17) (LJO_payItems_15 300 S x1 x2 x3 x3 ((S.1 10 0) * 6) 0).1 (LJO_payItems_15 300 S x1 x2 x3 x3 ((S.1 10 0) * 6) 0).2.1 (LJO_payItems_15 300 S x1 x2 x3 x3 ((S.1 10 0) * 6) 0).2.2 : hS) := rfl
def FBO_keepFound (S : hS) (x1 : Int64) : hS :=
  if 20 ≤ (S.1 1 4) then
    S
  else
    (sI (sL S 24 ((S.1 1 4).toNatClampNeg) x1) 1 4 ((S.1 1 4) + 1))
theorem FBO_keepFound_e (S : hS) (x1 : Int64) : FBO_keepFound S x1 =
  (if 20 ≤ (S.1 1 4) then
    S
  else
    (sI (sL S 24 ((S.1 1 4).toNatClampNeg) x1) 1 4 ((S.1 1 4) + 1)) : hS) := rfl
def FHL_payment (S : hS) (x1 : Int32) (x2 : Int64) (x4 : Int64) : Int32 × hS :=
  if x2 < 1 then
    ((-1), S)
  else
    if 100000000 < x2 then
      ((-1), S)
    else
      if (FBO_isUnclosedDay S x4) = 0 then
        ((-1), S)
      else
        if (FAC_firstCash S) = (-1) then
          ((-1), S)
        else
          if (FJO_isFull S) = 0 then
            if (FAC_hasHousehold S x1) = 0 then
              ((-1), (FBO_keepFound S x2))
            else
              (fun (v12 : Int32) (S12 : hS) =>
                (fun (v14 : Int32) (S14 : hS) =>
                  (fun (v16 : Int32) (S16 : hS) =>
                    (v12, (FJO_payItems S16 v12 x1 x2))) (FJO_addRow S14 v12 x1 (-x2)).1 (FJO_addRow S14 v12 x1 (-x2)).2) (FJO_addRow S12 v12 (FAC_firstCash S) x2).1 (FJO_addRow S12 v12 (FAC_firstCash S) x2).2) (FJO_add S x4.toInt32 2).1 (FJO_add S x4.toInt32 2).2
          else
            ((-1), S)
theorem FHL_payment_e (S : hS) (x1 : Int32) (x2 : Int64) (x4 : Int64) : FHL_payment S x1 x2 x4 =
  (if x2 < 1 then
    ((-1), S)
  else
    if 100000000 < x2 then
      ((-1), S)
    else
      if (FBO_isUnclosedDay S x4) = 0 then
        ((-1), S)
      else
        if (FAC_firstCash S) = (-1) then
          ((-1), S)
        else
          if (FJO_isFull S) = 0 then
            if (FAC_hasHousehold S x1) = 0 then
              ((-1), (FBO_keepFound S x2))
            else
              (fun (v12 : Int32) (S12 : hS) =>
                (fun (v14 : Int32) (S14 : hS) =>
                  (fun (v16 : Int32) (S16 : hS) =>
                    (v12, (FJO_payItems S16 v12 x1 x2))) (FJO_addRow S14 v12 x1 (-x2)).1 (FJO_addRow S14 v12 x1 (-x2)).2) (FJO_addRow S12 v12 (FAC_firstCash S) x2).1 (FJO_addRow S12 v12 (FAC_firstCash S) x2).2) (FJO_add S x4.toInt32 2).1 (FJO_add S x4.toInt32 2).2
          else
            ((-1), S) : Int32 × hS) := rfl
def LJO_itemOf_14 : Nat → hS → Int32 → Int32 → Int32 → Int32 → Int32 → (Int32) ⊕ (Int32 × Int32)
  | 0, S, x1, x2, x3, x4, x5 => .inr (0, 0)
  | n + 1, S, x1, x2, x3, x4, x5 =>
    if x4 ≤ x5 then
      .inr (x3, x5)
    else
      if (FJO_itemAt S x5 x1) = (-1) then
        LJO_itemOf_14 n S x1 x2 x3 x4 (x5 + 1)
      else
        if x3 = x2 then
          .inl (FJO_itemAt S x5 x1)
        else
          LJO_itemOf_14 n S x1 x2 (x3 + 1) x4 (x5 + 1)
theorem LJO_itemOf_14_s (n : Nat) (S : hS) (x1 : Int32) (x2 : Int32) (x3 : Int32) (x4 : Int32) (x5 : Int32) : LJO_itemOf_14 (n + 1) S x1 x2 x3 x4 x5 =
    (if x4 ≤ x5 then
      .inr (x3, x5)
    else
      if (FJO_itemAt S x5 x1) = (-1) then
        LJO_itemOf_14 n S x1 x2 x3 x4 (x5 + 1)
      else
        if x3 = x2 then
          .inl (FJO_itemAt S x5 x1)
        else
          LJO_itemOf_14 n S x1 x2 (x3 + 1) x4 (x5 + 1) : (Int32) ⊕ (Int32 × Int32)) := rfl
def FJO_itemOf (S : hS) (x1 : Int32) (x2 : Int32) : Int32 :=
  Sum.elim (fun q => q) (fun (qq : Int32 × Int32) => (fun (y9_3 : Int32) (y9_5 : Int32) =>
    (-1)) qq.1 qq.2) (LJO_itemOf_14 300 S x1 x2 0 ((S.1 10 0) * 6) 0)
theorem FJO_itemOf_e (S : hS) (x1 : Int32) (x2 : Int32) : FJO_itemOf S x1 x2 =
  (Sum.elim (fun q => q) (fun (qq : Int32 × Int32) => (fun (y9_3 : Int32) (y9_5 : Int32) =>
    (-1)) qq.1 qq.2) (LJO_itemOf_14 300 S x1 x2 0 ((S.1 10 0) * 6) 0) : Int32) := rfl
def FHL_item (S : hS) (x1 : Int32) (x2 : Int32) : Int64 :=
  if (FAC_hasHousehold S x1) = 0 then
    (-1)
  else
    if (FJO_itemOf S x1 x2) = (-1) then
      (-1)
    else
      S.2 17 ((FJO_itemOf S x1 x2).toNatClampNeg)
theorem FHL_item_e (S : hS) (x1 : Int32) (x2 : Int32) : FHL_item S x1 x2 =
  (if (FAC_hasHousehold S x1) = 0 then
    (-1)
  else
    if (FJO_itemOf S x1 x2) = (-1) then
      (-1)
    else
      S.2 17 ((FJO_itemOf S x1 x2).toNatClampNeg) : Int64) := rfl
def FJO_told (S : hS) (x0 : Int32) : Int32 :=
  ((x0 / 6) * 10) + (x0 - x0 / 6 * 6)
theorem FJO_told_e (S : hS) (x0 : Int32) : FJO_told S x0 =
  (((x0 / 6) * 10) + (x0 - x0 / 6 * 6) : Int32) := rfl
def LJO_toldGift_5 : Nat → hS → Int32 → Int32 → Int32 → Int32 → (Int32) ⊕ (Int32 × Int32)
  | 0, S, x1, x2, x3, x4 => .inr (0, 0)
  | n + 1, S, x1, x2, x3, x4 =>
    if (S.1 10 8) ≤ x4 then
      .inr (x3, x4)
    else
      if (S.1 18 x4.toNatClampNeg) = x1 then
        if x3 = x2 then
          .inl (FJO_told S (S.1 19 x4.toNatClampNeg))
        else
          LJO_toldGift_5 n S x1 x2 (x3 + 1) (x4 + 1)
      else
        LJO_toldGift_5 n S x1 x2 x3 (x4 + 1)
theorem LJO_toldGift_5_s (n : Nat) (S : hS) (x1 : Int32) (x2 : Int32) (x3 : Int32) (x4 : Int32) : LJO_toldGift_5 (n + 1) S x1 x2 x3 x4 =
    (if (S.1 10 8) ≤ x4 then
      .inr (x3, x4)
    else
      if (S.1 18 x4.toNatClampNeg) = x1 then
        if x3 = x2 then
          .inl (FJO_told S (S.1 19 x4.toNatClampNeg))
        else
          LJO_toldGift_5 n S x1 x2 (x3 + 1) (x4 + 1)
      else
        LJO_toldGift_5 n S x1 x2 x3 (x4 + 1) : (Int32) ⊕ (Int32 × Int32)) := rfl
def FJO_toldGift (S : hS) (x1 : Int32) (x2 : Int32) : Int32 :=
  Sum.elim (fun q => q) (fun (qq : Int32 × Int32) => (fun (y10_3 : Int32) (y10_4 : Int32) =>
    (-1)) qq.1 qq.2) (LJO_toldGift_5 300 S x1 x2 0 0)
theorem FJO_toldGift_e (S : hS) (x1 : Int32) (x2 : Int32) : FJO_toldGift S x1 x2 =
  (Sum.elim (fun q => q) (fun (qq : Int32 × Int32) => (fun (y10_3 : Int32) (y10_4 : Int32) =>
    (-1)) qq.1 qq.2) (LJO_toldGift_5 300 S x1 x2 0 0) : Int32) := rfl
def FHL_opened (S : hS) (x1 : Int32) (x2 : Int32) : Int32 :=
  FJO_toldGift S x1 x2
theorem FHL_opened_e (S : hS) (x1 : Int32) (x2 : Int32) : FHL_opened S x1 x2 =
  (FJO_toldGift S x1 x2 : Int32) := rfl
def FJO_daysLate (S : hS) (x1 : Int32) (x2 : Int32) : Int32 :=
  if 0 < ((x2 - (S.1 11 ((x1 / 6).toNatClampNeg))) - 30) then ((x2 - (S.1 11 ((x1 / 6).toNatClampNeg))) - 30) else 0
theorem FJO_daysLate_e (S : hS) (x1 : Int32) (x2 : Int32) : FJO_daysLate S x1 x2 =
  (if 0 < ((x2 - (S.1 11 ((x1 / 6).toNatClampNeg))) - 30) then ((x2 - (S.1 11 ((x1 / 6).toNatClampNeg))) - 30) else 0 : Int32) := rfl
def LJO_isOverdue_11 : Nat → hS → Int32 → Int32 → Int32 → Int32 → (Int32) ⊕ (Int32)
  | 0, S, x1, x2, x3, x4 => .inr 0
  | n + 1, S, x1, x2, x3, x4 =>
    if x3 ≤ x4 then
      .inr x4
    else
      if (FJO_itemAt S x4 x1) = (-1) then
        LJO_isOverdue_11 n S x1 x2 x3 (x4 + 1)
      else
        if (S.2 17 ((FJO_itemAt S x4 x1).toNatClampNeg)) ≤ 0 then
          LJO_isOverdue_11 n S x1 x2 x3 (x4 + 1)
        else
          if (FJO_daysLate S (FJO_itemAt S x4 x1) x2) ≤ 0 then
            LJO_isOverdue_11 n S x1 x2 x3 (x4 + 1)
          else
            .inl 1
theorem LJO_isOverdue_11_s (n : Nat) (S : hS) (x1 : Int32) (x2 : Int32) (x3 : Int32) (x4 : Int32) : LJO_isOverdue_11 (n + 1) S x1 x2 x3 x4 =
    (if x3 ≤ x4 then
      .inr x4
    else
      if (FJO_itemAt S x4 x1) = (-1) then
        LJO_isOverdue_11 n S x1 x2 x3 (x4 + 1)
      else
        if (S.2 17 ((FJO_itemAt S x4 x1).toNatClampNeg)) ≤ 0 then
          LJO_isOverdue_11 n S x1 x2 x3 (x4 + 1)
        else
          if (FJO_daysLate S (FJO_itemAt S x4 x1) x2) ≤ 0 then
            LJO_isOverdue_11 n S x1 x2 x3 (x4 + 1)
          else
            .inl 1 : (Int32) ⊕ (Int32)) := rfl
def FJO_isOverdue (S : hS) (x1 : Int32) (x2 : Int32) : Int32 :=
  Sum.elim (fun q => q) (fun (qq : Int32) => (fun (y14_4 : Int32) =>
    0) qq) (LJO_isOverdue_11 300 S x1 x2 ((S.1 10 0) * 6) 0)
theorem FJO_isOverdue_e (S : hS) (x1 : Int32) (x2 : Int32) : FJO_isOverdue S x1 x2 =
  (Sum.elim (fun q => q) (fun (qq : Int32) => (fun (y14_4 : Int32) =>
    0) qq) (LJO_isOverdue_11 300 S x1 x2 ((S.1 10 0) * 6) 0) : Int32) := rfl
def FAC_mayStep (S : hS) (x1 : Int32) (x2 : Int32) : Int32 :=
  if x2.toInt64 < (S.2 6 x1.toNatClampNeg) then
    if (S.1 4 x1.toNatClampNeg) = 0 then
      1
    else
      if (x2 - (S.1 5 x1.toNatClampNeg)) < 14 then
        0
      else
        1
  else
    if (S.2 7 x1.toNatClampNeg) < x2.toInt64 then
      if (S.1 4 x1.toNatClampNeg) = 0 then
        1
      else
        if (x2 - (S.1 5 x1.toNatClampNeg)) < 14 then
          0
        else
          1
    else
      0
theorem FAC_mayStep_e (S : hS) (x1 : Int32) (x2 : Int32) : FAC_mayStep S x1 x2 =
  (if x2.toInt64 < (S.2 6 x1.toNatClampNeg) then
    if (S.1 4 x1.toNatClampNeg) = 0 then
      1
    else
      if (x2 - (S.1 5 x1.toNatClampNeg)) < 14 then
        0
      else
        1
  else
    if (S.2 7 x1.toNatClampNeg) < x2.toInt64 then
      if (S.1 4 x1.toNatClampNeg) = 0 then
        1
      else
        if (x2 - (S.1 5 x1.toNatClampNeg)) < 14 then
          0
        else
          1
    else
      0 : Int32) := rfl
def FAC_stepUp (S : hS) (x1 : Int32) (x2 : Int32) : hS :=
  (sI (sI S 4 x1.toNatClampNeg (if ((S.1 4 x1.toNatClampNeg) + 1) < 3 then ((S.1 4 x1.toNatClampNeg) + 1) else 3)) 5 x1.toNatClampNeg x2)
theorem FAC_stepUp_e (S : hS) (x1 : Int32) (x2 : Int32) : FAC_stepUp S x1 x2 =
  ((sI (sI S 4 x1.toNatClampNeg (if ((S.1 4 x1.toNatClampNeg) + 1) < 3 then ((S.1 4 x1.toNatClampNeg) + 1) else 3)) 5 x1.toNatClampNeg x2) : hS) := rfl
def FHL_dun (S : hS) (x1 : Int32) (x2 : Int64) : Int32 × hS :=
  if (FAC_hasHousehold S x1) = 0 then
    ((-1), S)
  else
    if (FHL_isDay S x2) = 0 then
      ((-1), S)
    else
      if (FJO_isOverdue S x1 x2.toInt32) = 0 then
        (0, (sI S 4 x1.toNatClampNeg 0))
      else
        if (FAC_mayStep S x1 x2.toInt32) = 0 then
          (S.1 4 x1.toNatClampNeg, S)
        else
          ((FAC_stepUp S x1 x2.toInt32).1 4 x1.toNatClampNeg, (FAC_stepUp S x1 x2.toInt32))
theorem FHL_dun_e (S : hS) (x1 : Int32) (x2 : Int64) : FHL_dun S x1 x2 =
  (if (FAC_hasHousehold S x1) = 0 then
    ((-1), S)
  else
    if (FHL_isDay S x2) = 0 then
      ((-1), S)
    else
      if (FJO_isOverdue S x1 x2.toInt32) = 0 then
        (0, (sI S 4 x1.toNatClampNeg 0))
      else
        if (FAC_mayStep S x1 x2.toInt32) = 0 then
          (S.1 4 x1.toNatClampNeg, S)
        else
          ((FAC_stepUp S x1 x2.toInt32).1 4 x1.toNatClampNeg, (FAC_stepUp S x1 x2.toInt32)) : Int32 × hS) := rfl
def FHL_hardship (S : hS) (x1 : Int32) (x2 : Int64) (x4 : Int64) : Int32 × hS :=
  if (FAC_hasHousehold S x1) = 0 then
    (0, S)
  else
    if x2 ≤ x4 then
      (1, (sL (sL S 6 x1.toNatClampNeg x2) 7 x1.toNatClampNeg x4))
    else
      (0, S)
theorem FHL_hardship_e (S : hS) (x1 : Int32) (x2 : Int64) (x4 : Int64) : FHL_hardship S x1 x2 x4 =
  (if (FAC_hasHousehold S x1) = 0 then
    (0, S)
  else
    if x2 ≤ x4 then
      (1, (sL (sL S 6 x1.toNatClampNeg x2) 7 x1.toNatClampNeg x4))
    else
      (0, S) : Int32 × hS) := rfl
def LJO_dueOf_14 : Nat → hS → Int32 → Int64 → Int32 → Int32 → Int64 × Int32
  | 0, S, x1, x2, x4, x5 => (0, 0)
  | n + 1, S, x1, x2, x4, x5 =>
    if x4 ≤ x5 then
      (x2, x5)
    else
      if (FJO_itemAt S x5 x1) = (-1) then
        LJO_dueOf_14 n S x1 x2 x4 (x5 + 1)
      else
        LJO_dueOf_14 n S x1 (x2 + (S.2 17 ((FJO_itemAt S x5 x1).toNatClampNeg))) x4 (x5 + 1)
theorem LJO_dueOf_14_s (n : Nat) (S : hS) (x1 : Int32) (x2 : Int64) (x4 : Int32) (x5 : Int32) : LJO_dueOf_14 (n + 1) S x1 x2 x4 x5 =
    (if x4 ≤ x5 then
      (x2, x5)
    else
      if (FJO_itemAt S x5 x1) = (-1) then
        LJO_dueOf_14 n S x1 x2 x4 (x5 + 1)
      else
        LJO_dueOf_14 n S x1 (x2 + (S.2 17 ((FJO_itemAt S x5 x1).toNatClampNeg))) x4 (x5 + 1) : Int64 × Int32) := rfl
def FJO_dueOf (S : hS) (x1 : Int32) : Int64 :=
  (fun (y9_2 : Int64) (y9_5 : Int32) =>
    y9_2) (LJO_dueOf_14 300 S x1 0 ((S.1 10 0) * 6) 0).1 (LJO_dueOf_14 300 S x1 0 ((S.1 10 0) * 6) 0).2
theorem FJO_dueOf_e (S : hS) (x1 : Int32) : FJO_dueOf S x1 =
  ((fun (y9_2 : Int64) (y9_5 : Int32) =>
    y9_2) (LJO_dueOf_14 300 S x1 0 ((S.1 10 0) * 6) 0).1 (LJO_dueOf_14 300 S x1 0 ((S.1 10 0) * 6) 0).2 : Int64) := rfl
def FPL_add (S : hS) (x1 : Int64) (x3 : Int32) : Int32 × hS :=
  if 10 ≤ (S.1 20 0) then
    ((-1), S)
  else
    if 1 ≤ x3 then
      (S.1 20 0, (sI (sL (sL (sI S 21 ((S.1 20 0).toNatClampNeg) x3) 22 ((S.1 20 0).toNatClampNeg) (x1 / x3.toInt64)) 23 ((S.1 20 0).toNatClampNeg) (x1 - x1 / x3.toInt64 * x3.toInt64)) 20 0 ((S.1 20 0) + 1)))
    else
      ((-1), S)
theorem FPL_add_e (S : hS) (x1 : Int64) (x3 : Int32) : FPL_add S x1 x3 =
  (if 10 ≤ (S.1 20 0) then
    ((-1), S)
  else
    if 1 ≤ x3 then
      (S.1 20 0, (sI (sL (sL (sI S 21 ((S.1 20 0).toNatClampNeg) x3) 22 ((S.1 20 0).toNatClampNeg) (x1 / x3.toInt64)) 23 ((S.1 20 0).toNatClampNeg) (x1 - x1 / x3.toInt64 * x3.toInt64)) 20 0 ((S.1 20 0) + 1)))
    else
      ((-1), S) : Int32 × hS) := rfl
def FHL_instal (S : hS) (x1 : Int32) (x2 : Int32) : Int32 × hS :=
  if (FAC_hasHousehold S x1) = 0 then
    ((-1), S)
  else
    if x2 < 1 then
      ((-1), S)
    else
      if x2 ≤ 24 then
        if (FJO_dueOf S x1) = 0 then
          ((-1), S)
        else
          (fun (v8 : Int32) (S8 : hS) =>
            (v8, S8)) (FPL_add S (FJO_dueOf S x1) x2).1 (FPL_add S (FJO_dueOf S x1) x2).2
      else
        ((-1), S)
theorem FHL_instal_e (S : hS) (x1 : Int32) (x2 : Int32) : FHL_instal S x1 x2 =
  (if (FAC_hasHousehold S x1) = 0 then
    ((-1), S)
  else
    if x2 < 1 then
      ((-1), S)
    else
      if x2 ≤ 24 then
        if (FJO_dueOf S x1) = 0 then
          ((-1), S)
        else
          (fun (v8 : Int32) (S8 : hS) =>
            (v8, S8)) (FPL_add S (FJO_dueOf S x1) x2).1 (FPL_add S (FJO_dueOf S x1) x2).2
      else
        ((-1), S) : Int32 × hS) := rfl
def FPL_partOf (S : hS) (x1 : Int32) (x2 : Int32) : Int64 :=
  if x1 < 0 then
    (-1)
  else
    if (S.1 20 0) ≤ x1 then
      (-1)
    else
      if x2 < 0 then
        (-1)
      else
        if x2 < (S.1 21 x1.toNatClampNeg) then
          if (S.2 23 x1.toNatClampNeg) ≤ x2.toInt64 then
            S.2 22 x1.toNatClampNeg
          else
            (S.2 22 x1.toNatClampNeg) + 1
        else
          (-1)
theorem FPL_partOf_e (S : hS) (x1 : Int32) (x2 : Int32) : FPL_partOf S x1 x2 =
  (if x1 < 0 then
    (-1)
  else
    if (S.1 20 0) ≤ x1 then
      (-1)
    else
      if x2 < 0 then
        (-1)
      else
        if x2 < (S.1 21 x1.toNatClampNeg) then
          if (S.2 23 x1.toNatClampNeg) ≤ x2.toInt64 then
            S.2 22 x1.toNatClampNeg
          else
            (S.2 22 x1.toNatClampNeg) + 1
        else
          (-1) : Int64) := rfl
def FHL_due (S : hS) (x1 : Int32) (x2 : Int32) : Int64 :=
  FPL_partOf S x1 x2
theorem FHL_due_e (S : hS) (x1 : Int32) (x2 : Int32) : FHL_due S x1 x2 =
  (FPL_partOf S x1 x2 : Int64) := rfl
def FAC_hasMoved (S : hS) (x1 : Int32) : Int32 :=
  if (S.1 8 x1.toNatClampNeg) = (-1) then
    if (S.1 9 x1.toNatClampNeg) = (-1) then
      0
    else
      1
  else
    1
theorem FAC_hasMoved_e (S : hS) (x1 : Int32) : FAC_hasMoved S x1 =
  (if (S.1 8 x1.toNatClampNeg) = (-1) then
    if (S.1 9 x1.toNatClampNeg) = (-1) then
      0
    else
      1
  else
    1 : Int32) := rfl
def FHL_move (S : hS) (x1 : Int32) (x2 : Int32) (x3 : Int64) : Int32 × hS :=
  if (FAC_hasHousehold S x1) = 0 then
    (0, S)
  else
    if (FAC_hasHousehold S x2) = 0 then
      (0, S)
    else
      if x1 = x2 then
        (0, S)
      else
        if (FHL_isDay S x3) = 0 then
          (0, S)
        else
          if (FAC_hasMoved S x1) = 0 then
            if (FAC_hasMoved S x2) = 0 then
              (1, (sI (sI S 9 x1.toNatClampNeg x3.toInt32) 8 x2.toNatClampNeg x3.toInt32))
            else
              (0, S)
          else
            (0, S)
theorem FHL_move_e (S : hS) (x1 : Int32) (x2 : Int32) (x3 : Int64) : FHL_move S x1 x2 x3 =
  (if (FAC_hasHousehold S x1) = 0 then
    (0, S)
  else
    if (FAC_hasHousehold S x2) = 0 then
      (0, S)
    else
      if x1 = x2 then
        (0, S)
      else
        if (FHL_isDay S x3) = 0 then
          (0, S)
        else
          if (FAC_hasMoved S x1) = 0 then
            if (FAC_hasMoved S x2) = 0 then
              (1, (sI (sI S 9 x1.toNatClampNeg x3.toInt32) 8 x2.toNatClampNeg x3.toInt32))
            else
              (0, S)
          else
            (0, S) : Int32 × hS) := rfl
def FHL_isMonth (S : hS) (x0 : Int32) : Int32 :=
  if x0 < 0 then
    0
  else
    if 120 ≤ x0 then
      0
    else
      1
theorem FHL_isMonth_e (S : hS) (x0 : Int32) : FHL_isMonth S x0 =
  (if x0 < 0 then
    0
  else
    if 120 ≤ x0 then
      0
    else
      1 : Int32) := rfl
def FAC_daysThere (S : hS) (x1 : Int32) (x2 : Int32) : Int32 :=
  if (S.1 8 x1.toNatClampNeg) = (-1) then
    if (S.1 9 x1.toNatClampNeg) = (-1) then
      if 0 < (((x2 * 30) + 30) - (x2 * 30)) then (((x2 * 30) + 30) - (x2 * 30)) else 0
    else
      if 0 < ((if (S.1 9 x1.toNatClampNeg) < ((x2 * 30) + 30) then (S.1 9 x1.toNatClampNeg) else ((x2 * 30) + 30)) - (x2 * 30)) then ((if (S.1 9 x1.toNatClampNeg) < ((x2 * 30) + 30) then (S.1 9 x1.toNatClampNeg) else ((x2 * 30) + 30)) - (x2 * 30)) else 0
  else
    if (S.1 9 x1.toNatClampNeg) = (-1) then
      if 0 < (((x2 * 30) + 30) - (if (x2 * 30) < (S.1 8 x1.toNatClampNeg) then (S.1 8 x1.toNatClampNeg) else (x2 * 30))) then (((x2 * 30) + 30) - (if (x2 * 30) < (S.1 8 x1.toNatClampNeg) then (S.1 8 x1.toNatClampNeg) else (x2 * 30))) else 0
    else
      if 0 < ((if (S.1 9 x1.toNatClampNeg) < ((x2 * 30) + 30) then (S.1 9 x1.toNatClampNeg) else ((x2 * 30) + 30)) - (if (x2 * 30) < (S.1 8 x1.toNatClampNeg) then (S.1 8 x1.toNatClampNeg) else (x2 * 30))) then ((if (S.1 9 x1.toNatClampNeg) < ((x2 * 30) + 30) then (S.1 9 x1.toNatClampNeg) else ((x2 * 30) + 30)) - (if (x2 * 30) < (S.1 8 x1.toNatClampNeg) then (S.1 8 x1.toNatClampNeg) else (x2 * 30))) else 0
theorem FAC_daysThere_e (S : hS) (x1 : Int32) (x2 : Int32) : FAC_daysThere S x1 x2 =
  (if (S.1 8 x1.toNatClampNeg) = (-1) then
    if (S.1 9 x1.toNatClampNeg) = (-1) then
      if 0 < (((x2 * 30) + 30) - (x2 * 30)) then (((x2 * 30) + 30) - (x2 * 30)) else 0
    else
      if 0 < ((if (S.1 9 x1.toNatClampNeg) < ((x2 * 30) + 30) then (S.1 9 x1.toNatClampNeg) else ((x2 * 30) + 30)) - (x2 * 30)) then ((if (S.1 9 x1.toNatClampNeg) < ((x2 * 30) + 30) then (S.1 9 x1.toNatClampNeg) else ((x2 * 30) + 30)) - (x2 * 30)) else 0
  else
    if (S.1 9 x1.toNatClampNeg) = (-1) then
      if 0 < (((x2 * 30) + 30) - (if (x2 * 30) < (S.1 8 x1.toNatClampNeg) then (S.1 8 x1.toNatClampNeg) else (x2 * 30))) then (((x2 * 30) + 30) - (if (x2 * 30) < (S.1 8 x1.toNatClampNeg) then (S.1 8 x1.toNatClampNeg) else (x2 * 30))) else 0
    else
      if 0 < ((if (S.1 9 x1.toNatClampNeg) < ((x2 * 30) + 30) then (S.1 9 x1.toNatClampNeg) else ((x2 * 30) + 30)) - (if (x2 * 30) < (S.1 8 x1.toNatClampNeg) then (S.1 8 x1.toNatClampNeg) else (x2 * 30))) then ((if (S.1 9 x1.toNatClampNeg) < ((x2 * 30) + 30) then (S.1 9 x1.toNatClampNeg) else ((x2 * 30) + 30)) - (if (x2 * 30) < (S.1 8 x1.toNatClampNeg) then (S.1 8 x1.toNatClampNeg) else (x2 * 30))) else 0 : Int32) := rfl
def LHL_commonDivisor_9 : Nat → hS → Int64 → Int64 → Int64 → Int64 → Int32 → Int64 × Int64 × Int32
  | 0, S, x0, x2, x4, x6, x8 => (0, 0, 0)
  | n + 1, S, x0, x2, x4, x6, x8 =>
    if 100 ≤ x8 then
      (x4, x6, x8)
    else
      if x6 = 0 then
        (x4, x6, x8)
      else
        LHL_commonDivisor_9 n S x0 x2 x6 (x4 - x4 / x6 * x6) (x8 + 1)
theorem LHL_commonDivisor_9_s (n : Nat) (S : hS) (x0 : Int64) (x2 : Int64) (x4 : Int64) (x6 : Int64) (x8 : Int32) : LHL_commonDivisor_9 (n + 1) S x0 x2 x4 x6 x8 =
    (if 100 ≤ x8 then
      (x4, x6, x8)
    else
      if x6 = 0 then
        (x4, x6, x8)
      else
        LHL_commonDivisor_9 n S x0 x2 x6 (x4 - x4 / x6 * x6) (x8 + 1) : Int64 × Int64 × Int32) := rfl
def FHL_commonDivisor (S : hS) (x0 : Int64) (x2 : Int64) : Int64 :=
  (fun (y6_4 : Int64) (y6_6 : Int64) (y6_8 : Int32) =>
    y6_4) (LHL_commonDivisor_9 300 S x0 x2 x0 x2 0).1 (LHL_commonDivisor_9 300 S x0 x2 x0 x2 0).2.1 (LHL_commonDivisor_9 300 S x0 x2 x0 x2 0).2.2
theorem FHL_commonDivisor_e (S : hS) (x0 : Int64) (x2 : Int64) : FHL_commonDivisor S x0 x2 =
  ((fun (y6_4 : Int64) (y6_6 : Int64) (y6_8 : Int32) =>
    y6_4) (LHL_commonDivisor_9 300 S x0 x2 x0 x2 0).1 (LHL_commonDivisor_9 300 S x0 x2 x0 x2 0).2.1 (LHL_commonDivisor_9 300 S x0 x2 x0 x2 0).2.2 : Int64) := rfl
def FHL_inLowestTerms (S : hS) (x0 : Int64) (x2 : Int64) (x4 : Int32) : Int64 :=
  if x4 = 0 then
    x0 / (if (FHL_commonDivisor S x0 x2) < 1 then 1 else (FHL_commonDivisor S x0 x2))
  else
    x2 / (if (FHL_commonDivisor S x0 x2) < 1 then 1 else (FHL_commonDivisor S x0 x2))
theorem FHL_inLowestTerms_e (S : hS) (x0 : Int64) (x2 : Int64) (x4 : Int32) : FHL_inLowestTerms S x0 x2 x4 =
  (if x4 = 0 then
    x0 / (if (FHL_commonDivisor S x0 x2) < 1 then 1 else (FHL_commonDivisor S x0 x2))
  else
    x2 / (if (FHL_commonDivisor S x0 x2) < 1 then 1 else (FHL_commonDivisor S x0 x2)) : Int64) := rfl
def FHL_share (S : hS) (x1 : Int32) (x2 : Int32) (x3 : Int32) : Int64 :=
  if (FAC_hasHousehold S x1) = 0 then
    (-1)
  else
    if (FHL_isMonth S x2) = 0 then
      (-1)
    else
      if x3 < 0 then
        (-1)
      else
        if x3 ≤ 1 then
          FHL_inLowestTerms S ((FAC_daysThere S x1 x2).toInt64) 30 x3
        else
          (-1)
theorem FHL_share_e (S : hS) (x1 : Int32) (x2 : Int32) (x3 : Int32) : FHL_share S x1 x2 x3 =
  (if (FAC_hasHousehold S x1) = 0 then
    (-1)
  else
    if (FHL_isMonth S x2) = 0 then
      (-1)
    else
      if x3 < 0 then
        (-1)
      else
        if x3 ≤ 1 then
          FHL_inLowestTerms S ((FAC_daysThere S x1 x2).toInt64) 30 x3
        else
          (-1) : Int64) := rfl
def FHL_copyInts_3_27 (S : hS)  : hS :=
  (cpI S 3 27 8)
theorem FHL_copyInts_3_27_e (S : hS)  : FHL_copyInts_3_27 S  =
  ((cpI S 3 27 8) : hS) := rfl
def FHL_copyInts_4_28 (S : hS)  : hS :=
  (cpI S 4 28 8)
theorem FHL_copyInts_4_28_e (S : hS)  : FHL_copyInts_4_28 S  =
  ((cpI S 4 28 8) : hS) := rfl
def FHL_copyInts_5_29 (S : hS)  : hS :=
  (cpI S 5 29 8)
theorem FHL_copyInts_5_29_e (S : hS)  : FHL_copyInts_5_29 S  =
  ((cpI S 5 29 8) : hS) := rfl
def FHL_copyLongs_6_30 (S : hS)  : hS :=
  (cpL S 6 30 8)
theorem FHL_copyLongs_6_30_e (S : hS)  : FHL_copyLongs_6_30 S  =
  ((cpL S 6 30 8) : hS) := rfl
def FHL_copyLongs_7_31 (S : hS)  : hS :=
  (cpL S 7 31 8)
theorem FHL_copyLongs_7_31_e (S : hS)  : FHL_copyLongs_7_31 S  =
  ((cpL S 7 31 8) : hS) := rfl
def FHL_copyInts_8_32 (S : hS)  : hS :=
  (cpI S 8 32 8)
theorem FHL_copyInts_8_32_e (S : hS)  : FHL_copyInts_8_32 S  =
  ((cpI S 8 32 8) : hS) := rfl
def FHL_copyInts_9_33 (S : hS)  : hS :=
  (cpI S 9 33 8)
theorem FHL_copyInts_9_33_e (S : hS)  : FHL_copyInts_9_33 S  =
  ((cpI S 9 33 8) : hS) := rfl
def FAC_copyFrom_26_2 (S : hS)  : hS :=
  (FHL_copyInts_9_33 (FHL_copyInts_8_32 (FHL_copyLongs_7_31 (FHL_copyLongs_6_30 (FHL_copyInts_5_29 (FHL_copyInts_4_28 (FHL_copyInts_3_27 (sI S 26 0 (S.1 2 0)))))))))
theorem FAC_copyFrom_26_2_e (S : hS)  : FAC_copyFrom_26_2 S  =
  ((FHL_copyInts_9_33 (FHL_copyInts_8_32 (FHL_copyLongs_7_31 (FHL_copyLongs_6_30 (FHL_copyInts_5_29 (FHL_copyInts_4_28 (FHL_copyInts_3_27 (sI S 26 0 (S.1 2 0))))))))) : hS) := rfl
def FHL_copyInts_11_35 (S : hS)  : hS :=
  (cpI S 11 35 40)
theorem FHL_copyInts_11_35_e (S : hS)  : FHL_copyInts_11_35 S  =
  ((cpI S 11 35 40) : hS) := rfl
def FHL_copyInts_12_36 (S : hS)  : hS :=
  (cpI S 12 36 40)
theorem FHL_copyInts_12_36_e (S : hS)  : FHL_copyInts_12_36 S  =
  ((cpI S 12 36 40) : hS) := rfl
def FHL_copyInts_13_37 (S : hS)  : hS :=
  (cpI S 13 37 40)
theorem FHL_copyInts_13_37_e (S : hS)  : FHL_copyInts_13_37 S  =
  ((cpI S 13 37 40) : hS) := rfl
def FHL_copyInts_14_38 (S : hS)  : hS :=
  (cpI S 14 38 40)
theorem FHL_copyInts_14_38_e (S : hS)  : FHL_copyInts_14_38 S  =
  ((cpI S 14 38 40) : hS) := rfl
def FHL_copyInts_15_39 (S : hS)  : hS :=
  (cpI S 15 39 240)
theorem FHL_copyInts_15_39_e (S : hS)  : FHL_copyInts_15_39 S  =
  ((cpI S 15 39 240) : hS) := rfl
def FHL_copyLongs_16_40 (S : hS)  : hS :=
  (cpL S 16 40 240)
theorem FHL_copyLongs_16_40_e (S : hS)  : FHL_copyLongs_16_40 S  =
  ((cpL S 16 40 240) : hS) := rfl
def FHL_copyLongs_17_41 (S : hS)  : hS :=
  (cpL S 17 41 240)
theorem FHL_copyLongs_17_41_e (S : hS)  : FHL_copyLongs_17_41 S  =
  ((cpL S 17 41 240) : hS) := rfl
def FHL_copyInts_18_42 (S : hS)  : hS :=
  (cpI S 18 42 280)
theorem FHL_copyInts_18_42_e (S : hS)  : FHL_copyInts_18_42 S  =
  ((cpI S 18 42 280) : hS) := rfl
def FHL_copyInts_19_43 (S : hS)  : hS :=
  (cpI S 19 43 280)
theorem FHL_copyInts_19_43_e (S : hS)  : FHL_copyInts_19_43 S  =
  ((cpI S 19 43 280) : hS) := rfl
def FJO_copyFrom_34_10 (S : hS)  : hS :=
  (FHL_copyInts_19_43 (FHL_copyInts_18_42 (sI (FHL_copyLongs_17_41 (FHL_copyLongs_16_40 (FHL_copyInts_15_39 (FHL_copyInts_14_38 (FHL_copyInts_13_37 (FHL_copyInts_12_36 (FHL_copyInts_11_35 (sI S 34 0 (S.1 10 0))))))))) 34 8 ((FHL_copyLongs_17_41 (FHL_copyLongs_16_40 (FHL_copyInts_15_39 (FHL_copyInts_14_38 (FHL_copyInts_13_37 (FHL_copyInts_12_36 (FHL_copyInts_11_35 (sI S 34 0 (S.1 10 0))))))))).1 10 8))))
theorem FJO_copyFrom_34_10_e (S : hS)  : FJO_copyFrom_34_10 S  =
  ((FHL_copyInts_19_43 (FHL_copyInts_18_42 (sI (FHL_copyLongs_17_41 (FHL_copyLongs_16_40 (FHL_copyInts_15_39 (FHL_copyInts_14_38 (FHL_copyInts_13_37 (FHL_copyInts_12_36 (FHL_copyInts_11_35 (sI S 34 0 (S.1 10 0))))))))) 34 8 ((FHL_copyLongs_17_41 (FHL_copyLongs_16_40 (FHL_copyInts_15_39 (FHL_copyInts_14_38 (FHL_copyInts_13_37 (FHL_copyInts_12_36 (FHL_copyInts_11_35 (sI S 34 0 (S.1 10 0))))))))).1 10 8)))) : hS) := rfl
def FHL_copyInts_21_45 (S : hS)  : hS :=
  (cpI S 21 45 10)
theorem FHL_copyInts_21_45_e (S : hS)  : FHL_copyInts_21_45 S  =
  ((cpI S 21 45 10) : hS) := rfl
def FHL_copyLongs_22_46 (S : hS)  : hS :=
  (cpL S 22 46 10)
theorem FHL_copyLongs_22_46_e (S : hS)  : FHL_copyLongs_22_46 S  =
  ((cpL S 22 46 10) : hS) := rfl
def FHL_copyLongs_23_47 (S : hS)  : hS :=
  (cpL S 23 47 10)
theorem FHL_copyLongs_23_47_e (S : hS)  : FHL_copyLongs_23_47 S  =
  ((cpL S 23 47 10) : hS) := rfl
def FPL_copyFrom_44_20 (S : hS)  : hS :=
  (FHL_copyLongs_23_47 (FHL_copyLongs_22_46 (FHL_copyInts_21_45 (sI S 44 0 (S.1 20 0)))))
theorem FPL_copyFrom_44_20_e (S : hS)  : FPL_copyFrom_44_20 S  =
  ((FHL_copyLongs_23_47 (FHL_copyLongs_22_46 (FHL_copyInts_21_45 (sI S 44 0 (S.1 20 0))))) : hS) := rfl
def FHL_copyLongs_24_48 (S : hS)  : hS :=
  (cpL S 24 48 20)
theorem FHL_copyLongs_24_48_e (S : hS)  : FHL_copyLongs_24_48 S  =
  ((cpL S 24 48 20) : hS) := rfl
def FBO_copyFrom_25_1 (S : hS)  : hS :=
  (sL (sL (sI (sI (FHL_copyLongs_24_48 (FPL_copyFrom_44_20 (FJO_copyFrom_34_10 (FAC_copyFrom_26_2 S)))) 25 4 ((FHL_copyLongs_24_48 (FPL_copyFrom_44_20 (FJO_copyFrom_34_10 (FAC_copyFrom_26_2 S)))).1 1 4)) 25 5 ((FHL_copyLongs_24_48 (FPL_copyFrom_44_20 (FJO_copyFrom_34_10 (FAC_copyFrom_26_2 S)))).1 1 5)) 25 6 ((FHL_copyLongs_24_48 (FPL_copyFrom_44_20 (FJO_copyFrom_34_10 (FAC_copyFrom_26_2 S)))).2 1 6)) 25 7 ((FHL_copyLongs_24_48 (FPL_copyFrom_44_20 (FJO_copyFrom_34_10 (FAC_copyFrom_26_2 S)))).2 1 7))
theorem FBO_copyFrom_25_1_e (S : hS)  : FBO_copyFrom_25_1 S  =
  ((sL (sL (sI (sI (FHL_copyLongs_24_48 (FPL_copyFrom_44_20 (FJO_copyFrom_34_10 (FAC_copyFrom_26_2 S)))) 25 4 ((FHL_copyLongs_24_48 (FPL_copyFrom_44_20 (FJO_copyFrom_34_10 (FAC_copyFrom_26_2 S)))).1 1 4)) 25 5 ((FHL_copyLongs_24_48 (FPL_copyFrom_44_20 (FJO_copyFrom_34_10 (FAC_copyFrom_26_2 S)))).1 1 5)) 25 6 ((FHL_copyLongs_24_48 (FPL_copyFrom_44_20 (FJO_copyFrom_34_10 (FAC_copyFrom_26_2 S)))).2 1 6)) 25 7 ((FHL_copyLongs_24_48 (FPL_copyFrom_44_20 (FJO_copyFrom_34_10 (FAC_copyFrom_26_2 S)))).2 1 7)) : hS) := rfl
def FHL_batch (S : hS)  : Int32 × hS :=
  if (S.1 0 2) = 0 then
    ((((FBO_copyFrom_25_1 S).1 0 3) + 1) - 1, (sI (sI (FBO_copyFrom_25_1 S) 0 2 1) 0 3 (((FBO_copyFrom_25_1 S).1 0 3) + 1)))
  else
    ((-1), S)
theorem FHL_batch_e (S : hS)  : FHL_batch S  =
  (if (S.1 0 2) = 0 then
    ((((FBO_copyFrom_25_1 S).1 0 3) + 1) - 1, (sI (sI (FBO_copyFrom_25_1 S) 0 2 1) 0 3 (((FBO_copyFrom_25_1 S).1 0 3) + 1)))
  else
    ((-1), S) : Int32 × hS) := rfl
def FHL_copyInts_27_3 (S : hS)  : hS :=
  (cpI S 27 3 8)
theorem FHL_copyInts_27_3_e (S : hS)  : FHL_copyInts_27_3 S  =
  ((cpI S 27 3 8) : hS) := rfl
def FHL_copyInts_28_4 (S : hS)  : hS :=
  (cpI S 28 4 8)
theorem FHL_copyInts_28_4_e (S : hS)  : FHL_copyInts_28_4 S  =
  ((cpI S 28 4 8) : hS) := rfl
def FHL_copyInts_29_5 (S : hS)  : hS :=
  (cpI S 29 5 8)
theorem FHL_copyInts_29_5_e (S : hS)  : FHL_copyInts_29_5 S  =
  ((cpI S 29 5 8) : hS) := rfl
def FHL_copyLongs_30_6 (S : hS)  : hS :=
  (cpL S 30 6 8)
theorem FHL_copyLongs_30_6_e (S : hS)  : FHL_copyLongs_30_6 S  =
  ((cpL S 30 6 8) : hS) := rfl
def FHL_copyLongs_31_7 (S : hS)  : hS :=
  (cpL S 31 7 8)
theorem FHL_copyLongs_31_7_e (S : hS)  : FHL_copyLongs_31_7 S  =
  ((cpL S 31 7 8) : hS) := rfl
def FHL_copyInts_32_8 (S : hS)  : hS :=
  (cpI S 32 8 8)
theorem FHL_copyInts_32_8_e (S : hS)  : FHL_copyInts_32_8 S  =
  ((cpI S 32 8 8) : hS) := rfl
def FHL_copyInts_33_9 (S : hS)  : hS :=
  (cpI S 33 9 8)
theorem FHL_copyInts_33_9_e (S : hS)  : FHL_copyInts_33_9 S  =
  ((cpI S 33 9 8) : hS) := rfl
def FAC_copyFrom_2_26 (S : hS)  : hS :=
  (FHL_copyInts_33_9 (FHL_copyInts_32_8 (FHL_copyLongs_31_7 (FHL_copyLongs_30_6 (FHL_copyInts_29_5 (FHL_copyInts_28_4 (FHL_copyInts_27_3 (sI S 2 0 (S.1 26 0)))))))))
theorem FAC_copyFrom_2_26_e (S : hS)  : FAC_copyFrom_2_26 S  =
  ((FHL_copyInts_33_9 (FHL_copyInts_32_8 (FHL_copyLongs_31_7 (FHL_copyLongs_30_6 (FHL_copyInts_29_5 (FHL_copyInts_28_4 (FHL_copyInts_27_3 (sI S 2 0 (S.1 26 0))))))))) : hS) := rfl
def FHL_copyInts_35_11 (S : hS)  : hS :=
  (cpI S 35 11 40)
theorem FHL_copyInts_35_11_e (S : hS)  : FHL_copyInts_35_11 S  =
  ((cpI S 35 11 40) : hS) := rfl
def FHL_copyInts_36_12 (S : hS)  : hS :=
  (cpI S 36 12 40)
theorem FHL_copyInts_36_12_e (S : hS)  : FHL_copyInts_36_12 S  =
  ((cpI S 36 12 40) : hS) := rfl
def FHL_copyInts_37_13 (S : hS)  : hS :=
  (cpI S 37 13 40)
theorem FHL_copyInts_37_13_e (S : hS)  : FHL_copyInts_37_13 S  =
  ((cpI S 37 13 40) : hS) := rfl
def FHL_copyInts_38_14 (S : hS)  : hS :=
  (cpI S 38 14 40)
theorem FHL_copyInts_38_14_e (S : hS)  : FHL_copyInts_38_14 S  =
  ((cpI S 38 14 40) : hS) := rfl
def FHL_copyInts_39_15 (S : hS)  : hS :=
  (cpI S 39 15 240)
theorem FHL_copyInts_39_15_e (S : hS)  : FHL_copyInts_39_15 S  =
  ((cpI S 39 15 240) : hS) := rfl
def FHL_copyLongs_40_16 (S : hS)  : hS :=
  (cpL S 40 16 240)
theorem FHL_copyLongs_40_16_e (S : hS)  : FHL_copyLongs_40_16 S  =
  ((cpL S 40 16 240) : hS) := rfl
def FHL_copyLongs_41_17 (S : hS)  : hS :=
  (cpL S 41 17 240)
theorem FHL_copyLongs_41_17_e (S : hS)  : FHL_copyLongs_41_17 S  =
  ((cpL S 41 17 240) : hS) := rfl
def FHL_copyInts_42_18 (S : hS)  : hS :=
  (cpI S 42 18 280)
theorem FHL_copyInts_42_18_e (S : hS)  : FHL_copyInts_42_18 S  =
  ((cpI S 42 18 280) : hS) := rfl
def FHL_copyInts_43_19 (S : hS)  : hS :=
  (cpI S 43 19 280)
theorem FHL_copyInts_43_19_e (S : hS)  : FHL_copyInts_43_19 S  =
  ((cpI S 43 19 280) : hS) := rfl
def FJO_copyFrom_10_34 (S : hS)  : hS :=
  (FHL_copyInts_43_19 (FHL_copyInts_42_18 (sI (FHL_copyLongs_41_17 (FHL_copyLongs_40_16 (FHL_copyInts_39_15 (FHL_copyInts_38_14 (FHL_copyInts_37_13 (FHL_copyInts_36_12 (FHL_copyInts_35_11 (sI S 10 0 (S.1 34 0))))))))) 10 8 ((FHL_copyLongs_41_17 (FHL_copyLongs_40_16 (FHL_copyInts_39_15 (FHL_copyInts_38_14 (FHL_copyInts_37_13 (FHL_copyInts_36_12 (FHL_copyInts_35_11 (sI S 10 0 (S.1 34 0))))))))).1 34 8))))
theorem FJO_copyFrom_10_34_e (S : hS)  : FJO_copyFrom_10_34 S  =
  ((FHL_copyInts_43_19 (FHL_copyInts_42_18 (sI (FHL_copyLongs_41_17 (FHL_copyLongs_40_16 (FHL_copyInts_39_15 (FHL_copyInts_38_14 (FHL_copyInts_37_13 (FHL_copyInts_36_12 (FHL_copyInts_35_11 (sI S 10 0 (S.1 34 0))))))))) 10 8 ((FHL_copyLongs_41_17 (FHL_copyLongs_40_16 (FHL_copyInts_39_15 (FHL_copyInts_38_14 (FHL_copyInts_37_13 (FHL_copyInts_36_12 (FHL_copyInts_35_11 (sI S 10 0 (S.1 34 0))))))))).1 34 8)))) : hS) := rfl
def FHL_copyInts_45_21 (S : hS)  : hS :=
  (cpI S 45 21 10)
theorem FHL_copyInts_45_21_e (S : hS)  : FHL_copyInts_45_21 S  =
  ((cpI S 45 21 10) : hS) := rfl
def FHL_copyLongs_46_22 (S : hS)  : hS :=
  (cpL S 46 22 10)
theorem FHL_copyLongs_46_22_e (S : hS)  : FHL_copyLongs_46_22 S  =
  ((cpL S 46 22 10) : hS) := rfl
def FHL_copyLongs_47_23 (S : hS)  : hS :=
  (cpL S 47 23 10)
theorem FHL_copyLongs_47_23_e (S : hS)  : FHL_copyLongs_47_23 S  =
  ((cpL S 47 23 10) : hS) := rfl
def FPL_copyFrom_20_44 (S : hS)  : hS :=
  (FHL_copyLongs_47_23 (FHL_copyLongs_46_22 (FHL_copyInts_45_21 (sI S 20 0 (S.1 44 0)))))
theorem FPL_copyFrom_20_44_e (S : hS)  : FPL_copyFrom_20_44 S  =
  ((FHL_copyLongs_47_23 (FHL_copyLongs_46_22 (FHL_copyInts_45_21 (sI S 20 0 (S.1 44 0))))) : hS) := rfl
def FHL_copyLongs_48_24 (S : hS)  : hS :=
  (cpL S 48 24 20)
theorem FHL_copyLongs_48_24_e (S : hS)  : FHL_copyLongs_48_24 S  =
  ((cpL S 48 24 20) : hS) := rfl
def FBO_copyFrom_1_25 (S : hS)  : hS :=
  (sL (sL (sI (sI (FHL_copyLongs_48_24 (FPL_copyFrom_20_44 (FJO_copyFrom_10_34 (FAC_copyFrom_2_26 S)))) 1 4 ((FHL_copyLongs_48_24 (FPL_copyFrom_20_44 (FJO_copyFrom_10_34 (FAC_copyFrom_2_26 S)))).1 25 4)) 1 5 ((FHL_copyLongs_48_24 (FPL_copyFrom_20_44 (FJO_copyFrom_10_34 (FAC_copyFrom_2_26 S)))).1 25 5)) 1 6 ((FHL_copyLongs_48_24 (FPL_copyFrom_20_44 (FJO_copyFrom_10_34 (FAC_copyFrom_2_26 S)))).2 25 6)) 1 7 ((FHL_copyLongs_48_24 (FPL_copyFrom_20_44 (FJO_copyFrom_10_34 (FAC_copyFrom_2_26 S)))).2 25 7))
theorem FBO_copyFrom_1_25_e (S : hS)  : FBO_copyFrom_1_25 S  =
  ((sL (sL (sI (sI (FHL_copyLongs_48_24 (FPL_copyFrom_20_44 (FJO_copyFrom_10_34 (FAC_copyFrom_2_26 S)))) 1 4 ((FHL_copyLongs_48_24 (FPL_copyFrom_20_44 (FJO_copyFrom_10_34 (FAC_copyFrom_2_26 S)))).1 25 4)) 1 5 ((FHL_copyLongs_48_24 (FPL_copyFrom_20_44 (FJO_copyFrom_10_34 (FAC_copyFrom_2_26 S)))).1 25 5)) 1 6 ((FHL_copyLongs_48_24 (FPL_copyFrom_20_44 (FJO_copyFrom_10_34 (FAC_copyFrom_2_26 S)))).2 25 6)) 1 7 ((FHL_copyLongs_48_24 (FPL_copyFrom_20_44 (FJO_copyFrom_10_34 (FAC_copyFrom_2_26 S)))).2 25 7)) : hS) := rfl
def FHL_endBatch (S : hS) (x1 : Int32) : Int32 × hS :=
  if (S.1 0 2) = 0 then
    (0, S)
  else
    if x1 = 0 then
      (1, (sI (FBO_copyFrom_1_25 S) 0 2 0))
    else
      (1, (sI S 0 2 0))
theorem FHL_endBatch_e (S : hS) (x1 : Int32) : FHL_endBatch S x1 =
  (if (S.1 0 2) = 0 then
    (0, S)
  else
    if x1 = 0 then
      (1, (sI (FBO_copyFrom_1_25 S) 0 2 0))
    else
      (1, (sI S 0 2 0)) : Int32 × hS) := rfl
def FHL_closeMonth (S : hS) (x1 : Int32) : Int32 × hS :=
  if x1 = (S.1 1 5) then
    if (S.1 1 5) < 120 then
      (1, (sI S 1 5 ((S.1 1 5) + 1)))
    else
      (0, S)
  else
    (0, S)
theorem FHL_closeMonth_e (S : hS) (x1 : Int32) : FHL_closeMonth S x1 =
  (if x1 = (S.1 1 5) then
    if (S.1 1 5) < 120 then
      (1, (sI S 1 5 ((S.1 1 5) + 1)))
    else
      (0, S)
  else
    (0, S) : Int32 × hS) := rfl
def LJO_isReversible_41 : Nat → hS → Int32 → Int32 → Int32 → Int32 → (Int32) ⊕ (Int32)
  | 0, S, x1, x2, x3, x4 => .inr 0
  | n + 1, S, x1, x2, x3, x4 =>
    if x3 ≤ x4 then
      .inr x4
    else
      if (S.2 17 x4.toNatClampNeg) = (-1) then
        LJO_isReversible_41 n S x1 x2 x3 (x4 + 1)
      else
        if (S.2 17 x4.toNatClampNeg) = (S.2 16 x4.toNatClampNeg) then
          LJO_isReversible_41 n S x1 x2 x3 (x4 + 1)
        else
          .inl 0
theorem LJO_isReversible_41_s (n : Nat) (S : hS) (x1 : Int32) (x2 : Int32) (x3 : Int32) (x4 : Int32) : LJO_isReversible_41 (n + 1) S x1 x2 x3 x4 =
    (if x3 ≤ x4 then
      .inr x4
    else
      if (S.2 17 x4.toNatClampNeg) = (-1) then
        LJO_isReversible_41 n S x1 x2 x3 (x4 + 1)
      else
        if (S.2 17 x4.toNatClampNeg) = (S.2 16 x4.toNatClampNeg) then
          LJO_isReversible_41 n S x1 x2 x3 (x4 + 1)
        else
          .inl 0 : (Int32) ⊕ (Int32)) := rfl
def FJO_isReversible (S : hS) (x1 : Int32) : Int32 :=
  if x1 < 0 then
    0
  else
    if (S.1 10 0) ≤ x1 then
      0
    else
      if (S.1 12 x1.toNatClampNeg) = 1 then
        Sum.elim (fun q => q) (fun (qq : Int32) => (fun (y16_4 : Int32) =>
          1) qq) (LJO_isReversible_41 300 S x1 (x1 * 6) ((x1 * 6) + (S.1 13 x1.toNatClampNeg)) (x1 * 6))
      else
        0
theorem FJO_isReversible_e (S : hS) (x1 : Int32) : FJO_isReversible S x1 =
  (if x1 < 0 then
    0
  else
    if (S.1 10 0) ≤ x1 then
      0
    else
      if (S.1 12 x1.toNatClampNeg) = 1 then
        Sum.elim (fun q => q) (fun (qq : Int32) => (fun (y16_4 : Int32) =>
          1) qq) (LJO_isReversible_41 300 S x1 (x1 * 6) ((x1 * 6) + (S.1 13 x1.toNatClampNeg)) (x1 * 6))
      else
        0 : Int32) := rfl
def LJO_turnRows_18 : Nat → hS → Int32 → Int32 → Int32 → Int32 → Int32 → Int32 × hS
  | 0, S, x1, x2, x3, x4, x5 => (0, S)
  | n + 1, S, x1, x2, x3, x4, x5 =>
    if x4 ≤ x5 then
      (x5, S)
    else
      (fun (v6 : Int32) (S6 : hS) =>
        LJO_turnRows_18 n S6 x1 x2 x3 x4 (x5 + 1)) (FJO_addRow S x2 (S.1 15 x5.toNatClampNeg) (-(S.2 16 x5.toNatClampNeg))).1 (FJO_addRow S x2 (S.1 15 x5.toNatClampNeg) (-(S.2 16 x5.toNatClampNeg))).2
theorem LJO_turnRows_18_s (n : Nat) (S : hS) (x1 : Int32) (x2 : Int32) (x3 : Int32) (x4 : Int32) (x5 : Int32) : LJO_turnRows_18 (n + 1) S x1 x2 x3 x4 x5 =
    (if x4 ≤ x5 then
      (x5, S)
    else
      (fun (v6 : Int32) (S6 : hS) =>
        LJO_turnRows_18 n S6 x1 x2 x3 x4 (x5 + 1)) (FJO_addRow S x2 (S.1 15 x5.toNatClampNeg) (-(S.2 16 x5.toNatClampNeg))).1 (FJO_addRow S x2 (S.1 15 x5.toNatClampNeg) (-(S.2 16 x5.toNatClampNeg))).2 : Int32 × hS) := rfl
def FJO_turnRows (S : hS) (x1 : Int32) (x2 : Int32) : hS :=
  (fun (y9_5 : Int32) (S9 : hS) =>
    S9) (LJO_turnRows_18 300 S x1 x2 (x1 * 6) ((x1 * 6) + (S.1 13 x1.toNatClampNeg)) (x1 * 6)).1 (LJO_turnRows_18 300 S x1 x2 (x1 * 6) ((x1 * 6) + (S.1 13 x1.toNatClampNeg)) (x1 * 6)).2
theorem FJO_turnRows_e (S : hS) (x1 : Int32) (x2 : Int32) : FJO_turnRows S x1 x2 =
  ((fun (y9_5 : Int32) (S9 : hS) =>
    S9) (LJO_turnRows_18 300 S x1 x2 (x1 * 6) ((x1 * 6) + (S.1 13 x1.toNatClampNeg)) (x1 * 6)).1 (LJO_turnRows_18 300 S x1 x2 (x1 * 6) ((x1 * 6) + (S.1 13 x1.toNatClampNeg)) (x1 * 6)).2 : hS) := rfl
def LJO_clearItems_17 : Nat → hS → Int32 → Int32 → Int32 → Int32 → Int32 × hS
  | 0, S, x1, x2, x3, x4 => (0, S)
  | n + 1, S, x1, x2, x3, x4 =>
    if x3 ≤ x4 then
      (x4, S)
    else
      if (S.2 17 x4.toNatClampNeg) = (-1) then
        LJO_clearItems_17 n S x1 x2 x3 (x4 + 1)
      else
        LJO_clearItems_17 n (sL S 17 x4.toNatClampNeg 0) x1 x2 x3 (x4 + 1)
theorem LJO_clearItems_17_s (n : Nat) (S : hS) (x1 : Int32) (x2 : Int32) (x3 : Int32) (x4 : Int32) : LJO_clearItems_17 (n + 1) S x1 x2 x3 x4 =
    (if x3 ≤ x4 then
      (x4, S)
    else
      if (S.2 17 x4.toNatClampNeg) = (-1) then
        LJO_clearItems_17 n S x1 x2 x3 (x4 + 1)
      else
        LJO_clearItems_17 n (sL S 17 x4.toNatClampNeg 0) x1 x2 x3 (x4 + 1) : Int32 × hS) := rfl
def FJO_clearItems (S : hS) (x1 : Int32) : hS :=
  (fun (y10_4 : Int32) (S10 : hS) =>
    S10) (LJO_clearItems_17 300 S x1 (x1 * 6) ((x1 * 6) + (S.1 13 x1.toNatClampNeg)) (x1 * 6)).1 (LJO_clearItems_17 300 S x1 (x1 * 6) ((x1 * 6) + (S.1 13 x1.toNatClampNeg)) (x1 * 6)).2
theorem FJO_clearItems_e (S : hS) (x1 : Int32) : FJO_clearItems S x1 =
  ((fun (y10_4 : Int32) (S10 : hS) =>
    S10) (LJO_clearItems_17 300 S x1 (x1 * 6) ((x1 * 6) + (S.1 13 x1.toNatClampNeg)) (x1 * 6)).1 (LJO_clearItems_17 300 S x1 (x1 * 6) ((x1 * 6) + (S.1 13 x1.toNatClampNeg)) (x1 * 6)).2 : hS) := rfl
def FHL_reverse (S : hS) (x1 : Int32) (x2 : Int64) : Int32 × hS :=
  if (FJO_isReversible S x1) = 0 then
    ((-1), S)
  else
    if (FHL_isDay S x2) = 0 then
      ((-1), S)
    else
      if (FJO_isFull S) = 0 then
        (fun (v7 : Int32) (S7 : hS) =>
          (v7, (sI (FJO_clearItems (FJO_turnRows S7 x1 v7) x1) 12 x1.toNatClampNeg 4))) (FJO_add S x2.toInt32 3).1 (FJO_add S x2.toInt32 3).2
      else
        ((-1), S)
theorem FHL_reverse_e (S : hS) (x1 : Int32) (x2 : Int64) : FHL_reverse S x1 x2 =
  (if (FJO_isReversible S x1) = 0 then
    ((-1), S)
  else
    if (FHL_isDay S x2) = 0 then
      ((-1), S)
    else
      if (FJO_isFull S) = 0 then
        (fun (v7 : Int32) (S7 : hS) =>
          (v7, (sI (FJO_clearItems (FJO_turnRows S7 x1 v7) x1) 12 x1.toNatClampNeg 4))) (FJO_add S x2.toInt32 3).1 (FJO_add S x2.toInt32 3).2
      else
        ((-1), S) : Int32 × hS) := rfl
def LJO_centDays_14 : Nat → hS → Int32 → Int32 → Int64 → Int32 → Int32 → Int64 × Int32
  | 0, S, x1, x2, x3, x5, x6 => (0, 0)
  | n + 1, S, x1, x2, x3, x5, x6 =>
    if x5 ≤ x6 then
      (x3, x6)
    else
      if (FJO_itemAt S x6 x1) = (-1) then
        LJO_centDays_14 n S x1 x2 x3 x5 (x6 + 1)
      else
        LJO_centDays_14 n S x1 x2 (x3 + ((S.2 17 ((FJO_itemAt S x6 x1).toNatClampNeg)) * ((FJO_daysLate S (FJO_itemAt S x6 x1) x2).toInt64))) x5 (x6 + 1)
theorem LJO_centDays_14_s (n : Nat) (S : hS) (x1 : Int32) (x2 : Int32) (x3 : Int64) (x5 : Int32) (x6 : Int32) : LJO_centDays_14 (n + 1) S x1 x2 x3 x5 x6 =
    (if x5 ≤ x6 then
      (x3, x6)
    else
      if (FJO_itemAt S x6 x1) = (-1) then
        LJO_centDays_14 n S x1 x2 x3 x5 (x6 + 1)
      else
        LJO_centDays_14 n S x1 x2 (x3 + ((S.2 17 ((FJO_itemAt S x6 x1).toNatClampNeg)) * ((FJO_daysLate S (FJO_itemAt S x6 x1) x2).toInt64))) x5 (x6 + 1) : Int64 × Int32) := rfl
def FJO_centDays (S : hS) (x1 : Int32) (x2 : Int32) : Int64 :=
  (fun (y10_3 : Int64) (y10_6 : Int32) =>
    y10_3) (LJO_centDays_14 300 S x1 x2 0 ((S.1 10 0) * 6) 0).1 (LJO_centDays_14 300 S x1 x2 0 ((S.1 10 0) * 6) 0).2
theorem FJO_centDays_e (S : hS) (x1 : Int32) (x2 : Int32) : FJO_centDays S x1 x2 =
  ((fun (y10_3 : Int64) (y10_6 : Int32) =>
    y10_3) (LJO_centDays_14 300 S x1 x2 0 ((S.1 10 0) * 6) 0).1 (LJO_centDays_14 300 S x1 x2 0 ((S.1 10 0) * 6) 0).2 : Int64) := rfl
def FHL_interest (S : hS) (x1 : Int32) (x2 : Int64) (x4 : Int32) : Int64 :=
  if (FAC_hasHousehold S x1) = 0 then
    (-1)
  else
    if (FHL_isDay S x2) = 0 then
      (-1)
    else
      if x4 < 0 then
        (-1)
      else
        if x4 ≤ 2 then
          if x4 = 2 then
            ((2 * ((FJO_centDays S x1 x2.toInt32) * (S.2 1 6))) + (if (360 * (S.2 1 7)) < 1 then 1 else (360 * (S.2 1 7)))) / (2 * (if (360 * (S.2 1 7)) < 1 then 1 else (360 * (S.2 1 7))))
          else
            FHL_inLowestTerms S ((FJO_centDays S x1 x2.toInt32) * (S.2 1 6)) (if (360 * (S.2 1 7)) < 1 then 1 else (360 * (S.2 1 7))) x4
        else
          (-1)
theorem FHL_interest_e (S : hS) (x1 : Int32) (x2 : Int64) (x4 : Int32) : FHL_interest S x1 x2 x4 =
  (if (FAC_hasHousehold S x1) = 0 then
    (-1)
  else
    if (FHL_isDay S x2) = 0 then
      (-1)
    else
      if x4 < 0 then
        (-1)
      else
        if x4 ≤ 2 then
          if x4 = 2 then
            ((2 * ((FJO_centDays S x1 x2.toInt32) * (S.2 1 6))) + (if (360 * (S.2 1 7)) < 1 then 1 else (360 * (S.2 1 7)))) / (2 * (if (360 * (S.2 1 7)) < 1 then 1 else (360 * (S.2 1 7))))
          else
            FHL_inLowestTerms S ((FJO_centDays S x1 x2.toInt32) * (S.2 1 6)) (if (360 * (S.2 1 7)) < 1 then 1 else (360 * (S.2 1 7))) x4
        else
          (-1) : Int64) := rfl
def FHL_rate (S : hS) (x1 : Int64) (x3 : Int64) : Int32 × hS :=
  if x1 < 0 then
    (0, S)
  else
    if 100 < x1 then
      (0, S)
    else
      if x3 < 1 then
        (0, S)
      else
        if x3 ≤ 100 then
          (1, (sL (sL S 1 6 x1) 1 7 x3))
        else
          (0, S)
theorem FHL_rate_e (S : hS) (x1 : Int64) (x3 : Int64) : FHL_rate S x1 x3 =
  (if x1 < 0 then
    (0, S)
  else
    if 100 < x1 then
      (0, S)
    else
      if x3 < 1 then
        (0, S)
      else
        if x3 ≤ 100 then
          (1, (sL (sL S 1 6 x1) 1 7 x3))
        else
          (0, S) : Int32 × hS) := rfl
def FJO_isPostedRowIn (S : hS) (x1 : Int32) (x2 : Int32) (x3 : Int32) : Int32 :=
  if ((S.1 11 ((x1 / 6).toNatClampNeg)) / 30) = x3 then
    if (FJO_isPostedRow S x1 x2) = 0 then
      0
    else
      1
  else
    0
theorem FJO_isPostedRowIn_e (S : hS) (x1 : Int32) (x2 : Int32) (x3 : Int32) : FJO_isPostedRowIn S x1 x2 x3 =
  (if ((S.1 11 ((x1 / 6).toNatClampNeg)) / 30) = x3 then
    if (FJO_isPostedRow S x1 x2) = 0 then
      0
    else
      1
  else
    0 : Int32) := rfl
def LJO_toldRow_15 : Nat → hS → Int32 → Int32 → Int32 → Int32 → Int32 → Int32 → (Int32) ⊕ (Int32 × Int32)
  | 0, S, x1, x2, x3, x4, x5, x6 => .inr (0, 0)
  | n + 1, S, x1, x2, x3, x4, x5, x6 =>
    if x5 ≤ x6 then
      .inr (x4, x6)
    else
      if (FJO_isPostedRowIn S x6 x1 x2) = 0 then
        LJO_toldRow_15 n S x1 x2 x3 x4 x5 (x6 + 1)
      else
        if x4 = x3 then
          .inl (FJO_told S x6)
        else
          LJO_toldRow_15 n S x1 x2 x3 (x4 + 1) x5 (x6 + 1)
theorem LJO_toldRow_15_s (n : Nat) (S : hS) (x1 : Int32) (x2 : Int32) (x3 : Int32) (x4 : Int32) (x5 : Int32) (x6 : Int32) : LJO_toldRow_15 (n + 1) S x1 x2 x3 x4 x5 x6 =
    (if x5 ≤ x6 then
      .inr (x4, x6)
    else
      if (FJO_isPostedRowIn S x6 x1 x2) = 0 then
        LJO_toldRow_15 n S x1 x2 x3 x4 x5 (x6 + 1)
      else
        if x4 = x3 then
          .inl (FJO_told S x6)
        else
          LJO_toldRow_15 n S x1 x2 x3 (x4 + 1) x5 (x6 + 1) : (Int32) ⊕ (Int32 × Int32)) := rfl
def FJO_toldRow (S : hS) (x1 : Int32) (x2 : Int32) (x3 : Int32) : Int32 :=
  Sum.elim (fun q => q) (fun (qq : Int32 × Int32) => (fun (y9_4 : Int32) (y9_6 : Int32) =>
    (-1)) qq.1 qq.2) (LJO_toldRow_15 300 S x1 x2 x3 0 ((S.1 10 0) * 6) 0)
theorem FJO_toldRow_e (S : hS) (x1 : Int32) (x2 : Int32) (x3 : Int32) : FJO_toldRow S x1 x2 x3 =
  (Sum.elim (fun q => q) (fun (qq : Int32 × Int32) => (fun (y9_4 : Int32) (y9_6 : Int32) =>
    (-1)) qq.1 qq.2) (LJO_toldRow_15 300 S x1 x2 x3 0 ((S.1 10 0) * 6) 0) : Int32) := rfl
def FHL_statement (S : hS) (x1 : Int32) (x2 : Int32) (x3 : Int32) : Int32 :=
  if (FAC_has S x1) = 0 then
    (-1)
  else
    if (FHL_isMonth S x2) = 0 then
      (-1)
    else
      FJO_toldRow S x1 x2 x3
theorem FHL_statement_e (S : hS) (x1 : Int32) (x2 : Int32) (x3 : Int32) : FHL_statement S x1 x2 x3 =
  (if (FAC_has S x1) = 0 then
    (-1)
  else
    if (FHL_isMonth S x2) = 0 then
      (-1)
    else
      FJO_toldRow S x1 x2 x3 : Int32) := rfl
def LJO_sumIn_14 : Nat → hS → Int32 → Int32 → Int64 → Int32 → Int32 → Int64 × Int32
  | 0, S, x1, x2, x3, x5, x6 => (0, 0)
  | n + 1, S, x1, x2, x3, x5, x6 =>
    if x5 ≤ x6 then
      (x3, x6)
    else
      if (FJO_isPostedRowIn S x6 x1 x2) = 0 then
        LJO_sumIn_14 n S x1 x2 x3 x5 (x6 + 1)
      else
        LJO_sumIn_14 n S x1 x2 (x3 + (S.2 16 x6.toNatClampNeg)) x5 (x6 + 1)
theorem LJO_sumIn_14_s (n : Nat) (S : hS) (x1 : Int32) (x2 : Int32) (x3 : Int64) (x5 : Int32) (x6 : Int32) : LJO_sumIn_14 (n + 1) S x1 x2 x3 x5 x6 =
    (if x5 ≤ x6 then
      (x3, x6)
    else
      if (FJO_isPostedRowIn S x6 x1 x2) = 0 then
        LJO_sumIn_14 n S x1 x2 x3 x5 (x6 + 1)
      else
        LJO_sumIn_14 n S x1 x2 (x3 + (S.2 16 x6.toNatClampNeg)) x5 (x6 + 1) : Int64 × Int32) := rfl
def FJO_sumIn (S : hS) (x1 : Int32) (x2 : Int32) : Int64 :=
  (fun (y9_3 : Int64) (y9_6 : Int32) =>
    y9_3) (LJO_sumIn_14 300 S x1 x2 0 ((S.1 10 0) * 6) 0).1 (LJO_sumIn_14 300 S x1 x2 0 ((S.1 10 0) * 6) 0).2
theorem FJO_sumIn_e (S : hS) (x1 : Int32) (x2 : Int32) : FJO_sumIn S x1 x2 =
  ((fun (y9_3 : Int64) (y9_6 : Int32) =>
    y9_3) (LJO_sumIn_14 300 S x1 x2 0 ((S.1 10 0) * 6) 0).1 (LJO_sumIn_14 300 S x1 x2 0 ((S.1 10 0) * 6) 0).2 : Int64) := rfl
def LBO_incomeOf_5 : Nat → hS → Int32 → Int64 → Int32 → Int64 × Int32
  | 0, S, x1, x2, x4 => (0, 0)
  | n + 1, S, x1, x2, x4 =>
    if (S.1 2 0) ≤ x4 then
      (x2, x4)
    else
      if (S.1 3 x4.toNatClampNeg) = 2 then
        LBO_incomeOf_5 n S x1 (x2 + (FJO_sumIn S x4 x1)) (x4 + 1)
      else
        LBO_incomeOf_5 n S x1 x2 (x4 + 1)
theorem LBO_incomeOf_5_s (n : Nat) (S : hS) (x1 : Int32) (x2 : Int64) (x4 : Int32) : LBO_incomeOf_5 (n + 1) S x1 x2 x4 =
    (if (S.1 2 0) ≤ x4 then
      (x2, x4)
    else
      if (S.1 3 x4.toNatClampNeg) = 2 then
        LBO_incomeOf_5 n S x1 (x2 + (FJO_sumIn S x4 x1)) (x4 + 1)
      else
        LBO_incomeOf_5 n S x1 x2 (x4 + 1) : Int64 × Int32) := rfl
def FBO_incomeOf (S : hS) (x1 : Int32) : Int64 :=
  (fun (y9_2 : Int64) (y9_4 : Int32) =>
    y9_2) (LBO_incomeOf_5 300 S x1 0 0).1 (LBO_incomeOf_5 300 S x1 0 0).2
theorem FBO_incomeOf_e (S : hS) (x1 : Int32) : FBO_incomeOf S x1 =
  ((fun (y9_2 : Int64) (y9_4 : Int32) =>
    y9_2) (LBO_incomeOf_5 300 S x1 0 0).1 (LBO_incomeOf_5 300 S x1 0 0).2 : Int64) := rfl
def FHL_tax (S : hS) (x1 : Int32) : Int64 :=
  if (FHL_isMonth S x1) = 0 then
    0
  else
    if 0 < (-(FBO_incomeOf S x1)) then
      ((-(FBO_incomeOf S x1)) * 19) / 100
    else
      0
theorem FHL_tax_e (S : hS) (x1 : Int32) : FHL_tax S x1 =
  (if (FHL_isMonth S x1) = 0 then
    0
  else
    if 0 < (-(FBO_incomeOf S x1)) then
      ((-(FBO_incomeOf S x1)) * 19) / 100
    else
      0 : Int64) := rfl
def FHL_found (S : hS) (x1 : Int32) : Int64 :=
  if x1 < 0 then
    (-1)
  else
    if x1 < (S.1 1 4) then
      S.2 24 x1.toNatClampNeg
    else
      (-1)
theorem FHL_found_e (S : hS) (x1 : Int32) : FHL_found S x1 =
  (if x1 < 0 then
    (-1)
  else
    if x1 < (S.1 1 4) then
      S.2 24 x1.toNatClampNeg
    else
      (-1) : Int64) := rfl
def FMO_isIn (S : hS) (x0 : Int64) (x2 : Int64) (x4 : Int64) : Int32 :=
  if x0 < x2 then
    0
  else
    if x4 < x0 then
      0
    else
      1
theorem FMO_isIn_e (S : hS) (x0 : Int64) (x2 : Int64) (x4 : Int64) : FMO_isIn S x0 x2 x4 =
  (if x0 < x2 then
    0
  else
    if x4 < x0 then
      0
    else
      1 : Int32) := rfl
def FMO_isAccount (S : hS) (x1 : Int32) : Int32 :=
  if x1 < 0 then
    0
  else
    if (S.2 50 0) ≤ x1.toInt64 then
      0
    else
      1
theorem FMO_isAccount_e (S : hS) (x1 : Int32) : FMO_isAccount S x1 =
  (if x1 < 0 then
    0
  else
    if (S.2 50 0) ≤ x1.toInt64 then
      0
    else
      1 : Int32) := rfl
def FMO_isHousehold (S : hS) (x1 : Int32) : Int32 :=
  if (FMO_isAccount S x1) = 0 then
    0
  else
    if (S.2 50 ((10 + x1).toNatClampNeg)) = 1 then
      1
    else
      0
theorem FMO_isHousehold_e (S : hS) (x1 : Int32) : FMO_isHousehold S x1 =
  (if (FMO_isAccount S x1) = 0 then
    0
  else
    if (S.2 50 ((10 + x1).toNatClampNeg)) = 1 then
      1
    else
      0 : Int32) := rfl
def FMO_isEntry (S : hS) (x1 : Int32) : Int32 :=
  if x1 < 0 then
    0
  else
    if (S.2 50 1) ≤ x1.toInt64 then
      0
    else
      1
theorem FMO_isEntry_e (S : hS) (x1 : Int32) : FMO_isEntry S x1 =
  (if x1 < 0 then
    0
  else
    if (S.2 50 1) ≤ x1.toInt64 then
      0
    else
      1 : Int32) := rfl
def FMO_isDay (S : hS) (x0 : Int64) : Int32 :=
  FMO_isIn S x0 0 3599
theorem FMO_isDay_e (S : hS) (x0 : Int64) : FMO_isDay S x0 =
  (FMO_isIn S x0 0 3599 : Int32) := rfl
def FMO_isLate (S : hS) (x1 : Int64) : Int32 :=
  if (S.2 50 2) ≤ (x1 / 30) then
    0
  else
    1
theorem FMO_isLate_e (S : hS) (x1 : Int64) : FMO_isLate S x1 =
  (if (S.2 50 2) ≤ (x1 / 30) then
    0
  else
    1 : Int32) := rfl
def FMO_account (S : hS) (x1 : Int32) : Int32 × hS :=
  if (S.2 50 0) = 8 then
    ((-1), (sI S 49 4 0))
  else
    if x1 < 0 then
      ((-1), (sI S 49 4 0))
    else
      if x1 ≤ 2 then
        (((((sL (sI S 49 4 0) 50 ((10 + ((S.2 50 0).toInt32)).toNatClampNeg) x1.toInt64).2 50 0) + 1).toInt32) - 1, (sL (sL (sI S 49 4 0) 50 ((10 + ((S.2 50 0).toInt32)).toNatClampNeg) x1.toInt64) 50 0 (((sL (sI S 49 4 0) 50 ((10 + ((S.2 50 0).toInt32)).toNatClampNeg) x1.toInt64).2 50 0) + 1)))
      else
        ((-1), (sI S 49 4 0))
theorem FMO_account_e (S : hS) (x1 : Int32) : FMO_account S x1 =
  (if (S.2 50 0) = 8 then
    ((-1), (sI S 49 4 0))
  else
    if x1 < 0 then
      ((-1), (sI S 49 4 0))
    else
      if x1 ≤ 2 then
        (((((sL (sI S 49 4 0) 50 ((10 + ((S.2 50 0).toInt32)).toNatClampNeg) x1.toInt64).2 50 0) + 1).toInt32) - 1, (sL (sL (sI S 49 4 0) 50 ((10 + ((S.2 50 0).toInt32)).toNatClampNeg) x1.toInt64) 50 0 (((sL (sI S 49 4 0) 50 ((10 + ((S.2 50 0).toInt32)).toNatClampNeg) x1.toInt64).2 50 0) + 1)))
      else
        ((-1), (sI S 49 4 0)) : Int32 × hS) := rfl
def FMO_addEntry (S : hS) (x1 : Int64) (x3 : Int32) : Int32 × hS :=
  ((S.2 50 1).toInt32, (sL (sL (sL S 50 ((100 + ((S.2 50 1).toInt32)).toNatClampNeg) x1) 50 ((180 + ((S.2 50 1).toInt32)).toNatClampNeg) x3.toInt64) 50 1 (((sL (sL S 50 ((100 + ((S.2 50 1).toInt32)).toNatClampNeg) x1) 50 ((180 + ((S.2 50 1).toInt32)).toNatClampNeg) x3.toInt64).2 50 1) + 1)))
theorem FMO_addEntry_e (S : hS) (x1 : Int64) (x3 : Int32) : FMO_addEntry S x1 x3 =
  (((S.2 50 1).toInt32, (sL (sL (sL S 50 ((100 + ((S.2 50 1).toInt32)).toNatClampNeg) x1) 50 ((180 + ((S.2 50 1).toInt32)).toNatClampNeg) x3.toInt64) 50 1 (((sL (sL S 50 ((100 + ((S.2 50 1).toInt32)).toNatClampNeg) x1) 50 ((180 + ((S.2 50 1).toInt32)).toNatClampNeg) x3.toInt64).2 50 1) + 1))) : Int32 × hS) := rfl
def FMO_entry (S : hS) (x1 : Int64) : Int32 × hS :=
  if (S.2 50 1) = 40 then
    ((-1), (sI S 49 4 0))
  else
    if (FMO_isDay (sI S 49 4 0) x1) = 0 then
      ((-1), (sI S 49 4 0))
    else
      if (FMO_isLate (sI S 49 4 0) x1) = 0 then
        (fun (v7 : Int32) (S7 : hS) =>
          (v7, S7)) (FMO_addEntry (sI S 49 4 0) x1 0).1 (FMO_addEntry (sI S 49 4 0) x1 0).2
      else
        ((-1), (sI S 49 4 0))
theorem FMO_entry_e (S : hS) (x1 : Int64) : FMO_entry S x1 =
  (if (S.2 50 1) = 40 then
    ((-1), (sI S 49 4 0))
  else
    if (FMO_isDay (sI S 49 4 0) x1) = 0 then
      ((-1), (sI S 49 4 0))
    else
      if (FMO_isLate (sI S 49 4 0) x1) = 0 then
        (fun (v7 : Int32) (S7 : hS) =>
          (v7, S7)) (FMO_addEntry (sI S 49 4 0) x1 0).1 (FMO_addEntry (sI S 49 4 0) x1 0).2
      else
        ((-1), (sI S 49 4 0)) : Int32 × hS) := rfl
def FMO_addRow (S : hS) (x1 : Int32) (x2 : Int32) (x3 : Int64) : hS :=
  (sL (sL (sL S 50 ((300 + ((6 * x1) + ((S.2 50 ((260 + x1).toNatClampNeg)).toInt32))).toNatClampNeg) x2.toInt64) 50 ((540 + ((6 * x1) + ((S.2 50 ((260 + x1).toNatClampNeg)).toInt32))).toNatClampNeg) x3) 50 ((260 + x1).toNatClampNeg) (((sL (sL S 50 ((300 + ((6 * x1) + ((S.2 50 ((260 + x1).toNatClampNeg)).toInt32))).toNatClampNeg) x2.toInt64) 50 ((540 + ((6 * x1) + ((S.2 50 ((260 + x1).toNatClampNeg)).toInt32))).toNatClampNeg) x3).2 50 ((260 + x1).toNatClampNeg)) + 1))
theorem FMO_addRow_e (S : hS) (x1 : Int32) (x2 : Int32) (x3 : Int64) : FMO_addRow S x1 x2 x3 =
  ((sL (sL (sL S 50 ((300 + ((6 * x1) + ((S.2 50 ((260 + x1).toNatClampNeg)).toInt32))).toNatClampNeg) x2.toInt64) 50 ((540 + ((6 * x1) + ((S.2 50 ((260 + x1).toNatClampNeg)).toInt32))).toNatClampNeg) x3) 50 ((260 + x1).toNatClampNeg) (((sL (sL S 50 ((300 + ((6 * x1) + ((S.2 50 ((260 + x1).toNatClampNeg)).toInt32))).toNatClampNeg) x2.toInt64) 50 ((540 + ((6 * x1) + ((S.2 50 ((260 + x1).toNatClampNeg)).toInt32))).toNatClampNeg) x3).2 50 ((260 + x1).toNatClampNeg)) + 1)) : hS) := rfl
def FMO_row (S : hS) (x1 : Int32) (x2 : Int32) (x3 : Int64) : Int32 × hS :=
  if (FMO_isEntry (sI S 49 4 0) x1) = 0 then
    (0, (sI S 49 4 0))
  else
    if (FMO_isAccount (sI S 49 4 0) x2) = 0 then
      (0, (sI S 49 4 0))
    else
      if 0 < (S.2 50 ((140 + x1).toNatClampNeg)) then
        (0, (sI S 49 4 0))
      else
        if (S.2 50 ((260 + x1).toNatClampNeg)) = 6 then
          (0, (sI S 49 4 0))
        else
          if x3 = 0 then
            (0, (sI S 49 4 0))
          else
            if (FMO_isIn (sI S 49 4 0) x3 (-100000000) 100000000) = 0 then
              (0, (sI S 49 4 0))
            else
              (1, (FMO_addRow (sI S 49 4 0) x1 x2 x3))
theorem FMO_row_e (S : hS) (x1 : Int32) (x2 : Int32) (x3 : Int64) : FMO_row S x1 x2 x3 =
  (if (FMO_isEntry (sI S 49 4 0) x1) = 0 then
    (0, (sI S 49 4 0))
  else
    if (FMO_isAccount (sI S 49 4 0) x2) = 0 then
      (0, (sI S 49 4 0))
    else
      if 0 < (S.2 50 ((140 + x1).toNatClampNeg)) then
        (0, (sI S 49 4 0))
      else
        if (S.2 50 ((260 + x1).toNatClampNeg)) = 6 then
          (0, (sI S 49 4 0))
        else
          if x3 = 0 then
            (0, (sI S 49 4 0))
          else
            if (FMO_isIn (sI S 49 4 0) x3 (-100000000) 100000000) = 0 then
              (0, (sI S 49 4 0))
            else
              (1, (FMO_addRow (sI S 49 4 0) x1 x2 x3)) : Int32 × hS) := rfl
def FMO_isItem (S : hS) (x1 : Int32) (x2 : Int32) : Int32 :=
  if (S.2 50 ((260 + x1).toNatClampNeg)) ≤ x2.toInt64 then
    0
  else
    if (S.2 50 ((140 + x1).toNatClampNeg)) ≤ 0 then
      0
    else
      if (S.2 50 ((180 + x1).toNatClampNeg)) = 0 then
        if (S.2 50 ((540 + ((6 * x1) + x2)).toNatClampNeg)) ≤ 0 then
          0
        else
          if (S.2 50 ((10 + ((S.2 50 ((300 + ((6 * x1) + x2)).toNatClampNeg)).toInt32)).toNatClampNeg)) = 1 then
            1
          else
            0
      else
        0
theorem FMO_isItem_e (S : hS) (x1 : Int32) (x2 : Int32) : FMO_isItem S x1 x2 =
  (if (S.2 50 ((260 + x1).toNatClampNeg)) ≤ x2.toInt64 then
    0
  else
    if (S.2 50 ((140 + x1).toNatClampNeg)) ≤ 0 then
      0
    else
      if (S.2 50 ((180 + x1).toNatClampNeg)) = 0 then
        if (S.2 50 ((540 + ((6 * x1) + x2)).toNatClampNeg)) ≤ 0 then
          0
        else
          if (S.2 50 ((10 + ((S.2 50 ((300 + ((6 * x1) + x2)).toNatClampNeg)).toInt32)).toNatClampNeg)) = 1 then
            1
          else
            0
      else
        0 : Int32) := rfl
def LMO_close_51 : Nat → hS → Int32 → Int64 → Int32 → Int64 × Int32
  | 0, S, x1, x2, x4 => (0, 0)
  | n + 1, S, x1, x2, x4 =>
    if (S.2 50 ((260 + x1).toNatClampNeg)) ≤ x4.toInt64 then
      (x2, x4)
    else
      LMO_close_51 n S x1 (x2 + (S.2 50 (((540 + (6 * x1)) + x4).toNatClampNeg))) (x4 + 1)
theorem LMO_close_51_s (n : Nat) (S : hS) (x1 : Int32) (x2 : Int64) (x4 : Int32) : LMO_close_51 (n + 1) S x1 x2 x4 =
    (if (S.2 50 ((260 + x1).toNatClampNeg)) ≤ x4.toInt64 then
      (x2, x4)
    else
      LMO_close_51 n S x1 (x2 + (S.2 50 (((540 + (6 * x1)) + x4).toNatClampNeg))) (x4 + 1) : Int64 × Int32) := rfl
def LMO_close_120 : Nat → hS → Int32 → Int64 → Int32 → Int32 × hS
  | 0, S, x1, x2, x4 => (0, S)
  | n + 1, S, x1, x2, x4 =>
    if (S.2 50 ((260 + x1).toNatClampNeg)) ≤ x4.toInt64 then
      (x4, S)
    else
      if (FMO_isItem S x1 x4) = 0 then
        LMO_close_120 n (sL S 50 ((780 + ((6 * x1) + x4)).toNatClampNeg) 0) x1 x2 (x4 + 1)
      else
        LMO_close_120 n (sL S 50 ((780 + ((6 * x1) + x4)).toNatClampNeg) (S.2 50 ((540 + ((6 * x1) + x4)).toNatClampNeg))) x1 x2 (x4 + 1)
theorem LMO_close_120_s (n : Nat) (S : hS) (x1 : Int32) (x2 : Int64) (x4 : Int32) : LMO_close_120 (n + 1) S x1 x2 x4 =
    (if (S.2 50 ((260 + x1).toNatClampNeg)) ≤ x4.toInt64 then
      (x4, S)
    else
      if (FMO_isItem S x1 x4) = 0 then
        LMO_close_120 n (sL S 50 ((780 + ((6 * x1) + x4)).toNatClampNeg) 0) x1 x2 (x4 + 1)
      else
        LMO_close_120 n (sL S 50 ((780 + ((6 * x1) + x4)).toNatClampNeg) (S.2 50 ((540 + ((6 * x1) + x4)).toNatClampNeg))) x1 x2 (x4 + 1) : Int32 × hS) := rfl
def FMO_close (S : hS) (x1 : Int32) : Int32 × hS :=
  if (FMO_isEntry (sI S 49 4 0) x1) = 0 then
    ((-1), (sI S 49 4 0))
  else
    if 0 < (S.2 50 ((140 + x1).toNatClampNeg)) then
      ((-1), (sI S 49 4 0))
    else
      if (FMO_isLate (sI S 49 4 0) (S.2 50 ((100 + x1).toNatClampNeg))) = 0 then
        (fun (y13_2 : Int64) (y13_4 : Int32) =>
          if y13_2 = 0 then
            (fun (y29_4 : Int32) (S29 : hS) =>
              ((S29.2 50 ((260 + x1).toNatClampNeg)).toInt32, S29)) (LMO_close_120 300 (sL (sI S 49 4 0) 50 ((140 + x1).toNatClampNeg) 1) x1 y13_2 0).1 (LMO_close_120 300 (sL (sI S 49 4 0) 50 ((140 + x1).toNatClampNeg) 1) x1 y13_2 0).2
          else
            (0, (sI (sI S 49 4 0) 49 4 1))) (LMO_close_51 300 (sI S 49 4 0) x1 0 0).1 (LMO_close_51 300 (sI S 49 4 0) x1 0 0).2
      else
        ((-1), (sI S 49 4 0))
theorem FMO_close_e (S : hS) (x1 : Int32) : FMO_close S x1 =
  (if (FMO_isEntry (sI S 49 4 0) x1) = 0 then
    ((-1), (sI S 49 4 0))
  else
    if 0 < (S.2 50 ((140 + x1).toNatClampNeg)) then
      ((-1), (sI S 49 4 0))
    else
      if (FMO_isLate (sI S 49 4 0) (S.2 50 ((100 + x1).toNatClampNeg))) = 0 then
        (fun (y13_2 : Int64) (y13_4 : Int32) =>
          if y13_2 = 0 then
            (fun (y29_4 : Int32) (S29 : hS) =>
              ((S29.2 50 ((260 + x1).toNatClampNeg)).toInt32, S29)) (LMO_close_120 300 (sL (sI S 49 4 0) 50 ((140 + x1).toNatClampNeg) 1) x1 y13_2 0).1 (LMO_close_120 300 (sL (sI S 49 4 0) 50 ((140 + x1).toNatClampNeg) 1) x1 y13_2 0).2
          else
            (0, (sI (sI S 49 4 0) 49 4 1))) (LMO_close_51 300 (sI S 49 4 0) x1 0 0).1 (LMO_close_51 300 (sI S 49 4 0) x1 0 0).2
      else
        ((-1), (sI S 49 4 0)) : Int32 × hS) := rfl
def LMO_balance_27 : Nat → hS → Int32 → Int64 → Int64 → Int32 → Int32 → Int64 × Int32
  | 0, S, x1, x2, x4, x6, x7 => (0, 0)
  | n + 1, S, x1, x2, x4, x6, x7 =>
    if (S.2 50 ((260 + x6).toNatClampNeg)) ≤ x7.toInt64 then
      (x4, x7)
    else
      if (FMO_isAccount S x1) = 0 then
        LMO_balance_27 n S x1 x2 (x4 + 0) x6 (x7 + 1)
      else
        if (S.2 50 ((140 + x6).toNatClampNeg)) ≤ 0 then
          LMO_balance_27 n S x1 x2 (x4 + 0) x6 (x7 + 1)
        else
          if x2 < (S.2 50 ((100 + x6).toNatClampNeg)) then
            LMO_balance_27 n S x1 x2 (x4 + 0) x6 (x7 + 1)
          else
            if (S.2 50 ((300 + ((6 * x6) + x7)).toNatClampNeg)) = x1.toInt64 then
              LMO_balance_27 n S x1 x2 (x4 + (S.2 50 ((540 + ((6 * x6) + x7)).toNatClampNeg))) x6 (x7 + 1)
            else
              LMO_balance_27 n S x1 x2 (x4 + 0) x6 (x7 + 1)
theorem LMO_balance_27_s (n : Nat) (S : hS) (x1 : Int32) (x2 : Int64) (x4 : Int64) (x6 : Int32) (x7 : Int32) : LMO_balance_27 (n + 1) S x1 x2 x4 x6 x7 =
    (if (S.2 50 ((260 + x6).toNatClampNeg)) ≤ x7.toInt64 then
      (x4, x7)
    else
      if (FMO_isAccount S x1) = 0 then
        LMO_balance_27 n S x1 x2 (x4 + 0) x6 (x7 + 1)
      else
        if (S.2 50 ((140 + x6).toNatClampNeg)) ≤ 0 then
          LMO_balance_27 n S x1 x2 (x4 + 0) x6 (x7 + 1)
        else
          if x2 < (S.2 50 ((100 + x6).toNatClampNeg)) then
            LMO_balance_27 n S x1 x2 (x4 + 0) x6 (x7 + 1)
          else
            if (S.2 50 ((300 + ((6 * x6) + x7)).toNatClampNeg)) = x1.toInt64 then
              LMO_balance_27 n S x1 x2 (x4 + (S.2 50 ((540 + ((6 * x6) + x7)).toNatClampNeg))) x6 (x7 + 1)
            else
              LMO_balance_27 n S x1 x2 (x4 + 0) x6 (x7 + 1) : Int64 × Int32) := rfl
def LMO_balance_11 : Nat → hS → Int32 → Int64 → Int64 → Int32 → Int64 × Int32
  | 0, S, x1, x2, x4, x6 => (0, 0)
  | n + 1, S, x1, x2, x4, x6 =>
    if (S.2 50 1) ≤ x6.toInt64 then
      (x4, x6)
    else
      (fun (y24_4 : Int64) (y24_7 : Int32) =>
        LMO_balance_11 n S x1 x2 y24_4 (x6 + 1)) (LMO_balance_27 300 S x1 x2 x4 x6 0).1 (LMO_balance_27 300 S x1 x2 x4 x6 0).2
theorem LMO_balance_11_s (n : Nat) (S : hS) (x1 : Int32) (x2 : Int64) (x4 : Int64) (x6 : Int32) : LMO_balance_11 (n + 1) S x1 x2 x4 x6 =
    (if (S.2 50 1) ≤ x6.toInt64 then
      (x4, x6)
    else
      (fun (y24_4 : Int64) (y24_7 : Int32) =>
        LMO_balance_11 n S x1 x2 y24_4 (x6 + 1)) (LMO_balance_27 300 S x1 x2 x4 x6 0).1 (LMO_balance_27 300 S x1 x2 x4 x6 0).2 : Int64 × Int32) := rfl
def FMO_balance (S : hS) (x1 : Int32) (x2 : Int64) : Int64 × hS :=
  (fun (y29_4 : Int64) (y29_6 : Int32) =>
    (y29_4, (sI S 49 4 0))) (LMO_balance_11 300 (sI S 49 4 0) x1 x2 0 0).1 (LMO_balance_11 300 (sI S 49 4 0) x1 x2 0 0).2
theorem FMO_balance_e (S : hS) (x1 : Int32) (x2 : Int64) : FMO_balance S x1 x2 =
  ((fun (y29_4 : Int64) (y29_6 : Int32) =>
    (y29_4, (sI S 49 4 0))) (LMO_balance_11 300 (sI S 49 4 0) x1 x2 0 0).1 (LMO_balance_11 300 (sI S 49 4 0) x1 x2 0 0).2 : Int64 × hS) := rfl
def FMO_isItemOf (S : hS) (x1 : Int32) (x2 : Int32) : Int32 :=
  if (FMO_isItem S (x1 / 6) (x1 - x1 / 6 * 6)) = 0 then
    0
  else
    if (S.2 50 ((300 + x1).toNatClampNeg)) = x2.toInt64 then
      1
    else
      0
theorem FMO_isItemOf_e (S : hS) (x1 : Int32) (x2 : Int32) : FMO_isItemOf S x1 x2 =
  (if (FMO_isItem S (x1 / 6) (x1 - x1 / 6 * 6)) = 0 then
    0
  else
    if (S.2 50 ((300 + x1).toNatClampNeg)) = x2.toInt64 then
      1
    else
      0 : Int32) := rfl
def FMO_isBefore (S : hS) (x1 : Int32) (x2 : Int32) : Int32 :=
  if (S.2 50 ((100 + (x1 / 6)).toNatClampNeg)) = (S.2 50 ((100 + (x2 / 6)).toNatClampNeg)) then
    if x2 ≤ x1 then
      0
    else
      1
  else
    if (S.2 50 ((100 + (x2 / 6)).toNatClampNeg)) ≤ (S.2 50 ((100 + (x1 / 6)).toNatClampNeg)) then
      0
    else
      1
theorem FMO_isBefore_e (S : hS) (x1 : Int32) (x2 : Int32) : FMO_isBefore S x1 x2 =
  (if (S.2 50 ((100 + (x1 / 6)).toNatClampNeg)) = (S.2 50 ((100 + (x2 / 6)).toNatClampNeg)) then
    if x2 ≤ x1 then
      0
    else
      1
  else
    if (S.2 50 ((100 + (x2 / 6)).toNatClampNeg)) ≤ (S.2 50 ((100 + (x1 / 6)).toNatClampNeg)) then
      0
    else
      1 : Int32) := rfl
def LMO_itemAt_24 : Nat → hS → Int32 → Int32 → Int32 → Int32 → Int32 → Int32 × Int32
  | 0, S, x1, x2, x3, x4, x5 => (0, 0)
  | n + 1, S, x1, x2, x3, x4, x5 =>
    if 240 ≤ x5 then
      (x4, x5)
    else
      if (FMO_isItemOf S x5 x1) = 0 then
        LMO_itemAt_24 n S x1 x2 x3 (x4 + 0) (x5 + 1)
      else
        if (FMO_isBefore S x5 x3) = 0 then
          LMO_itemAt_24 n S x1 x2 x3 (x4 + 0) (x5 + 1)
        else
          LMO_itemAt_24 n S x1 x2 x3 (x4 + 1) (x5 + 1)
theorem LMO_itemAt_24_s (n : Nat) (S : hS) (x1 : Int32) (x2 : Int32) (x3 : Int32) (x4 : Int32) (x5 : Int32) : LMO_itemAt_24 (n + 1) S x1 x2 x3 x4 x5 =
    (if 240 ≤ x5 then
      (x4, x5)
    else
      if (FMO_isItemOf S x5 x1) = 0 then
        LMO_itemAt_24 n S x1 x2 x3 (x4 + 0) (x5 + 1)
      else
        if (FMO_isBefore S x5 x3) = 0 then
          LMO_itemAt_24 n S x1 x2 x3 (x4 + 0) (x5 + 1)
        else
          LMO_itemAt_24 n S x1 x2 x3 (x4 + 1) (x5 + 1) : Int32 × Int32) := rfl
def LMO_itemAt_2 : Nat → hS → Int32 → Int32 → Int32 → (Int32) ⊕ (Int32)
  | 0, S, x1, x2, x3 => .inr 0
  | n + 1, S, x1, x2, x3 =>
    if 240 ≤ x3 then
      .inr x3
    else
      if (FMO_isItemOf S x3 x1) = 0 then
        LMO_itemAt_2 n S x1 x2 (x3 + 1)
      else
        (fun (y17_4 : Int32) (y17_5 : Int32) =>
          if y17_4 = x2 then
            .inl x3
          else
            LMO_itemAt_2 n S x1 x2 (x3 + 1)) (LMO_itemAt_24 300 S x1 x2 x3 0 0).1 (LMO_itemAt_24 300 S x1 x2 x3 0 0).2
theorem LMO_itemAt_2_s (n : Nat) (S : hS) (x1 : Int32) (x2 : Int32) (x3 : Int32) : LMO_itemAt_2 (n + 1) S x1 x2 x3 =
    (if 240 ≤ x3 then
      .inr x3
    else
      if (FMO_isItemOf S x3 x1) = 0 then
        LMO_itemAt_2 n S x1 x2 (x3 + 1)
      else
        (fun (y17_4 : Int32) (y17_5 : Int32) =>
          if y17_4 = x2 then
            .inl x3
          else
            LMO_itemAt_2 n S x1 x2 (x3 + 1)) (LMO_itemAt_24 300 S x1 x2 x3 0 0).1 (LMO_itemAt_24 300 S x1 x2 x3 0 0).2 : (Int32) ⊕ (Int32)) := rfl
def FMO_itemAt (S : hS) (x1 : Int32) (x2 : Int32) : Int32 :=
  Sum.elim (fun q => q) (fun (qq : Int32) => (fun (y23_3 : Int32) =>
    (-1)) qq) (LMO_itemAt_2 300 S x1 x2 0)
theorem FMO_itemAt_e (S : hS) (x1 : Int32) (x2 : Int32) : FMO_itemAt S x1 x2 =
  (Sum.elim (fun q => q) (fun (qq : Int32) => (fun (y23_3 : Int32) =>
    (-1)) qq) (LMO_itemAt_2 300 S x1 x2 0) : Int32) := rfl
def LMO_payment_8 : Nat → hS → Int32 → Int64 → Int64 → Int32 → Int32
  | 0, S, x1, x2, x4, x6 => 0
  | n + 1, S, x1, x2, x4, x6 =>
    if (FMO_isAccount S x6) = 0 then
      x6
    else
      if (S.2 50 ((10 + x6).toNatClampNeg)) = 0 then
        x6
      else
        LMO_payment_8 n S x1 x2 x4 (x6 + 1)
theorem LMO_payment_8_s (n : Nat) (S : hS) (x1 : Int32) (x2 : Int64) (x4 : Int64) (x6 : Int32) : LMO_payment_8 (n + 1) S x1 x2 x4 x6 =
    (if (FMO_isAccount S x6) = 0 then
      x6
    else
      if (S.2 50 ((10 + x6).toNatClampNeg)) = 0 then
        x6
      else
        LMO_payment_8 n S x1 x2 x4 (x6 + 1) : Int32) := rfl
def LMO_payment_185 : Nat → hS → Int32 → Int64 → Int64 → Int32 → Int32 → Int64 → Int32 → Int64 × Int32 × hS
  | 0, S, x1, x2, x4, x6, x7, x8, x10 => (0, 0, S)
  | n + 1, S, x1, x2, x4, x6, x7, x8, x10 =>
    if (FMO_itemAt S x1 x10) < 0 then
      (x8, x10, S)
    else
      if (S.2 50 ((780 + (FMO_itemAt S x1 x10)).toNatClampNeg)) ≤ x8 then
        if (S.2 50 ((780 + (FMO_itemAt S x1 x10)).toNatClampNeg)) ≤ 0 then
          LMO_payment_185 n S x1 x2 x4 x6 x7 x8 (x10 + 1)
        else
          LMO_payment_185 n (sL (sL S 50 ((780 + (FMO_itemAt S x1 x10)).toNatClampNeg) ((S.2 50 ((780 + (FMO_itemAt S x1 x10)).toNatClampNeg)) - (S.2 50 ((780 + (FMO_itemAt S x1 x10)).toNatClampNeg)))) 50 (((1020 + (4 * x7)) + ((FMO_itemAt S x1 x10) / 60)).toNatClampNeg) (((sL S 50 ((780 + (FMO_itemAt S x1 x10)).toNatClampNeg) ((S.2 50 ((780 + (FMO_itemAt S x1 x10)).toNatClampNeg)) - (S.2 50 ((780 + (FMO_itemAt S x1 x10)).toNatClampNeg)))).2 50 (((1020 + (4 * x7)) + ((FMO_itemAt S x1 x10) / 60)).toNatClampNeg)) ||| (1 <<< (((FMO_itemAt S x1 x10) - (FMO_itemAt S x1 x10) / 60 * 60).toInt64 &&& 63)))) x1 x2 x4 x6 x7 (x8 - (S.2 50 ((780 + (FMO_itemAt S x1 x10)).toNatClampNeg))) (x10 + 1)
      else
        if x8 ≤ 0 then
          LMO_payment_185 n S x1 x2 x4 x6 x7 x8 (x10 + 1)
        else
          LMO_payment_185 n (sL (sL S 50 ((780 + (FMO_itemAt S x1 x10)).toNatClampNeg) ((S.2 50 ((780 + (FMO_itemAt S x1 x10)).toNatClampNeg)) - x8)) 50 (((1020 + (4 * x7)) + ((FMO_itemAt S x1 x10) / 60)).toNatClampNeg) (((sL S 50 ((780 + (FMO_itemAt S x1 x10)).toNatClampNeg) ((S.2 50 ((780 + (FMO_itemAt S x1 x10)).toNatClampNeg)) - x8)).2 50 (((1020 + (4 * x7)) + ((FMO_itemAt S x1 x10) / 60)).toNatClampNeg)) ||| (1 <<< (((FMO_itemAt S x1 x10) - (FMO_itemAt S x1 x10) / 60 * 60).toInt64 &&& 63)))) x1 x2 x4 x6 x7 (x8 - x8) (x10 + 1)
theorem LMO_payment_185_s (n : Nat) (S : hS) (x1 : Int32) (x2 : Int64) (x4 : Int64) (x6 : Int32) (x7 : Int32) (x8 : Int64) (x10 : Int32) : LMO_payment_185 (n + 1) S x1 x2 x4 x6 x7 x8 x10 =
    (if (FMO_itemAt S x1 x10) < 0 then
      (x8, x10, S)
    else
      if (S.2 50 ((780 + (FMO_itemAt S x1 x10)).toNatClampNeg)) ≤ x8 then
        if (S.2 50 ((780 + (FMO_itemAt S x1 x10)).toNatClampNeg)) ≤ 0 then
          LMO_payment_185 n S x1 x2 x4 x6 x7 x8 (x10 + 1)
        else
          LMO_payment_185 n (sL (sL S 50 ((780 + (FMO_itemAt S x1 x10)).toNatClampNeg) ((S.2 50 ((780 + (FMO_itemAt S x1 x10)).toNatClampNeg)) - (S.2 50 ((780 + (FMO_itemAt S x1 x10)).toNatClampNeg)))) 50 (((1020 + (4 * x7)) + ((FMO_itemAt S x1 x10) / 60)).toNatClampNeg) (((sL S 50 ((780 + (FMO_itemAt S x1 x10)).toNatClampNeg) ((S.2 50 ((780 + (FMO_itemAt S x1 x10)).toNatClampNeg)) - (S.2 50 ((780 + (FMO_itemAt S x1 x10)).toNatClampNeg)))).2 50 (((1020 + (4 * x7)) + ((FMO_itemAt S x1 x10) / 60)).toNatClampNeg)) ||| (1 <<< (((FMO_itemAt S x1 x10) - (FMO_itemAt S x1 x10) / 60 * 60).toInt64 &&& 63)))) x1 x2 x4 x6 x7 (x8 - (S.2 50 ((780 + (FMO_itemAt S x1 x10)).toNatClampNeg))) (x10 + 1)
      else
        if x8 ≤ 0 then
          LMO_payment_185 n S x1 x2 x4 x6 x7 x8 (x10 + 1)
        else
          LMO_payment_185 n (sL (sL S 50 ((780 + (FMO_itemAt S x1 x10)).toNatClampNeg) ((S.2 50 ((780 + (FMO_itemAt S x1 x10)).toNatClampNeg)) - x8)) 50 (((1020 + (4 * x7)) + ((FMO_itemAt S x1 x10) / 60)).toNatClampNeg) (((sL S 50 ((780 + (FMO_itemAt S x1 x10)).toNatClampNeg) ((S.2 50 ((780 + (FMO_itemAt S x1 x10)).toNatClampNeg)) - x8)).2 50 (((1020 + (4 * x7)) + ((FMO_itemAt S x1 x10) / 60)).toNatClampNeg)) ||| (1 <<< (((FMO_itemAt S x1 x10) - (FMO_itemAt S x1 x10) / 60 * 60).toInt64 &&& 63)))) x1 x2 x4 x6 x7 (x8 - x8) (x10 + 1) : Int64 × Int32 × hS) := rfl
def FMO_payment (S : hS) (x1 : Int32) (x2 : Int64) (x4 : Int64) : Int32 × hS :=
  (fun (y7_6 : Int32) =>
    if (FMO_isIn (sI S 49 4 0) x2 1 100000000) = 0 then
      ((-1), (sI S 49 4 0))
    else
      if (FMO_isDay (sI S 49 4 0) x4) = 0 then
        ((-1), (sI S 49 4 0))
      else
        if (FMO_isLate (sI S 49 4 0) x4) = 0 then
          if (FMO_isAccount (sI S 49 4 0) y7_6) = 0 then
            ((-1), (sI S 49 4 0))
          else
            if (S.2 50 1) = 40 then
              ((-1), (sI S 49 4 0))
            else
              if (FMO_isHousehold (sI S 49 4 0) x1) = 0 then
                if 20 ≤ (S.2 50 4) then
                  ((-1), (sI S 49 4 0))
                else
                  ((-1), (sL (sL (sI S 49 4 0) 50 ((1200 + ((S.2 50 4).toInt32)).toNatClampNeg) x2) 50 4 (((sL (sI S 49 4 0) 50 ((1200 + ((S.2 50 4).toInt32)).toNatClampNeg) x2).2 50 4) + 1)))
              else
                (fun (v21 : Int32) (S21 : hS) =>
                  (fun (y49_8 : Int64) (y49_10 : Int32) (S49 : hS) =>
                    (v21, S49)) (LMO_payment_185 300 (sL (FMO_addRow (FMO_addRow S21 v21 y7_6 x2) v21 x1 (-x2)) 50 ((140 + v21).toNatClampNeg) 1) x1 x2 x4 y7_6 v21 x2 0).1 (LMO_payment_185 300 (sL (FMO_addRow (FMO_addRow S21 v21 y7_6 x2) v21 x1 (-x2)) 50 ((140 + v21).toNatClampNeg) 1) x1 x2 x4 y7_6 v21 x2 0).2.1 (LMO_payment_185 300 (sL (FMO_addRow (FMO_addRow S21 v21 y7_6 x2) v21 x1 (-x2)) 50 ((140 + v21).toNatClampNeg) 1) x1 x2 x4 y7_6 v21 x2 0).2.2) (FMO_addEntry (sI S 49 4 0) x4 1).1 (FMO_addEntry (sI S 49 4 0) x4 1).2
        else
          ((-1), (sI S 49 4 0))) (LMO_payment_8 300 (sI S 49 4 0) x1 x2 x4 0)
theorem FMO_payment_e (S : hS) (x1 : Int32) (x2 : Int64) (x4 : Int64) : FMO_payment S x1 x2 x4 =
  ((fun (y7_6 : Int32) =>
    if (FMO_isIn (sI S 49 4 0) x2 1 100000000) = 0 then
      ((-1), (sI S 49 4 0))
    else
      if (FMO_isDay (sI S 49 4 0) x4) = 0 then
        ((-1), (sI S 49 4 0))
      else
        if (FMO_isLate (sI S 49 4 0) x4) = 0 then
          if (FMO_isAccount (sI S 49 4 0) y7_6) = 0 then
            ((-1), (sI S 49 4 0))
          else
            if (S.2 50 1) = 40 then
              ((-1), (sI S 49 4 0))
            else
              if (FMO_isHousehold (sI S 49 4 0) x1) = 0 then
                if 20 ≤ (S.2 50 4) then
                  ((-1), (sI S 49 4 0))
                else
                  ((-1), (sL (sL (sI S 49 4 0) 50 ((1200 + ((S.2 50 4).toInt32)).toNatClampNeg) x2) 50 4 (((sL (sI S 49 4 0) 50 ((1200 + ((S.2 50 4).toInt32)).toNatClampNeg) x2).2 50 4) + 1)))
              else
                (fun (v21 : Int32) (S21 : hS) =>
                  (fun (y49_8 : Int64) (y49_10 : Int32) (S49 : hS) =>
                    (v21, S49)) (LMO_payment_185 300 (sL (FMO_addRow (FMO_addRow S21 v21 y7_6 x2) v21 x1 (-x2)) 50 ((140 + v21).toNatClampNeg) 1) x1 x2 x4 y7_6 v21 x2 0).1 (LMO_payment_185 300 (sL (FMO_addRow (FMO_addRow S21 v21 y7_6 x2) v21 x1 (-x2)) 50 ((140 + v21).toNatClampNeg) 1) x1 x2 x4 y7_6 v21 x2 0).2.1 (LMO_payment_185 300 (sL (FMO_addRow (FMO_addRow S21 v21 y7_6 x2) v21 x1 (-x2)) 50 ((140 + v21).toNatClampNeg) 1) x1 x2 x4 y7_6 v21 x2 0).2.2) (FMO_addEntry (sI S 49 4 0) x4 1).1 (FMO_addEntry (sI S 49 4 0) x4 1).2
        else
          ((-1), (sI S 49 4 0))) (LMO_payment_8 300 (sI S 49 4 0) x1 x2 x4 0) : Int32 × hS) := rfl
def FMO_item (S : hS) (x1 : Int32) (x2 : Int32) : Int64 × hS :=
  if (FMO_isHousehold (sI S 49 4 0) x1) = 0 then
    ((-1), (sI S 49 4 0))
  else
    if x2 < 0 then
      ((-1), (sI S 49 4 0))
    else
      if 0 ≤ (FMO_itemAt (sI S 49 4 0) x1 x2) then
        (S.2 50 ((780 + (FMO_itemAt (sI S 49 4 0) x1 x2)).toNatClampNeg), (sI S 49 4 0))
      else
        ((-1), (sI S 49 4 0))
theorem FMO_item_e (S : hS) (x1 : Int32) (x2 : Int32) : FMO_item S x1 x2 =
  (if (FMO_isHousehold (sI S 49 4 0) x1) = 0 then
    ((-1), (sI S 49 4 0))
  else
    if x2 < 0 then
      ((-1), (sI S 49 4 0))
    else
      if 0 ≤ (FMO_itemAt (sI S 49 4 0) x1 x2) then
        (S.2 50 ((780 + (FMO_itemAt (sI S 49 4 0) x1 x2)).toNatClampNeg), (sI S 49 4 0))
      else
        ((-1), (sI S 49 4 0)) : Int64 × hS) := rfl
def FMO_gave (S : hS) (x1 : Int32) (x2 : Int32) : Int32 :=
  if (((S.2 50 (((1020 + (4 * x1)) + (x2 / 60)).toNatClampNeg)) >>> ((x2 - x2 / 60 * 60).toInt64 &&& 63)) &&& 1) = 1 then
    1
  else
    0
theorem FMO_gave_e (S : hS) (x1 : Int32) (x2 : Int32) : FMO_gave S x1 x2 =
  (if (((S.2 50 (((1020 + (4 * x1)) + (x2 / 60)).toNatClampNeg)) >>> ((x2 - x2 / 60 * 60).toInt64 &&& 63)) &&& 1) = 1 then
    1
  else
    0 : Int32) := rfl
def LMO_opened_37 : Nat → hS → Int32 → Int32 → Int32 → Int32 → Int32 → Int32 × Int32
  | 0, S, x1, x2, x3, x4, x5 => (0, 0)
  | n + 1, S, x1, x2, x3, x4, x5 =>
    if 240 ≤ x5 then
      (x4, x5)
    else
      if (FMO_gave S x1 x5) = 0 then
        LMO_opened_37 n S x1 x2 x3 (x4 + 0) (x5 + 1)
      else
        if (FMO_isBefore S x5 x3) = 0 then
          LMO_opened_37 n S x1 x2 x3 (x4 + 0) (x5 + 1)
        else
          LMO_opened_37 n S x1 x2 x3 (x4 + 1) (x5 + 1)
theorem LMO_opened_37_s (n : Nat) (S : hS) (x1 : Int32) (x2 : Int32) (x3 : Int32) (x4 : Int32) (x5 : Int32) : LMO_opened_37 (n + 1) S x1 x2 x3 x4 x5 =
    (if 240 ≤ x5 then
      (x4, x5)
    else
      if (FMO_gave S x1 x5) = 0 then
        LMO_opened_37 n S x1 x2 x3 (x4 + 0) (x5 + 1)
      else
        if (FMO_isBefore S x5 x3) = 0 then
          LMO_opened_37 n S x1 x2 x3 (x4 + 0) (x5 + 1)
        else
          LMO_opened_37 n S x1 x2 x3 (x4 + 1) (x5 + 1) : Int32 × Int32) := rfl
def LMO_opened_7 : Nat → hS → Int32 → Int32 → Int32 → (Int32) ⊕ (Int32)
  | 0, S, x1, x2, x3 => .inr 0
  | n + 1, S, x1, x2, x3 =>
    if 240 ≤ x3 then
      .inr x3
    else
      if (FMO_isEntry S x1) = 0 then
        .inr x3
      else
        if (FMO_gave S x1 x3) = 0 then
          LMO_opened_7 n S x1 x2 (x3 + 1)
        else
          (fun (y19_4 : Int32) (y19_5 : Int32) =>
            if y19_4 = x2 then
              .inl ((10 * (x3 / 6)) + (x3 - x3 / 6 * 6))
            else
              LMO_opened_7 n S x1 x2 (x3 + 1)) (LMO_opened_37 300 S x1 x2 x3 0 0).1 (LMO_opened_37 300 S x1 x2 x3 0 0).2
theorem LMO_opened_7_s (n : Nat) (S : hS) (x1 : Int32) (x2 : Int32) (x3 : Int32) : LMO_opened_7 (n + 1) S x1 x2 x3 =
    (if 240 ≤ x3 then
      .inr x3
    else
      if (FMO_isEntry S x1) = 0 then
        .inr x3
      else
        if (FMO_gave S x1 x3) = 0 then
          LMO_opened_7 n S x1 x2 (x3 + 1)
        else
          (fun (y19_4 : Int32) (y19_5 : Int32) =>
            if y19_4 = x2 then
              .inl ((10 * (x3 / 6)) + (x3 - x3 / 6 * 6))
            else
              LMO_opened_7 n S x1 x2 (x3 + 1)) (LMO_opened_37 300 S x1 x2 x3 0 0).1 (LMO_opened_37 300 S x1 x2 x3 0 0).2 : (Int32) ⊕ (Int32)) := rfl
def FMO_opened (S : hS) (x1 : Int32) (x2 : Int32) : Int32 × hS :=
  Sum.elim (fun q => (q, (sI S 49 4 0))) (fun (qq : Int32) => (fun (y25_3 : Int32) =>
    ((-1), (sI S 49 4 0))) qq) (LMO_opened_7 300 (sI S 49 4 0) x1 x2 0)
theorem FMO_opened_e (S : hS) (x1 : Int32) (x2 : Int32) : FMO_opened S x1 x2 =
  (Sum.elim (fun q => (q, (sI S 49 4 0))) (fun (qq : Int32) => (fun (y25_3 : Int32) =>
    ((-1), (sI S 49 4 0))) qq) (LMO_opened_7 300 (sI S 49 4 0) x1 x2 0) : Int32 × hS) := rfl
def LMO_hasOld_6 : Nat → hS → Int32 → Int64 → Int32 → Int32 → Int32 × Int32
  | 0, S, x1, x2, x4, x5 => (0, 0)
  | n + 1, S, x1, x2, x4, x5 =>
    if 240 ≤ x5 then
      (x4, x5)
    else
      if x4 = 0 then
        if (FMO_isItemOf S x5 x1) = 0 then
          LMO_hasOld_6 n S x1 x2 0 (x5 + 1)
        else
          if x2 < ((S.2 50 ((100 + (x5 / 6)).toNatClampNeg)) + 31) then
            LMO_hasOld_6 n S x1 x2 0 (x5 + 1)
          else
            if (S.2 50 ((780 + x5).toNatClampNeg)) ≤ 0 then
              LMO_hasOld_6 n S x1 x2 0 (x5 + 1)
            else
              LMO_hasOld_6 n S x1 x2 1 (x5 + 1)
      else
        LMO_hasOld_6 n S x1 x2 1 (x5 + 1)
theorem LMO_hasOld_6_s (n : Nat) (S : hS) (x1 : Int32) (x2 : Int64) (x4 : Int32) (x5 : Int32) : LMO_hasOld_6 (n + 1) S x1 x2 x4 x5 =
    (if 240 ≤ x5 then
      (x4, x5)
    else
      if x4 = 0 then
        if (FMO_isItemOf S x5 x1) = 0 then
          LMO_hasOld_6 n S x1 x2 0 (x5 + 1)
        else
          if x2 < ((S.2 50 ((100 + (x5 / 6)).toNatClampNeg)) + 31) then
            LMO_hasOld_6 n S x1 x2 0 (x5 + 1)
          else
            if (S.2 50 ((780 + x5).toNatClampNeg)) ≤ 0 then
              LMO_hasOld_6 n S x1 x2 0 (x5 + 1)
            else
              LMO_hasOld_6 n S x1 x2 1 (x5 + 1)
      else
        LMO_hasOld_6 n S x1 x2 1 (x5 + 1) : Int32 × Int32) := rfl
def FMO_hasOld (S : hS) (x1 : Int32) (x2 : Int64) : Int32 :=
  (fun (y19_4 : Int32) (y19_5 : Int32) =>
    y19_4) (LMO_hasOld_6 300 S x1 x2 0 0).1 (LMO_hasOld_6 300 S x1 x2 0 0).2
theorem FMO_hasOld_e (S : hS) (x1 : Int32) (x2 : Int64) : FMO_hasOld S x1 x2 =
  ((fun (y19_4 : Int32) (y19_5 : Int32) =>
    y19_4) (LMO_hasOld_6 300 S x1 x2 0 0).1 (LMO_hasOld_6 300 S x1 x2 0 0).2 : Int32) := rfl
def FMO_dun (S : hS) (x1 : Int32) (x2 : Int64) : Int32 × hS :=
  if (FMO_isHousehold (sI S 49 4 0) x1) = 0 then
    ((-1), (sI S 49 4 0))
  else
    if (FMO_isDay (sI S 49 4 0) x2) = 0 then
      ((-1), (sI S 49 4 0))
    else
      if (S.2 50 ((40 + x1).toNatClampNeg)) ≤ 0 then
        if (FMO_hasOld (sI S 49 4 0) x1 x2) = 0 then
          (0, (sL (sI S 49 4 0) 50 ((20 + x1).toNatClampNeg) 0))
        else
          if (S.2 50 ((20 + x1).toNatClampNeg)) = 0 then
            if (S.2 50 ((20 + x1).toNatClampNeg)) = 3 then
              (((sL (sL (sI S 49 4 0) 50 ((20 + x1).toNatClampNeg) 3) 50 ((30 + x1).toNatClampNeg) x2).2 50 ((20 + x1).toNatClampNeg)).toInt32, (sL (sL (sI S 49 4 0) 50 ((20 + x1).toNatClampNeg) 3) 50 ((30 + x1).toNatClampNeg) x2))
            else
              (((sL (sL (sI S 49 4 0) 50 ((20 + x1).toNatClampNeg) ((S.2 50 ((20 + x1).toNatClampNeg)) + 1)) 50 ((30 + x1).toNatClampNeg) x2).2 50 ((20 + x1).toNatClampNeg)).toInt32, (sL (sL (sI S 49 4 0) 50 ((20 + x1).toNatClampNeg) ((S.2 50 ((20 + x1).toNatClampNeg)) + 1)) 50 ((30 + x1).toNatClampNeg) x2))
          else
            if (x2 - (S.2 50 ((30 + x1).toNatClampNeg))) < 14 then
              ((S.2 50 ((20 + x1).toNatClampNeg)).toInt32, (sI S 49 4 0))
            else
              if (S.2 50 ((20 + x1).toNatClampNeg)) = 3 then
                (((sL (sL (sI S 49 4 0) 50 ((20 + x1).toNatClampNeg) 3) 50 ((30 + x1).toNatClampNeg) x2).2 50 ((20 + x1).toNatClampNeg)).toInt32, (sL (sL (sI S 49 4 0) 50 ((20 + x1).toNatClampNeg) 3) 50 ((30 + x1).toNatClampNeg) x2))
              else
                (((sL (sL (sI S 49 4 0) 50 ((20 + x1).toNatClampNeg) ((S.2 50 ((20 + x1).toNatClampNeg)) + 1)) 50 ((30 + x1).toNatClampNeg) x2).2 50 ((20 + x1).toNatClampNeg)).toInt32, (sL (sL (sI S 49 4 0) 50 ((20 + x1).toNatClampNeg) ((S.2 50 ((20 + x1).toNatClampNeg)) + 1)) 50 ((30 + x1).toNatClampNeg) x2))
      else
        if (FMO_isIn (sI S 49 4 0) x2 (S.2 50 ((50 + x1).toNatClampNeg)) (S.2 50 ((60 + x1).toNatClampNeg))) = 0 then
          if (FMO_hasOld (sI S 49 4 0) x1 x2) = 0 then
            (0, (sL (sI S 49 4 0) 50 ((20 + x1).toNatClampNeg) 0))
          else
            if (S.2 50 ((20 + x1).toNatClampNeg)) = 0 then
              if (S.2 50 ((20 + x1).toNatClampNeg)) = 3 then
                (((sL (sL (sI S 49 4 0) 50 ((20 + x1).toNatClampNeg) 3) 50 ((30 + x1).toNatClampNeg) x2).2 50 ((20 + x1).toNatClampNeg)).toInt32, (sL (sL (sI S 49 4 0) 50 ((20 + x1).toNatClampNeg) 3) 50 ((30 + x1).toNatClampNeg) x2))
              else
                (((sL (sL (sI S 49 4 0) 50 ((20 + x1).toNatClampNeg) ((S.2 50 ((20 + x1).toNatClampNeg)) + 1)) 50 ((30 + x1).toNatClampNeg) x2).2 50 ((20 + x1).toNatClampNeg)).toInt32, (sL (sL (sI S 49 4 0) 50 ((20 + x1).toNatClampNeg) ((S.2 50 ((20 + x1).toNatClampNeg)) + 1)) 50 ((30 + x1).toNatClampNeg) x2))
            else
              if (x2 - (S.2 50 ((30 + x1).toNatClampNeg))) < 14 then
                ((S.2 50 ((20 + x1).toNatClampNeg)).toInt32, (sI S 49 4 0))
              else
                if (S.2 50 ((20 + x1).toNatClampNeg)) = 3 then
                  (((sL (sL (sI S 49 4 0) 50 ((20 + x1).toNatClampNeg) 3) 50 ((30 + x1).toNatClampNeg) x2).2 50 ((20 + x1).toNatClampNeg)).toInt32, (sL (sL (sI S 49 4 0) 50 ((20 + x1).toNatClampNeg) 3) 50 ((30 + x1).toNatClampNeg) x2))
                else
                  (((sL (sL (sI S 49 4 0) 50 ((20 + x1).toNatClampNeg) ((S.2 50 ((20 + x1).toNatClampNeg)) + 1)) 50 ((30 + x1).toNatClampNeg) x2).2 50 ((20 + x1).toNatClampNeg)).toInt32, (sL (sL (sI S 49 4 0) 50 ((20 + x1).toNatClampNeg) ((S.2 50 ((20 + x1).toNatClampNeg)) + 1)) 50 ((30 + x1).toNatClampNeg) x2))
        else
          if (FMO_hasOld (sI S 49 4 0) x1 x2) = 0 then
            (0, (sL (sI S 49 4 0) 50 ((20 + x1).toNatClampNeg) 0))
          else
            ((S.2 50 ((20 + x1).toNatClampNeg)).toInt32, (sI S 49 4 0))
theorem FMO_dun_e (S : hS) (x1 : Int32) (x2 : Int64) : FMO_dun S x1 x2 =
  (if (FMO_isHousehold (sI S 49 4 0) x1) = 0 then
    ((-1), (sI S 49 4 0))
  else
    if (FMO_isDay (sI S 49 4 0) x2) = 0 then
      ((-1), (sI S 49 4 0))
    else
      if (S.2 50 ((40 + x1).toNatClampNeg)) ≤ 0 then
        if (FMO_hasOld (sI S 49 4 0) x1 x2) = 0 then
          (0, (sL (sI S 49 4 0) 50 ((20 + x1).toNatClampNeg) 0))
        else
          if (S.2 50 ((20 + x1).toNatClampNeg)) = 0 then
            if (S.2 50 ((20 + x1).toNatClampNeg)) = 3 then
              (((sL (sL (sI S 49 4 0) 50 ((20 + x1).toNatClampNeg) 3) 50 ((30 + x1).toNatClampNeg) x2).2 50 ((20 + x1).toNatClampNeg)).toInt32, (sL (sL (sI S 49 4 0) 50 ((20 + x1).toNatClampNeg) 3) 50 ((30 + x1).toNatClampNeg) x2))
            else
              (((sL (sL (sI S 49 4 0) 50 ((20 + x1).toNatClampNeg) ((S.2 50 ((20 + x1).toNatClampNeg)) + 1)) 50 ((30 + x1).toNatClampNeg) x2).2 50 ((20 + x1).toNatClampNeg)).toInt32, (sL (sL (sI S 49 4 0) 50 ((20 + x1).toNatClampNeg) ((S.2 50 ((20 + x1).toNatClampNeg)) + 1)) 50 ((30 + x1).toNatClampNeg) x2))
          else
            if (x2 - (S.2 50 ((30 + x1).toNatClampNeg))) < 14 then
              ((S.2 50 ((20 + x1).toNatClampNeg)).toInt32, (sI S 49 4 0))
            else
              if (S.2 50 ((20 + x1).toNatClampNeg)) = 3 then
                (((sL (sL (sI S 49 4 0) 50 ((20 + x1).toNatClampNeg) 3) 50 ((30 + x1).toNatClampNeg) x2).2 50 ((20 + x1).toNatClampNeg)).toInt32, (sL (sL (sI S 49 4 0) 50 ((20 + x1).toNatClampNeg) 3) 50 ((30 + x1).toNatClampNeg) x2))
              else
                (((sL (sL (sI S 49 4 0) 50 ((20 + x1).toNatClampNeg) ((S.2 50 ((20 + x1).toNatClampNeg)) + 1)) 50 ((30 + x1).toNatClampNeg) x2).2 50 ((20 + x1).toNatClampNeg)).toInt32, (sL (sL (sI S 49 4 0) 50 ((20 + x1).toNatClampNeg) ((S.2 50 ((20 + x1).toNatClampNeg)) + 1)) 50 ((30 + x1).toNatClampNeg) x2))
      else
        if (FMO_isIn (sI S 49 4 0) x2 (S.2 50 ((50 + x1).toNatClampNeg)) (S.2 50 ((60 + x1).toNatClampNeg))) = 0 then
          if (FMO_hasOld (sI S 49 4 0) x1 x2) = 0 then
            (0, (sL (sI S 49 4 0) 50 ((20 + x1).toNatClampNeg) 0))
          else
            if (S.2 50 ((20 + x1).toNatClampNeg)) = 0 then
              if (S.2 50 ((20 + x1).toNatClampNeg)) = 3 then
                (((sL (sL (sI S 49 4 0) 50 ((20 + x1).toNatClampNeg) 3) 50 ((30 + x1).toNatClampNeg) x2).2 50 ((20 + x1).toNatClampNeg)).toInt32, (sL (sL (sI S 49 4 0) 50 ((20 + x1).toNatClampNeg) 3) 50 ((30 + x1).toNatClampNeg) x2))
              else
                (((sL (sL (sI S 49 4 0) 50 ((20 + x1).toNatClampNeg) ((S.2 50 ((20 + x1).toNatClampNeg)) + 1)) 50 ((30 + x1).toNatClampNeg) x2).2 50 ((20 + x1).toNatClampNeg)).toInt32, (sL (sL (sI S 49 4 0) 50 ((20 + x1).toNatClampNeg) ((S.2 50 ((20 + x1).toNatClampNeg)) + 1)) 50 ((30 + x1).toNatClampNeg) x2))
            else
              if (x2 - (S.2 50 ((30 + x1).toNatClampNeg))) < 14 then
                ((S.2 50 ((20 + x1).toNatClampNeg)).toInt32, (sI S 49 4 0))
              else
                if (S.2 50 ((20 + x1).toNatClampNeg)) = 3 then
                  (((sL (sL (sI S 49 4 0) 50 ((20 + x1).toNatClampNeg) 3) 50 ((30 + x1).toNatClampNeg) x2).2 50 ((20 + x1).toNatClampNeg)).toInt32, (sL (sL (sI S 49 4 0) 50 ((20 + x1).toNatClampNeg) 3) 50 ((30 + x1).toNatClampNeg) x2))
                else
                  (((sL (sL (sI S 49 4 0) 50 ((20 + x1).toNatClampNeg) ((S.2 50 ((20 + x1).toNatClampNeg)) + 1)) 50 ((30 + x1).toNatClampNeg) x2).2 50 ((20 + x1).toNatClampNeg)).toInt32, (sL (sL (sI S 49 4 0) 50 ((20 + x1).toNatClampNeg) ((S.2 50 ((20 + x1).toNatClampNeg)) + 1)) 50 ((30 + x1).toNatClampNeg) x2))
        else
          if (FMO_hasOld (sI S 49 4 0) x1 x2) = 0 then
            (0, (sL (sI S 49 4 0) 50 ((20 + x1).toNatClampNeg) 0))
          else
            ((S.2 50 ((20 + x1).toNatClampNeg)).toInt32, (sI S 49 4 0)) : Int32 × hS) := rfl
def FMO_hardship (S : hS) (x1 : Int32) (x2 : Int64) (x4 : Int64) : Int32 × hS :=
  if (FMO_isHousehold (sI S 49 4 0) x1) = 0 then
    (0, (sI S 49 4 0))
  else
    if x2 ≤ x4 then
      (1, (sL (sL (sL (sI S 49 4 0) 50 ((40 + x1).toNatClampNeg) 1) 50 ((50 + x1).toNatClampNeg) x2) 50 ((60 + x1).toNatClampNeg) x4))
    else
      (0, (sI S 49 4 0))
theorem FMO_hardship_e (S : hS) (x1 : Int32) (x2 : Int64) (x4 : Int64) : FMO_hardship S x1 x2 x4 =
  (if (FMO_isHousehold (sI S 49 4 0) x1) = 0 then
    (0, (sI S 49 4 0))
  else
    if x2 ≤ x4 then
      (1, (sL (sL (sL (sI S 49 4 0) 50 ((40 + x1).toNatClampNeg) 1) 50 ((50 + x1).toNatClampNeg) x2) 50 ((60 + x1).toNatClampNeg) x4))
    else
      (0, (sI S 49 4 0)) : Int32 × hS) := rfl
def LMO_allDue_5 : Nat → hS → Int32 → Int64 → Int32 → Int64 × Int32
  | 0, S, x1, x2, x4 => (0, 0)
  | n + 1, S, x1, x2, x4 =>
    if 240 ≤ x4 then
      (x2, x4)
    else
      if (FMO_isItemOf S x4 x1) = 0 then
        LMO_allDue_5 n S x1 (x2 + 0) (x4 + 1)
      else
        LMO_allDue_5 n S x1 (x2 + (S.2 50 ((780 + x4).toNatClampNeg))) (x4 + 1)
theorem LMO_allDue_5_s (n : Nat) (S : hS) (x1 : Int32) (x2 : Int64) (x4 : Int32) : LMO_allDue_5 (n + 1) S x1 x2 x4 =
    (if 240 ≤ x4 then
      (x2, x4)
    else
      if (FMO_isItemOf S x4 x1) = 0 then
        LMO_allDue_5 n S x1 (x2 + 0) (x4 + 1)
      else
        LMO_allDue_5 n S x1 (x2 + (S.2 50 ((780 + x4).toNatClampNeg))) (x4 + 1) : Int64 × Int32) := rfl
def FMO_allDue (S : hS) (x1 : Int32) : Int64 :=
  (fun (y9_2 : Int64) (y9_4 : Int32) =>
    y9_2) (LMO_allDue_5 300 S x1 0 0).1 (LMO_allDue_5 300 S x1 0 0).2
theorem FMO_allDue_e (S : hS) (x1 : Int32) : FMO_allDue S x1 =
  ((fun (y9_2 : Int64) (y9_4 : Int32) =>
    y9_2) (LMO_allDue_5 300 S x1 0 0).1 (LMO_allDue_5 300 S x1 0 0).2 : Int64) := rfl
def FMO_instal (S : hS) (x1 : Int32) (x2 : Int32) : Int32 × hS :=
  if (FMO_isHousehold (sI S 49 4 0) x1) = 0 then
    ((-1), (sI S 49 4 0))
  else
    if x2 < 1 then
      ((-1), (sI S 49 4 0))
    else
      if 24 < x2 then
        ((-1), (sI S 49 4 0))
      else
        if (S.2 50 3) = 10 then
          ((-1), (sI S 49 4 0))
        else
          if (FMO_allDue (sI S 49 4 0) x1) = 0 then
            ((-1), (sI S 49 4 0))
          else
            ((S.2 50 3).toInt32, (sL (sL (sL (sI S 49 4 0) 50 ((1180 + ((S.2 50 3).toInt32)).toNatClampNeg) (FMO_allDue (sI S 49 4 0) x1)) 50 ((1190 + ((S.2 50 3).toInt32)).toNatClampNeg) x2.toInt64) 50 3 (((sL (sL (sI S 49 4 0) 50 ((1180 + ((S.2 50 3).toInt32)).toNatClampNeg) (FMO_allDue (sI S 49 4 0) x1)) 50 ((1190 + ((S.2 50 3).toInt32)).toNatClampNeg) x2.toInt64).2 50 3) + 1)))
theorem FMO_instal_e (S : hS) (x1 : Int32) (x2 : Int32) : FMO_instal S x1 x2 =
  (if (FMO_isHousehold (sI S 49 4 0) x1) = 0 then
    ((-1), (sI S 49 4 0))
  else
    if x2 < 1 then
      ((-1), (sI S 49 4 0))
    else
      if 24 < x2 then
        ((-1), (sI S 49 4 0))
      else
        if (S.2 50 3) = 10 then
          ((-1), (sI S 49 4 0))
        else
          if (FMO_allDue (sI S 49 4 0) x1) = 0 then
            ((-1), (sI S 49 4 0))
          else
            ((S.2 50 3).toInt32, (sL (sL (sL (sI S 49 4 0) 50 ((1180 + ((S.2 50 3).toInt32)).toNatClampNeg) (FMO_allDue (sI S 49 4 0) x1)) 50 ((1190 + ((S.2 50 3).toInt32)).toNatClampNeg) x2.toInt64) 50 3 (((sL (sL (sI S 49 4 0) 50 ((1180 + ((S.2 50 3).toInt32)).toNatClampNeg) (FMO_allDue (sI S 49 4 0) x1)) 50 ((1190 + ((S.2 50 3).toInt32)).toNatClampNeg) x2.toInt64).2 50 3) + 1))) : Int32 × hS) := rfl
def FMO_due (S : hS) (x1 : Int32) (x2 : Int32) : Int64 × hS :=
  if x1 < 0 then
    ((-1), (sI S 49 4 0))
  else
    if (S.2 50 3) ≤ x1.toInt64 then
      ((-1), (sI S 49 4 0))
    else
      if x2 < 0 then
        ((-1), (sI S 49 4 0))
      else
        if x2.toInt64 < (S.2 50 ((1190 + x1).toNatClampNeg)) then
          if ((S.2 50 ((1180 + x1).toNatClampNeg)) - (S.2 50 ((1180 + x1).toNatClampNeg)) / (S.2 50 ((1190 + x1).toNatClampNeg)) * (S.2 50 ((1190 + x1).toNatClampNeg))) ≤ x2.toInt64 then
            (((S.2 50 ((1180 + x1).toNatClampNeg)) / (S.2 50 ((1190 + x1).toNatClampNeg))) + 0, (sI S 49 4 0))
          else
            (((S.2 50 ((1180 + x1).toNatClampNeg)) / (S.2 50 ((1190 + x1).toNatClampNeg))) + 1, (sI S 49 4 0))
        else
          ((-1), (sI S 49 4 0))
theorem FMO_due_e (S : hS) (x1 : Int32) (x2 : Int32) : FMO_due S x1 x2 =
  (if x1 < 0 then
    ((-1), (sI S 49 4 0))
  else
    if (S.2 50 3) ≤ x1.toInt64 then
      ((-1), (sI S 49 4 0))
    else
      if x2 < 0 then
        ((-1), (sI S 49 4 0))
      else
        if x2.toInt64 < (S.2 50 ((1190 + x1).toNatClampNeg)) then
          if ((S.2 50 ((1180 + x1).toNatClampNeg)) - (S.2 50 ((1180 + x1).toNatClampNeg)) / (S.2 50 ((1190 + x1).toNatClampNeg)) * (S.2 50 ((1190 + x1).toNatClampNeg))) ≤ x2.toInt64 then
            (((S.2 50 ((1180 + x1).toNatClampNeg)) / (S.2 50 ((1190 + x1).toNatClampNeg))) + 0, (sI S 49 4 0))
          else
            (((S.2 50 ((1180 + x1).toNatClampNeg)) / (S.2 50 ((1190 + x1).toNatClampNeg))) + 1, (sI S 49 4 0))
        else
          ((-1), (sI S 49 4 0)) : Int64 × hS) := rfl
def FMO_hasMoved (S : hS) (x1 : Int32) : Int32 :=
  if 0 < (S.2 50 ((70 + x1).toNatClampNeg)) then
    1
  else
    if (S.2 50 ((80 + x1).toNatClampNeg)) ≤ 0 then
      0
    else
      1
theorem FMO_hasMoved_e (S : hS) (x1 : Int32) : FMO_hasMoved S x1 =
  (if 0 < (S.2 50 ((70 + x1).toNatClampNeg)) then
    1
  else
    if (S.2 50 ((80 + x1).toNatClampNeg)) ≤ 0 then
      0
    else
      1 : Int32) := rfl
def FMO_move (S : hS) (x1 : Int32) (x2 : Int32) (x3 : Int64) : Int32 × hS :=
  if (FMO_isHousehold (sI S 49 4 0) x1) = 0 then
    (0, (sI S 49 4 0))
  else
    if (FMO_isHousehold (sI S 49 4 0) x2) = 0 then
      (0, (sI S 49 4 0))
    else
      if x1 = x2 then
        (0, (sI S 49 4 0))
      else
        if (FMO_isDay (sI S 49 4 0) x3) = 0 then
          (0, (sI S 49 4 0))
        else
          if (FMO_hasMoved (sI S 49 4 0) x1) = 0 then
            if (FMO_hasMoved (sI S 49 4 0) x2) = 0 then
              (1, (sL (sL (sI S 49 4 0) 50 ((70 + x1).toNatClampNeg) (x3 + 1)) 50 ((80 + x2).toNatClampNeg) (x3 + 1)))
            else
              (0, (sI S 49 4 0))
          else
            (0, (sI S 49 4 0))
theorem FMO_move_e (S : hS) (x1 : Int32) (x2 : Int32) (x3 : Int64) : FMO_move S x1 x2 x3 =
  (if (FMO_isHousehold (sI S 49 4 0) x1) = 0 then
    (0, (sI S 49 4 0))
  else
    if (FMO_isHousehold (sI S 49 4 0) x2) = 0 then
      (0, (sI S 49 4 0))
    else
      if x1 = x2 then
        (0, (sI S 49 4 0))
      else
        if (FMO_isDay (sI S 49 4 0) x3) = 0 then
          (0, (sI S 49 4 0))
        else
          if (FMO_hasMoved (sI S 49 4 0) x1) = 0 then
            if (FMO_hasMoved (sI S 49 4 0) x2) = 0 then
              (1, (sL (sL (sI S 49 4 0) 50 ((70 + x1).toNatClampNeg) (x3 + 1)) 50 ((80 + x2).toNatClampNeg) (x3 + 1)))
            else
              (0, (sI S 49 4 0))
          else
            (0, (sI S 49 4 0)) : Int32 × hS) := rfl
def LMO_common_6 : Nat → hS → Int64 → Int64 → Int64 → Int64 → Int64 × Int64
  | 0, S, x0, x2, x4, x6 => (0, 0)
  | n + 1, S, x0, x2, x4, x6 =>
    if x4 = 0 then
      (x4, x6)
    else
      LMO_common_6 n S x0 x2 (x6 - x6 / x4 * x4) x4
theorem LMO_common_6_s (n : Nat) (S : hS) (x0 : Int64) (x2 : Int64) (x4 : Int64) (x6 : Int64) : LMO_common_6 (n + 1) S x0 x2 x4 x6 =
    (if x4 = 0 then
      (x4, x6)
    else
      LMO_common_6 n S x0 x2 (x6 - x6 / x4 * x4) x4 : Int64 × Int64) := rfl
def FMO_common (S : hS) (x0 : Int64) (x2 : Int64) : Int64 :=
  (fun (y4_4 : Int64) (y4_6 : Int64) =>
    y4_6) (LMO_common_6 9223372036854775809 S x0 x2 x0 x2).1 (LMO_common_6 9223372036854775809 S x0 x2 x0 x2).2
theorem FMO_common_e (S : hS) (x0 : Int64) (x2 : Int64) : FMO_common S x0 x2 =
  ((fun (y4_4 : Int64) (y4_6 : Int64) =>
    y4_6) (LMO_common_6 9223372036854775809 S x0 x2 x0 x2).1 (LMO_common_6 9223372036854775809 S x0 x2 x0 x2).2 : Int64) := rfl
def FMO_part (S : hS) (x0 : Int64) (x2 : Int64) (x4 : Int32) : Int64 :=
  if x4 = 0 then
    x0 / (FMO_common S x0 x2)
  else
    x2 / (FMO_common S x0 x2)
theorem FMO_part_e (S : hS) (x0 : Int64) (x2 : Int64) (x4 : Int32) : FMO_part S x0 x2 x4 =
  (if x4 = 0 then
    x0 / (FMO_common S x0 x2)
  else
    x2 / (FMO_common S x0 x2) : Int64) := rfl
def LMO_share_45 : Nat → hS → Int32 → Int32 → Int32 → Int32 → Int32 → Int32 × Int32
  | 0, S, x1, x2, x3, x4, x5 => (0, 0)
  | n + 1, S, x1, x2, x3, x4, x5 =>
    if ((30 * x2) + 30) ≤ x5 then
      (x4, x5)
    else
      if (S.2 50 ((70 + x1).toNatClampNeg)) ≤ 0 then
        if (S.2 50 ((80 + x1).toNatClampNeg)) ≤ 0 then
          LMO_share_45 n S x1 x2 x3 (x4 + 1) (x5 + 1)
        else
          if ((S.2 50 ((80 + x1).toNatClampNeg)) - 1) ≤ x5.toInt64 then
            LMO_share_45 n S x1 x2 x3 (x4 + 1) (x5 + 1)
          else
            LMO_share_45 n S x1 x2 x3 (x4 + 0) (x5 + 1)
      else
        if x5.toInt64 < ((S.2 50 ((70 + x1).toNatClampNeg)) - 1) then
          if (S.2 50 ((80 + x1).toNatClampNeg)) ≤ 0 then
            LMO_share_45 n S x1 x2 x3 (x4 + 1) (x5 + 1)
          else
            if ((S.2 50 ((80 + x1).toNatClampNeg)) - 1) ≤ x5.toInt64 then
              LMO_share_45 n S x1 x2 x3 (x4 + 1) (x5 + 1)
            else
              LMO_share_45 n S x1 x2 x3 (x4 + 0) (x5 + 1)
        else
          if (S.2 50 ((80 + x1).toNatClampNeg)) ≤ 0 then
            LMO_share_45 n S x1 x2 x3 (x4 + 0) (x5 + 1)
          else
            if ((S.2 50 ((80 + x1).toNatClampNeg)) - 1) ≤ x5.toInt64 then
              LMO_share_45 n S x1 x2 x3 (x4 + 0) (x5 + 1)
            else
              LMO_share_45 n S x1 x2 x3 (x4 + 0) (x5 + 1)
theorem LMO_share_45_s (n : Nat) (S : hS) (x1 : Int32) (x2 : Int32) (x3 : Int32) (x4 : Int32) (x5 : Int32) : LMO_share_45 (n + 1) S x1 x2 x3 x4 x5 =
    (if ((30 * x2) + 30) ≤ x5 then
      (x4, x5)
    else
      if (S.2 50 ((70 + x1).toNatClampNeg)) ≤ 0 then
        if (S.2 50 ((80 + x1).toNatClampNeg)) ≤ 0 then
          LMO_share_45 n S x1 x2 x3 (x4 + 1) (x5 + 1)
        else
          if ((S.2 50 ((80 + x1).toNatClampNeg)) - 1) ≤ x5.toInt64 then
            LMO_share_45 n S x1 x2 x3 (x4 + 1) (x5 + 1)
          else
            LMO_share_45 n S x1 x2 x3 (x4 + 0) (x5 + 1)
      else
        if x5.toInt64 < ((S.2 50 ((70 + x1).toNatClampNeg)) - 1) then
          if (S.2 50 ((80 + x1).toNatClampNeg)) ≤ 0 then
            LMO_share_45 n S x1 x2 x3 (x4 + 1) (x5 + 1)
          else
            if ((S.2 50 ((80 + x1).toNatClampNeg)) - 1) ≤ x5.toInt64 then
              LMO_share_45 n S x1 x2 x3 (x4 + 1) (x5 + 1)
            else
              LMO_share_45 n S x1 x2 x3 (x4 + 0) (x5 + 1)
        else
          if (S.2 50 ((80 + x1).toNatClampNeg)) ≤ 0 then
            LMO_share_45 n S x1 x2 x3 (x4 + 0) (x5 + 1)
          else
            if ((S.2 50 ((80 + x1).toNatClampNeg)) - 1) ≤ x5.toInt64 then
              LMO_share_45 n S x1 x2 x3 (x4 + 0) (x5 + 1)
            else
              LMO_share_45 n S x1 x2 x3 (x4 + 0) (x5 + 1) : Int32 × Int32) := rfl
def FMO_share (S : hS) (x1 : Int32) (x2 : Int32) (x3 : Int32) : Int64 × hS :=
  if (FMO_isHousehold (sI S 49 4 0) x1) = 0 then
    ((-1), (sI S 49 4 0))
  else
    if x2 < 0 then
      ((-1), (sI S 49 4 0))
    else
      if 120 ≤ x2 then
        ((-1), (sI S 49 4 0))
      else
        if x3 < 0 then
          ((-1), (sI S 49 4 0))
        else
          if x3 ≤ 1 then
            (fun (y42_4 : Int32) (y42_5 : Int32) =>
              (FMO_part (sI S 49 4 0) y42_4.toInt64 30 x3, (sI S 49 4 0))) (LMO_share_45 300 (sI S 49 4 0) x1 x2 x3 0 (30 * x2)).1 (LMO_share_45 300 (sI S 49 4 0) x1 x2 x3 0 (30 * x2)).2
          else
            ((-1), (sI S 49 4 0))
theorem FMO_share_e (S : hS) (x1 : Int32) (x2 : Int32) (x3 : Int32) : FMO_share S x1 x2 x3 =
  (if (FMO_isHousehold (sI S 49 4 0) x1) = 0 then
    ((-1), (sI S 49 4 0))
  else
    if x2 < 0 then
      ((-1), (sI S 49 4 0))
    else
      if 120 ≤ x2 then
        ((-1), (sI S 49 4 0))
      else
        if x3 < 0 then
          ((-1), (sI S 49 4 0))
        else
          if x3 ≤ 1 then
            (fun (y42_4 : Int32) (y42_5 : Int32) =>
              (FMO_part (sI S 49 4 0) y42_4.toInt64 30 x3, (sI S 49 4 0))) (LMO_share_45 300 (sI S 49 4 0) x1 x2 x3 0 (30 * x2)).1 (LMO_share_45 300 (sI S 49 4 0) x1 x2 x3 0 (30 * x2)).2
          else
            ((-1), (sI S 49 4 0)) : Int64 × hS) := rfl
def LMO_batch_16 : Nat → hS → Int32 → Int32 × hS
  | 0, S, x1 => (0, S)
  | n + 1, S, x1 =>
    if 1220 ≤ x1 then
      (x1, S)
    else
      LMO_batch_16 n (sL S 51 x1.toNatClampNeg (S.2 50 x1.toNatClampNeg)) (x1 + 1)
theorem LMO_batch_16_s (n : Nat) (S : hS) (x1 : Int32) : LMO_batch_16 (n + 1) S x1 =
    (if 1220 ≤ x1 then
      (x1, S)
    else
      LMO_batch_16 n (sL S 51 x1.toNatClampNeg (S.2 50 x1.toNatClampNeg)) (x1 + 1) : Int32 × hS) := rfl
def FMO_batch (S : hS)  : Int32 × hS :=
  if (S.1 49 2) = 0 then
    (fun (y7_1 : Int32) (S7 : hS) =>
      (((S7.1 49 3) + 1) - 1, (sI (sI S7 49 2 1) 49 3 ((S7.1 49 3) + 1)))) (LMO_batch_16 1300 (sI S 49 4 0) 0).1 (LMO_batch_16 1300 (sI S 49 4 0) 0).2
  else
    ((-1), (sI S 49 4 0))
theorem FMO_batch_e (S : hS)  : FMO_batch S  =
  (if (S.1 49 2) = 0 then
    (fun (y7_1 : Int32) (S7 : hS) =>
      (((S7.1 49 3) + 1) - 1, (sI (sI S7 49 2 1) 49 3 ((S7.1 49 3) + 1)))) (LMO_batch_16 1300 (sI S 49 4 0) 0).1 (LMO_batch_16 1300 (sI S 49 4 0) 0).2
  else
    ((-1), (sI S 49 4 0)) : Int32 × hS) := rfl
def LMO_endBatch_21 : Nat → hS → Int32 → Int32 → Int32 × hS
  | 0, S, x1, x2 => (0, S)
  | n + 1, S, x1, x2 =>
    if 1220 ≤ x2 then
      (x2, S)
    else
      if x1 = 0 then
        LMO_endBatch_21 n (sL S 50 x2.toNatClampNeg (S.2 51 x2.toNatClampNeg)) x1 (x2 + 1)
      else
        (x2, S)
theorem LMO_endBatch_21_s (n : Nat) (S : hS) (x1 : Int32) (x2 : Int32) : LMO_endBatch_21 (n + 1) S x1 x2 =
    (if 1220 ≤ x2 then
      (x2, S)
    else
      if x1 = 0 then
        LMO_endBatch_21 n (sL S 50 x2.toNatClampNeg (S.2 51 x2.toNatClampNeg)) x1 (x2 + 1)
      else
        (x2, S) : Int32 × hS) := rfl
def FMO_endBatch (S : hS) (x1 : Int32) : Int32 × hS :=
  if (S.1 49 2) = 0 then
    (0, (sI S 49 4 0))
  else
    (fun (y8_2 : Int32) (S8 : hS) =>
      (1, S8)) (LMO_endBatch_21 1300 (sI (sI S 49 4 0) 49 2 0) x1 0).1 (LMO_endBatch_21 1300 (sI (sI S 49 4 0) 49 2 0) x1 0).2
theorem FMO_endBatch_e (S : hS) (x1 : Int32) : FMO_endBatch S x1 =
  (if (S.1 49 2) = 0 then
    (0, (sI S 49 4 0))
  else
    (fun (y8_2 : Int32) (S8 : hS) =>
      (1, S8)) (LMO_endBatch_21 1300 (sI (sI S 49 4 0) 49 2 0) x1 0).1 (LMO_endBatch_21 1300 (sI (sI S 49 4 0) 49 2 0) x1 0).2 : Int32 × hS) := rfl
def FMO_closeMonth (S : hS) (x1 : Int32) : Int32 × hS :=
  if x1.toInt64 = (S.2 50 2) then
    if (S.2 50 2) = 120 then
      (0, (sI S 49 4 0))
    else
      (1, (sL (sI S 49 4 0) 50 2 ((S.2 50 2) + 1)))
  else
    (0, (sI S 49 4 0))
theorem FMO_closeMonth_e (S : hS) (x1 : Int32) : FMO_closeMonth S x1 =
  (if x1.toInt64 = (S.2 50 2) then
    if (S.2 50 2) = 120 then
      (0, (sI S 49 4 0))
    else
      (1, (sL (sI S 49 4 0) 50 2 ((S.2 50 2) + 1)))
  else
    (0, (sI S 49 4 0)) : Int32 × hS) := rfl
def LMO_isPaid_4 : Nat → hS → Int32 → Int32 → Int32 → Int32 × Int32
  | 0, S, x1, x2, x3 => (0, 0)
  | n + 1, S, x1, x2, x3 =>
    if (S.2 50 ((260 + x1).toNatClampNeg)) ≤ x3.toInt64 then
      (x2, x3)
    else
      if x2 = 0 then
        if (FMO_isItem S x1 x3) = 0 then
          LMO_isPaid_4 n S x1 0 (x3 + 1)
        else
          if (S.2 50 (((540 + (6 * x1)) + x3).toNatClampNeg)) ≤ (S.2 50 (((780 + (6 * x1)) + x3).toNatClampNeg)) then
            LMO_isPaid_4 n S x1 0 (x3 + 1)
          else
            LMO_isPaid_4 n S x1 1 (x3 + 1)
      else
        LMO_isPaid_4 n S x1 1 (x3 + 1)
theorem LMO_isPaid_4_s (n : Nat) (S : hS) (x1 : Int32) (x2 : Int32) (x3 : Int32) : LMO_isPaid_4 (n + 1) S x1 x2 x3 =
    (if (S.2 50 ((260 + x1).toNatClampNeg)) ≤ x3.toInt64 then
      (x2, x3)
    else
      if x2 = 0 then
        if (FMO_isItem S x1 x3) = 0 then
          LMO_isPaid_4 n S x1 0 (x3 + 1)
        else
          if (S.2 50 (((540 + (6 * x1)) + x3).toNatClampNeg)) ≤ (S.2 50 (((780 + (6 * x1)) + x3).toNatClampNeg)) then
            LMO_isPaid_4 n S x1 0 (x3 + 1)
          else
            LMO_isPaid_4 n S x1 1 (x3 + 1)
      else
        LMO_isPaid_4 n S x1 1 (x3 + 1) : Int32 × Int32) := rfl
def FMO_isPaid (S : hS) (x1 : Int32) : Int32 :=
  (fun (y17_2 : Int32) (y17_3 : Int32) =>
    y17_2) (LMO_isPaid_4 300 S x1 0 0).1 (LMO_isPaid_4 300 S x1 0 0).2
theorem FMO_isPaid_e (S : hS) (x1 : Int32) : FMO_isPaid S x1 =
  ((fun (y17_2 : Int32) (y17_3 : Int32) =>
    y17_2) (LMO_isPaid_4 300 S x1 0 0).1 (LMO_isPaid_4 300 S x1 0 0).2 : Int32) := rfl
def LMO_reverse_99 : Nat → hS → Int32 → Int64 → Int32 → Int32 → Int32 × hS
  | 0, S, x1, x2, x4, x5 => (0, S)
  | n + 1, S, x1, x2, x4, x5 =>
    if (S.2 50 ((260 + x1).toNatClampNeg)) ≤ x5.toInt64 then
      (x5, S)
    else
      LMO_reverse_99 n (sL (FMO_addRow S x4 ((S.2 50 (((300 + (6 * x1)) + x5).toNatClampNeg)).toInt32) (-(S.2 50 (((540 + (6 * x1)) + x5).toNatClampNeg)))) 50 (((780 + (6 * x1)) + x5).toNatClampNeg) 0) x1 x2 x4 (x5 + 1)
theorem LMO_reverse_99_s (n : Nat) (S : hS) (x1 : Int32) (x2 : Int64) (x4 : Int32) (x5 : Int32) : LMO_reverse_99 (n + 1) S x1 x2 x4 x5 =
    (if (S.2 50 ((260 + x1).toNatClampNeg)) ≤ x5.toInt64 then
      (x5, S)
    else
      LMO_reverse_99 n (sL (FMO_addRow S x4 ((S.2 50 (((300 + (6 * x1)) + x5).toNatClampNeg)).toInt32) (-(S.2 50 (((540 + (6 * x1)) + x5).toNatClampNeg)))) 50 (((780 + (6 * x1)) + x5).toNatClampNeg) 0) x1 x2 x4 (x5 + 1) : Int32 × hS) := rfl
def FMO_reverse (S : hS) (x1 : Int32) (x2 : Int64) : Int32 × hS :=
  if (FMO_isEntry (sI S 49 4 0) x1) = 0 then
    ((-1), (sI S 49 4 0))
  else
    if (S.2 50 ((140 + x1).toNatClampNeg)) = 0 then
      ((-1), (sI S 49 4 0))
    else
      if 0 < (S.2 50 ((220 + x1).toNatClampNeg)) then
        ((-1), (sI S 49 4 0))
      else
        if 0 < (S.2 50 ((180 + x1).toNatClampNeg)) then
          ((-1), (sI S 49 4 0))
        else
          if (FMO_isPaid (sI S 49 4 0) x1) = 0 then
            if (FMO_isDay (sI S 49 4 0) x2) = 0 then
              ((-1), (sI S 49 4 0))
            else
              if (S.2 50 1) = 40 then
                ((-1), (sI S 49 4 0))
              else
                (fun (v15 : Int32) (S15 : hS) =>
                  (fun (y24_5 : Int32) (S24 : hS) =>
                    (v15, (sL (sL S24 50 ((140 + v15).toNatClampNeg) 1) 50 ((220 + x1).toNatClampNeg) 1))) (LMO_reverse_99 300 S15 x1 x2 v15 0).1 (LMO_reverse_99 300 S15 x1 x2 v15 0).2) (FMO_addEntry (sI S 49 4 0) x2 2).1 (FMO_addEntry (sI S 49 4 0) x2 2).2
          else
            ((-1), (sI S 49 4 0))
theorem FMO_reverse_e (S : hS) (x1 : Int32) (x2 : Int64) : FMO_reverse S x1 x2 =
  (if (FMO_isEntry (sI S 49 4 0) x1) = 0 then
    ((-1), (sI S 49 4 0))
  else
    if (S.2 50 ((140 + x1).toNatClampNeg)) = 0 then
      ((-1), (sI S 49 4 0))
    else
      if 0 < (S.2 50 ((220 + x1).toNatClampNeg)) then
        ((-1), (sI S 49 4 0))
      else
        if 0 < (S.2 50 ((180 + x1).toNatClampNeg)) then
          ((-1), (sI S 49 4 0))
        else
          if (FMO_isPaid (sI S 49 4 0) x1) = 0 then
            if (FMO_isDay (sI S 49 4 0) x2) = 0 then
              ((-1), (sI S 49 4 0))
            else
              if (S.2 50 1) = 40 then
                ((-1), (sI S 49 4 0))
              else
                (fun (v15 : Int32) (S15 : hS) =>
                  (fun (y24_5 : Int32) (S24 : hS) =>
                    (v15, (sL (sL S24 50 ((140 + v15).toNatClampNeg) 1) 50 ((220 + x1).toNatClampNeg) 1))) (LMO_reverse_99 300 S15 x1 x2 v15 0).1 (LMO_reverse_99 300 S15 x1 x2 v15 0).2) (FMO_addEntry (sI S 49 4 0) x2 2).1 (FMO_addEntry (sI S 49 4 0) x2 2).2
          else
            ((-1), (sI S 49 4 0)) : Int32 × hS) := rfl
def LMO_interest_41 : Nat → hS → Int32 → Int64 → Int32 → Int64 → Int32 → Int64 × Int32
  | 0, S, x1, x2, x4, x5, x7 => (0, 0)
  | n + 1, S, x1, x2, x4, x5, x7 =>
    if 240 ≤ x7 then
      (x5, x7)
    else
      if (FMO_isItemOf S x7 x1) = 0 then
        LMO_interest_41 n S x1 x2 x4 (x5 + 0) (x7 + 1)
      else
        if ((x2 - (S.2 50 ((100 + (x7 / 6)).toNatClampNeg))) - 30) ≤ 0 then
          LMO_interest_41 n S x1 x2 x4 (x5 + 0) (x7 + 1)
        else
          LMO_interest_41 n S x1 x2 x4 (x5 + (((x2 - (S.2 50 ((100 + (x7 / 6)).toNatClampNeg))) - 30) * (S.2 50 ((780 + x7).toNatClampNeg)))) (x7 + 1)
theorem LMO_interest_41_s (n : Nat) (S : hS) (x1 : Int32) (x2 : Int64) (x4 : Int32) (x5 : Int64) (x7 : Int32) : LMO_interest_41 (n + 1) S x1 x2 x4 x5 x7 =
    (if 240 ≤ x7 then
      (x5, x7)
    else
      if (FMO_isItemOf S x7 x1) = 0 then
        LMO_interest_41 n S x1 x2 x4 (x5 + 0) (x7 + 1)
      else
        if ((x2 - (S.2 50 ((100 + (x7 / 6)).toNatClampNeg))) - 30) ≤ 0 then
          LMO_interest_41 n S x1 x2 x4 (x5 + 0) (x7 + 1)
        else
          LMO_interest_41 n S x1 x2 x4 (x5 + (((x2 - (S.2 50 ((100 + (x7 / 6)).toNatClampNeg))) - 30) * (S.2 50 ((780 + x7).toNatClampNeg)))) (x7 + 1) : Int64 × Int32) := rfl
def FMO_interest (S : hS) (x1 : Int32) (x2 : Int64) (x4 : Int32) : Int64 × hS :=
  if (FMO_isHousehold (sI S 49 4 0) x1) = 0 then
    ((-1), (sI S 49 4 0))
  else
    if (FMO_isDay (sI S 49 4 0) x2) = 0 then
      ((-1), (sI S 49 4 0))
    else
      if x4 < 0 then
        ((-1), (sI S 49 4 0))
      else
        if x4 ≤ 2 then
          (fun (y18_5 : Int64) (y18_7 : Int32) =>
            if 2 ≤ x4 then
              (((2 * (y18_5 * (S.2 50 5))) + (360 * (S.2 50 6))) / (2 * (360 * (S.2 50 6))), (sI S 49 4 0))
            else
              (FMO_part (sI S 49 4 0) (y18_5 * (S.2 50 5)) (360 * (S.2 50 6)) x4, (sI S 49 4 0))) (LMO_interest_41 300 (sI S 49 4 0) x1 x2 x4 0 0).1 (LMO_interest_41 300 (sI S 49 4 0) x1 x2 x4 0 0).2
        else
          ((-1), (sI S 49 4 0))
theorem FMO_interest_e (S : hS) (x1 : Int32) (x2 : Int64) (x4 : Int32) : FMO_interest S x1 x2 x4 =
  (if (FMO_isHousehold (sI S 49 4 0) x1) = 0 then
    ((-1), (sI S 49 4 0))
  else
    if (FMO_isDay (sI S 49 4 0) x2) = 0 then
      ((-1), (sI S 49 4 0))
    else
      if x4 < 0 then
        ((-1), (sI S 49 4 0))
      else
        if x4 ≤ 2 then
          (fun (y18_5 : Int64) (y18_7 : Int32) =>
            if 2 ≤ x4 then
              (((2 * (y18_5 * (S.2 50 5))) + (360 * (S.2 50 6))) / (2 * (360 * (S.2 50 6))), (sI S 49 4 0))
            else
              (FMO_part (sI S 49 4 0) (y18_5 * (S.2 50 5)) (360 * (S.2 50 6)) x4, (sI S 49 4 0))) (LMO_interest_41 300 (sI S 49 4 0) x1 x2 x4 0 0).1 (LMO_interest_41 300 (sI S 49 4 0) x1 x2 x4 0 0).2
        else
          ((-1), (sI S 49 4 0)) : Int64 × hS) := rfl
def FMO_rate (S : hS) (x1 : Int64) (x3 : Int64) : Int32 × hS :=
  if (FMO_isIn (sI S 49 4 0) x1 0 100) = 0 then
    (0, (sI S 49 4 0))
  else
    if (FMO_isIn (sI S 49 4 0) x3 1 100) = 0 then
      (0, (sI S 49 4 0))
    else
      (1, (sL (sL (sI S 49 4 0) 50 5 x1) 50 6 x3))
theorem FMO_rate_e (S : hS) (x1 : Int64) (x3 : Int64) : FMO_rate S x1 x3 =
  (if (FMO_isIn (sI S 49 4 0) x1 0 100) = 0 then
    (0, (sI S 49 4 0))
  else
    if (FMO_isIn (sI S 49 4 0) x3 1 100) = 0 then
      (0, (sI S 49 4 0))
    else
      (1, (sL (sL (sI S 49 4 0) 50 5 x1) 50 6 x3)) : Int32 × hS) := rfl
def LMO_statement_27 : Nat → hS → Int32 → Int32 → Int32 → Int32 → Int32 → Int32 → (Int32) ⊕ (Int32 × Int32)
  | 0, S, x1, x2, x3, x4, x5, x6 => .inr (0, 0)
  | n + 1, S, x1, x2, x3, x4, x5, x6 =>
    if (S.2 50 ((260 + x5).toNatClampNeg)) ≤ x6.toInt64 then
      .inr (x4, x6)
    else
      if (FMO_isAccount S x1) = 0 then
        LMO_statement_27 n S x1 x2 x3 (x4 + 0) x5 (x6 + 1)
      else
        if (S.2 50 ((140 + x5).toNatClampNeg)) ≤ 0 then
          LMO_statement_27 n S x1 x2 x3 (x4 + 0) x5 (x6 + 1)
        else
          if ((S.2 50 ((100 + x5).toNatClampNeg)) / 30) = x2.toInt64 then
            if (S.2 50 (((300 + (6 * x5)) + x6).toNatClampNeg)) = x1.toInt64 then
              if x4 = x3 then
                .inl ((10 * x5) + x6)
              else
                LMO_statement_27 n S x1 x2 x3 (x4 + 1) x5 (x6 + 1)
            else
              LMO_statement_27 n S x1 x2 x3 (x4 + 0) x5 (x6 + 1)
          else
            LMO_statement_27 n S x1 x2 x3 (x4 + 0) x5 (x6 + 1)
theorem LMO_statement_27_s (n : Nat) (S : hS) (x1 : Int32) (x2 : Int32) (x3 : Int32) (x4 : Int32) (x5 : Int32) (x6 : Int32) : LMO_statement_27 (n + 1) S x1 x2 x3 x4 x5 x6 =
    (if (S.2 50 ((260 + x5).toNatClampNeg)) ≤ x6.toInt64 then
      .inr (x4, x6)
    else
      if (FMO_isAccount S x1) = 0 then
        LMO_statement_27 n S x1 x2 x3 (x4 + 0) x5 (x6 + 1)
      else
        if (S.2 50 ((140 + x5).toNatClampNeg)) ≤ 0 then
          LMO_statement_27 n S x1 x2 x3 (x4 + 0) x5 (x6 + 1)
        else
          if ((S.2 50 ((100 + x5).toNatClampNeg)) / 30) = x2.toInt64 then
            if (S.2 50 (((300 + (6 * x5)) + x6).toNatClampNeg)) = x1.toInt64 then
              if x4 = x3 then
                .inl ((10 * x5) + x6)
              else
                LMO_statement_27 n S x1 x2 x3 (x4 + 1) x5 (x6 + 1)
            else
              LMO_statement_27 n S x1 x2 x3 (x4 + 0) x5 (x6 + 1)
          else
            LMO_statement_27 n S x1 x2 x3 (x4 + 0) x5 (x6 + 1) : (Int32) ⊕ (Int32 × Int32)) := rfl
def LMO_statement_11 : Nat → hS → Int32 → Int32 → Int32 → Int32 → Int32 → (Int32) ⊕ (Int32 × Int32)
  | 0, S, x1, x2, x3, x4, x5 => .inr (0, 0)
  | n + 1, S, x1, x2, x3, x4, x5 =>
    if (S.2 50 1) ≤ x5.toInt64 then
      .inr (x4, x5)
    else
      Sum.elim (fun q => .inl q) (fun (qq : Int32 × Int32) => (fun (y24_4 : Int32) (y24_6 : Int32) =>
        LMO_statement_11 n S x1 x2 x3 y24_4 (x5 + 1)) qq.1 qq.2) (LMO_statement_27 300 S x1 x2 x3 x4 x5 0)
theorem LMO_statement_11_s (n : Nat) (S : hS) (x1 : Int32) (x2 : Int32) (x3 : Int32) (x4 : Int32) (x5 : Int32) : LMO_statement_11 (n + 1) S x1 x2 x3 x4 x5 =
    (if (S.2 50 1) ≤ x5.toInt64 then
      .inr (x4, x5)
    else
      Sum.elim (fun q => .inl q) (fun (qq : Int32 × Int32) => (fun (y24_4 : Int32) (y24_6 : Int32) =>
        LMO_statement_11 n S x1 x2 x3 y24_4 (x5 + 1)) qq.1 qq.2) (LMO_statement_27 300 S x1 x2 x3 x4 x5 0) : (Int32) ⊕ (Int32 × Int32)) := rfl
def FMO_statement (S : hS) (x1 : Int32) (x2 : Int32) (x3 : Int32) : Int32 × hS :=
  Sum.elim (fun q => (q, (sI S 49 4 0))) (fun (qq : Int32 × Int32) => (fun (y29_4 : Int32) (y29_5 : Int32) =>
    ((-1), (sI S 49 4 0))) qq.1 qq.2) (LMO_statement_11 300 (sI S 49 4 0) x1 x2 x3 0 0)
theorem FMO_statement_e (S : hS) (x1 : Int32) (x2 : Int32) (x3 : Int32) : FMO_statement S x1 x2 x3 =
  (Sum.elim (fun q => (q, (sI S 49 4 0))) (fun (qq : Int32 × Int32) => (fun (y29_4 : Int32) (y29_5 : Int32) =>
    ((-1), (sI S 49 4 0))) qq.1 qq.2) (LMO_statement_11 300 (sI S 49 4 0) x1 x2 x3 0 0) : Int32 × hS) := rfl
def LMO_tax_26 : Nat → hS → Int32 → Int64 → Int32 → Int32 → Int64 × Int32
  | 0, S, x1, x2, x4, x5 => (0, 0)
  | n + 1, S, x1, x2, x4, x5 =>
    if (S.2 50 ((260 + x4).toNatClampNeg)) ≤ x5.toInt64 then
      (x2, x5)
    else
      if (S.2 50 ((140 + x4).toNatClampNeg)) ≤ 0 then
        LMO_tax_26 n S x1 (x2 + 0) x4 (x5 + 1)
      else
        if ((S.2 50 ((100 + x4).toNatClampNeg)) / 30) = x1.toInt64 then
          if (S.2 50 ((10 + ((S.2 50 ((300 + ((6 * x4) + x5)).toNatClampNeg)).toInt32)).toNatClampNeg)) = 2 then
            LMO_tax_26 n S x1 (x2 + (S.2 50 ((540 + ((6 * x4) + x5)).toNatClampNeg))) x4 (x5 + 1)
          else
            LMO_tax_26 n S x1 (x2 + 0) x4 (x5 + 1)
        else
          LMO_tax_26 n S x1 (x2 + 0) x4 (x5 + 1)
theorem LMO_tax_26_s (n : Nat) (S : hS) (x1 : Int32) (x2 : Int64) (x4 : Int32) (x5 : Int32) : LMO_tax_26 (n + 1) S x1 x2 x4 x5 =
    (if (S.2 50 ((260 + x4).toNatClampNeg)) ≤ x5.toInt64 then
      (x2, x5)
    else
      if (S.2 50 ((140 + x4).toNatClampNeg)) ≤ 0 then
        LMO_tax_26 n S x1 (x2 + 0) x4 (x5 + 1)
      else
        if ((S.2 50 ((100 + x4).toNatClampNeg)) / 30) = x1.toInt64 then
          if (S.2 50 ((10 + ((S.2 50 ((300 + ((6 * x4) + x5)).toNatClampNeg)).toInt32)).toNatClampNeg)) = 2 then
            LMO_tax_26 n S x1 (x2 + (S.2 50 ((540 + ((6 * x4) + x5)).toNatClampNeg))) x4 (x5 + 1)
          else
            LMO_tax_26 n S x1 (x2 + 0) x4 (x5 + 1)
        else
          LMO_tax_26 n S x1 (x2 + 0) x4 (x5 + 1) : Int64 × Int32) := rfl
def LMO_tax_10 : Nat → hS → Int32 → Int64 → Int32 → Int64 × Int32
  | 0, S, x1, x2, x4 => (0, 0)
  | n + 1, S, x1, x2, x4 =>
    if (S.2 50 1) ≤ x4.toInt64 then
      (x2, x4)
    else
      (fun (y21_2 : Int64) (y21_5 : Int32) =>
        LMO_tax_10 n S x1 y21_2 (x4 + 1)) (LMO_tax_26 300 S x1 x2 x4 0).1 (LMO_tax_26 300 S x1 x2 x4 0).2
theorem LMO_tax_10_s (n : Nat) (S : hS) (x1 : Int32) (x2 : Int64) (x4 : Int32) : LMO_tax_10 (n + 1) S x1 x2 x4 =
    (if (S.2 50 1) ≤ x4.toInt64 then
      (x2, x4)
    else
      (fun (y21_2 : Int64) (y21_5 : Int32) =>
        LMO_tax_10 n S x1 y21_2 (x4 + 1)) (LMO_tax_26 300 S x1 x2 x4 0).1 (LMO_tax_26 300 S x1 x2 x4 0).2 : Int64 × Int32) := rfl
def FMO_tax (S : hS) (x1 : Int32) : Int64 × hS :=
  (fun (y26_2 : Int64) (y26_4 : Int32) =>
    if 0 ≤ y26_2 then
      (0, (sI S 49 4 0))
    else
      ((19 * (-y26_2)) / 100, (sI S 49 4 0))) (LMO_tax_10 300 (sI S 49 4 0) x1 0 0).1 (LMO_tax_10 300 (sI S 49 4 0) x1 0 0).2
theorem FMO_tax_e (S : hS) (x1 : Int32) : FMO_tax S x1 =
  ((fun (y26_2 : Int64) (y26_4 : Int32) =>
    if 0 ≤ y26_2 then
      (0, (sI S 49 4 0))
    else
      ((19 * (-y26_2)) / 100, (sI S 49 4 0))) (LMO_tax_10 300 (sI S 49 4 0) x1 0 0).1 (LMO_tax_10 300 (sI S 49 4 0) x1 0 0).2 : Int64 × hS) := rfl
def FMO_found (S : hS) (x1 : Int32) : Int64 × hS :=
  if x1 < 0 then
    ((-1), (sI S 49 4 0))
  else
    if (S.2 50 4) ≤ x1.toInt64 then
      ((-1), (sI S 49 4 0))
    else
      (S.2 50 ((1200 + x1).toNatClampNeg), (sI S 49 4 0))
theorem FMO_found_e (S : hS) (x1 : Int32) : FMO_found S x1 =
  (if x1 < 0 then
    ((-1), (sI S 49 4 0))
  else
    if (S.2 50 4) ≤ x1.toInt64 then
      ((-1), (sI S 49 4 0))
    else
      (S.2 50 ((1200 + x1).toNatClampNeg), (sI S 49 4 0)) : Int64 × hS) := rfl
