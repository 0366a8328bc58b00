/-- all cells but those of ks are as they were -/
def Same (ks : List Nat) (S S' : hS) : Prop := ∀ a, a ∉ ks → S'.1 a = S.1 a ∧ S'.2 a = S.2 a
theorem Same.rf {ks : List Nat} {S : hS} : Same ks S S := fun _ _ => ⟨rfl, rfl⟩
theorem Same.tr {ks : List Nat} {S S' S'' : hS} (h : Same ks S S') (h' : Same ks S' S'') : Same ks S S'' := fun a ha => ⟨(h' a ha).1.trans (h a ha).1, (h' a ha).2.trans (h a ha).2⟩
theorem Same.mo {ks js : List Nat} {S S' : hS} (h : Same ks S S') (hs : ∀ k ∈ ks, k ∈ js) : Same js S S' := fun a ha => h a (fun z => ha (hs a z))
theorem Same.i {ks : List Nat} {S S' : hS} {k j : Nat} {x : Int32} (h : Same ks S S') (hk : k ∈ ks) : Same ks S (sI S' k j x) := fun a ha => by
  have e := sI_off (S := S') (k := k) (j := j) (x := x) (a := a) (fun z => ha (z ▸ hk))
  exact ⟨e.1.symm.trans (h a ha).1, e.2.symm.trans (h a ha).2⟩
theorem Same.l {ks : List Nat} {S S' : hS} {k j : Nat} {x : Int64} (h : Same ks S S') (hk : k ∈ ks) : Same ks S (sL S' k j x) := fun a ha => by
  have e := sL_off (S := S') (k := k) (j := j) (x := x) (a := a) (fun z => ha (z ▸ hk))
  exact ⟨e.1.symm.trans (h a ha).1, e.2.symm.trans (h a ha).2⟩
theorem Same.ci {ks : List Nat} {S S' : hS} {k0 k1 n : Nat} (h : Same ks S S') (hk : k1 ∈ ks) : Same ks S (cpI S' k0 k1 n) := fun a ha => by
  have e : a ≠ k1 := fun z => ha (z ▸ hk)
  exact ⟨by show (if a = k1 then _ else S'.1 a) = S.1 a; rw [if_neg e]; exact (h a ha).1, (h a ha).2⟩
theorem Same.cl {ks : List Nat} {S S' : hS} {k0 k1 n : Nat} (h : Same ks S S') (hk : k1 ∈ ks) : Same ks S (cpL S' k0 k1 n) := fun a ha => by
  have e : a ≠ k1 := fun z => ha (z ▸ hk)
  exact ⟨(h a ha).1, by show (if a = k1 then _ else S'.2 a) = S.2 a; rw [if_neg e]; exact (h a ha).2⟩

theorem fr_FAC_add (S : hS) (x1 : Int32) : Same [2, 3, 4, 5, 6, 7, 8, 9] S (FAC_add S x1).2 := by
  rw [FAC_add_e]
  split
  · exact (Same.i ((Same.i ((Same.i ((Same.l ((Same.l ((Same.i ((Same.i ((Same.i (Same.rf) (by decide))) (by decide))) (by decide))) (by decide))) (by decide))) (by decide))) (by decide))) (by decide))
  · exact Same.rf
theorem fr_FHL_account (S : hS) (x1 : Int32) : Same [2, 3, 4, 5, 6, 7, 8, 9] S (FHL_account S x1).2 := by
  rw [FHL_account_e]
  split
  · exact Same.rf
  · split
    · have hS4 : Same [2, 3, 4, 5, 6, 7, 8, 9] S (FAC_add S x1).2 := Same.tr (Same.rf) (Same.mo (fr_FAC_add S x1) (by decide))
      generalize FAC_add S x1 = q at hS4 ⊢
      obtain ⟨v4, S4⟩ := q
      dsimp only at hS4 ⊢
      exact hS4
    · exact Same.rf
theorem fr_LJO_add_38 : ∀ (n : Nat) (S : hS) (x1 : Int32) (x2 : Int32) (x3 : Int32) (x4 : Int32), Same [10, 11, 12, 13, 14] S (LJO_add_38 n S x1 x2 x3 x4).2
  | 0, S, x1, x2, x3, x4 => Same.rf
  | n + 1, S, x1, x2, x3, x4 => by
    rw [LJO_add_38_s]
    split
    · exact Same.rf
    · split
      · exact Same.rf
      · exact Same.tr ((Same.i (Same.rf) (by decide))) (fr_LJO_add_38 n (sI S 14 x4.toNatClampNeg (S.1 14 ((x4 - 1).toNatClampNeg))) x1 x2 x3 (x4 + (-1)))
theorem fr_FJO_add (S : hS) (x1 : Int32) (x2 : Int32) : Same [10, 11, 12, 13, 14] S (FJO_add S x1 x2).2 := by
  rw [FJO_add_e]
  split
  · have hS14 : Same [10, 11, 12, 13, 14] S (LJO_add_38 300 (sI (sI (sI S 11 ((S.1 10 0).toNatClampNeg) x1) 12 ((S.1 10 0).toNatClampNeg) x2) 13 ((S.1 10 0).toNatClampNeg) 0) x1 x2 (S.1 10 0) (S.1 10 0)).2 := Same.tr ((Same.i ((Same.i ((Same.i (Same.rf) (by decide))) (by decide))) (by decide))) (fr_LJO_add_38 300 (sI (sI (sI S 11 ((S.1 10 0).toNatClampNeg) x1) 12 ((S.1 10 0).toNatClampNeg) x2) 13 ((S.1 10 0).toNatClampNeg) 0) x1 x2 (S.1 10 0) (S.1 10 0))
    generalize LJO_add_38 300 (sI (sI (sI S 11 ((S.1 10 0).toNatClampNeg) x1) 12 ((S.1 10 0).toNatClampNeg) x2) 13 ((S.1 10 0).toNatClampNeg) 0) x1 x2 (S.1 10 0) (S.1 10 0) = q at hS14 ⊢
    obtain ⟨y14_4, S14⟩ := q
    dsimp only at hS14 ⊢
    exact (Same.i ((Same.i (hS14) (by decide))) (by decide))
  · exact Same.rf
theorem fr_FHL_entry (S : hS) (x1 : Int64) : Same [10, 11, 12, 13, 14] S (FHL_entry S x1).2 := by
  rw [FHL_entry_e]
  split
  · exact Same.rf
  · have hS4 : Same [10, 11, 12, 13, 14] S (FJO_add S x1.toInt32 0).2 := Same.tr (Same.rf) (Same.mo (fr_FJO_add S x1.toInt32 0) (by decide))
    generalize FJO_add S x1.toInt32 0 = q at hS4 ⊢
    obtain ⟨v4, S4⟩ := q
    dsimp only at hS4 ⊢
    exact hS4
theorem fr_FJO_addRow (S : hS) (x1 : Int32) (x2 : Int32) (x3 : Int64) : Same [13, 15, 16, 17] S (FJO_addRow S x1 x2 x3).2 := by
  rw [FJO_addRow_e]
  split
  · exact Same.rf
  · split
    · exact Same.rf
    · split
      · exact (Same.i ((Same.l ((Same.l ((Same.i (Same.rf) (by decide))) (by decide))) (by decide))) (by decide))
      · exact Same.rf
theorem fr_FHL_row (S : hS) (x1 : Int32) (x2 : Int32) (x3 : Int64) : Same [13, 15, 16, 17] S (FHL_row S x1 x2 x3).2 := by
  rw [FHL_row_e]
  split
  · exact Same.rf
  · split
    · exact Same.rf
    · split
      · exact Same.rf
      · split
        · exact Same.rf
        · split
          · have hS9 : Same [13, 15, 16, 17] S (FJO_addRow S x1 x2 x3).2 := Same.tr (Same.rf) (Same.mo (fr_FJO_addRow S x1 x2 x3) (by decide))
            generalize FJO_addRow S x1 x2 x3 = q at hS9 ⊢
            obtain ⟨v9, S9⟩ := q
            dsimp only at hS9 ⊢
            exact hS9
          · exact Same.rf
theorem fr_LBO_makeItems_20 : ∀ (n : Nat) (S : hS) (x1 : Int32) (x2 : Int32) (x3 : Int32) (x4 : Int32), Same [17] S (LBO_makeItems_20 n S x1 x2 x3 x4).2
  | 0, S, x1, x2, x3, x4 => Same.rf
  | n + 1, S, x1, x2, x3, x4 => by
    rw [LBO_makeItems_20_s]
    split
    · exact Same.rf
    · split
      · exact Same.tr (Same.rf) (fr_LBO_makeItems_20 n S x1 x2 x3 (x4 + 1))
      · split
        · exact Same.tr (Same.rf) (fr_LBO_makeItems_20 n S x1 x2 x3 (x4 + 1))
        · exact Same.tr ((Same.l (Same.rf) (by decide))) (fr_LBO_makeItems_20 n (sL S 17 x4.toNatClampNeg (S.2 16 x4.toNatClampNeg)) x1 x2 x3 (x4 + 1))
theorem fr_FBO_makeItems (S : hS) (x1 : Int32) : Same [17] S (FBO_makeItems S x1) := by
  rw [FBO_makeItems_e]
  have hS16 : Same [17] S (LBO_makeItems_20 300 S x1 (x1 * 6) ((x1 * 6) + (S.1 13 x1.toNatClampNeg)) (x1 * 6)).2 := Same.tr (Same.rf) (fr_LBO_makeItems_20 300 S x1 (x1 * 6) ((x1 * 6) + (S.1 13 x1.toNatClampNeg)) (x1 * 6))
  generalize LBO_makeItems_20 300 S x1 (x1 * 6) ((x1 * 6) + (S.1 13 x1.toNatClampNeg)) (x1 * 6) = q at hS16 ⊢
  obtain ⟨y16_4, S16⟩ := q
  dsimp only at hS16 ⊢
  exact hS16
theorem fr_FHL_close (S : hS) (x1 : Int32) : Same [12, 17] S (FHL_close S x1).2 := by
  rw [FHL_close_e]
  split
  · exact Same.rf
  · split
    · exact Same.rf
    · split
      · exact (Same.tr ((Same.i (Same.rf) (by decide))) (Same.mo (fr_FBO_makeItems (sI S 12 x1.toNatClampNeg 1) x1) (by decide)))
      · exact Same.rf
theorem fr_FJO_keepGift (S : hS) (x1 : Int32) (x2 : Int32) : Same [10, 18, 19] S (FJO_keepGift S x1 x2) := by
  rw [FJO_keepGift_e]
  split
  · exact Same.rf
  · exact (Same.i ((Same.i ((Same.i (Same.rf) (by decide))) (by decide))) (by decide))
theorem fr_LJO_payItems_15 : ∀ (n : Nat) (S : hS) (x1 : Int32) (x2 : Int32) (x3 : Int64) (x5 : Int64) (x7 : Int32) (x8 : Int32), Same [10, 17, 18, 19] S (LJO_payItems_15 n S x1 x2 x3 x5 x7 x8).2.2
  | 0, S, x1, x2, x3, x5, x7, x8 => Same.rf
  | n + 1, S, x1, x2, x3, x5, x7, x8 => by
    rw [LJO_payItems_15_s]
    split
    · exact Same.rf
    · split
      · exact Same.rf
      · split
        · exact Same.tr (Same.rf) (fr_LJO_payItems_15 n S x1 x2 x3 x5 x7 (x8 + 1))
        · split
          · exact Same.tr (Same.rf) (fr_LJO_payItems_15 n S x1 x2 x3 x5 x7 (x8 + 1))
          · exact Same.tr ((Same.tr ((Same.l (Same.rf) (by decide))) (Same.mo (fr_FJO_keepGift (sL S 17 ((FJO_itemAt S x8 x2).toNatClampNeg) ((S.2 17 ((FJO_itemAt S x8 x2).toNatClampNeg)) - (if (S.2 17 ((FJO_itemAt S x8 x2).toNatClampNeg)) < x5 then (S.2 17 ((FJO_itemAt S x8 x2).toNatClampNeg)) else x5))) x1 (FJO_itemAt S x8 x2)) (by decide)))) (fr_LJO_payItems_15 n (FJO_keepGift (sL S 17 ((FJO_itemAt S x8 x2).toNatClampNeg) ((S.2 17 ((FJO_itemAt S x8 x2).toNatClampNeg)) - (if (S.2 17 ((FJO_itemAt S x8 x2).toNatClampNeg)) < x5 then (S.2 17 ((FJO_itemAt S x8 x2).toNatClampNeg)) else x5))) x1 (FJO_itemAt S x8 x2)) x1 x2 x3 (x5 - (if (S.2 17 ((FJO_itemAt S x8 x2).toNatClampNeg)) < x5 then (S.2 17 ((FJO_itemAt S x8 x2).toNatClampNeg)) else x5)) x7 (x8 + 1))
theorem fr_FJO_payItems (S : hS) (x1 : Int32) (x2 : Int32) (x3 : Int64) : Same [10, 17, 18, 19] S (FJO_payItems S x1 x2 x3) := by
  rw [FJO_payItems_e]
  have hS17 : Same [10, 17, 18, 19] S (LJO_payItems_15 300 S x1 x2 x3 x3 ((S.1 10 0) * 6) 0).2.2 := Same.tr (Same.rf) (fr_LJO_payItems_15 300 S x1 x2 x3 x3 ((S.1 10 0) * 6) 0)
  generalize LJO_payItems_15 300 S x1 x2 x3 x3 ((S.1 10 0) * 6) 0 = q at hS17 ⊢
  obtain ⟨y17_5, y17_8, S17⟩ := q
  dsimp only at hS17 ⊢
  exact hS17
theorem fr_FBO_keepFound (S : hS) (x1 : Int64) : Same [1, 24] S (FBO_keepFound S x1) := by
  rw [FBO_keepFound_e]
  split
  · exact Same.rf
  · exact (Same.i ((Same.l (Same.rf) (by decide))) (by decide))
theorem fr_FHL_payment (S : hS) (x1 : Int32) (x2 : Int64) (x4 : Int64) : Same [1, 10, 11, 12, 13, 14, 15, 16, 17, 18, 19, 24] S (FHL_payment S x1 x2 x4).2 := by
  rw [FHL_payment_e]
  split
  · exact Same.rf
  · split
    · exact Same.rf
    · split
      · exact Same.rf
      · split
        · exact Same.rf
        · split
          · split
            · exact (Same.tr (Same.rf) (Same.mo (fr_FBO_keepFound S x2) (by decide)))
            · have hS12 : Same [1, 10, 11, 12, 13, 14, 15, 16, 17, 18, 19, 24] S (FJO_add S x4.toInt32 2).2 := Same.tr (Same.rf) (Same.mo (fr_FJO_add S x4.toInt32 2) (by decide))
              generalize FJO_add S x4.toInt32 2 = q at hS12 ⊢
              obtain ⟨v12, S12⟩ := q
              dsimp only at hS12 ⊢
              have hS14 : Same [1, 10, 11, 12, 13, 14, 15, 16, 17, 18, 19, 24] S (FJO_addRow S12 v12 (FAC_firstCash S) x2).2 := Same.tr (hS12) (Same.mo (fr_FJO_addRow S12 v12 (FAC_firstCash S) x2) (by decide))
              generalize FJO_addRow S12 v12 (FAC_firstCash S) x2 = q at hS14 ⊢
              obtain ⟨v14, S14⟩ := q
              dsimp only at hS14 ⊢
              have hS16 : Same [1, 10, 11, 12, 13, 14, 15, 16, 17, 18, 19, 24] S (FJO_addRow S14 v12 x1 (-x2)).2 := Same.tr (hS14) (Same.mo (fr_FJO_addRow S14 v12 x1 (-x2)) (by decide))
              generalize FJO_addRow S14 v12 x1 (-x2) = q at hS16 ⊢
              obtain ⟨v16, S16⟩ := q
              dsimp only at hS16 ⊢
              exact (Same.tr (hS16) (Same.mo (fr_FJO_payItems S16 v12 x1 x2) (by decide)))
          · exact Same.rf
theorem fr_FAC_stepUp (S : hS) (x1 : Int32) (x2 : Int32) : Same [4, 5] S (FAC_stepUp S x1 x2) := by
  rw [FAC_stepUp_e]
  exact (Same.i ((Same.i (Same.rf) (by decide))) (by decide))
theorem fr_FHL_dun (S : hS) (x1 : Int32) (x2 : Int64) : Same [4, 5] S (FHL_dun S x1 x2).2 := by
  rw [FHL_dun_e]
  split
  · exact Same.rf
  · split
    · exact Same.rf
    · split
      · exact (Same.i (Same.rf) (by decide))
      · split
        · exact Same.rf
        · exact (Same.tr (Same.rf) (Same.mo (fr_FAC_stepUp S x1 x2.toInt32) (by decide)))
theorem fr_FHL_hardship (S : hS) (x1 : Int32) (x2 : Int64) (x4 : Int64) : Same [6, 7] S (FHL_hardship S x1 x2 x4).2 := by
  rw [FHL_hardship_e]
  split
  · exact Same.rf
  · split
    · exact (Same.l ((Same.l (Same.rf) (by decide))) (by decide))
    · exact Same.rf
theorem fr_FPL_add (S : hS) (x1 : Int64) (x3 : Int32) : Same [20, 21, 22, 23] S (FPL_add S x1 x3).2 := by
  rw [FPL_add_e]
  split
  · exact Same.rf
  · split
    · exact (Same.i ((Same.l ((Same.l ((Same.i (Same.rf) (by decide))) (by decide))) (by decide))) (by decide))
    · exact Same.rf
theorem fr_FHL_instal (S : hS) (x1 : Int32) (x2 : Int32) : Same [20, 21, 22, 23] S (FHL_instal S x1 x2).2 := by
  rw [FHL_instal_e]
  split
  · exact Same.rf
  · split
    · exact Same.rf
    · split
      · split
        · exact Same.rf
        · have hS8 : Same [20, 21, 22, 23] S (FPL_add S (FJO_dueOf S x1) x2).2 := Same.tr (Same.rf) (Same.mo (fr_FPL_add S (FJO_dueOf S x1) x2) (by decide))
          generalize FPL_add S (FJO_dueOf S x1) x2 = q at hS8 ⊢
          obtain ⟨v8, S8⟩ := q
          dsimp only at hS8 ⊢
          exact hS8
      · exact Same.rf
theorem fr_FHL_move (S : hS) (x1 : Int32) (x2 : Int32) (x3 : Int64) : Same [8, 9] S (FHL_move S x1 x2 x3).2 := by
  rw [FHL_move_e]
  split
  · exact Same.rf
  · split
    · exact Same.rf
    · split
      · exact Same.rf
      · split
        · exact Same.rf
        · split
          · split
            · exact (Same.i ((Same.i (Same.rf) (by decide))) (by decide))
            · exact Same.rf
          · exact Same.rf
theorem fr_FHL_copyInts_3_27 (S : hS)  : Same [27] S (FHL_copyInts_3_27 S) := by
  rw [FHL_copyInts_3_27_e]
  exact (Same.ci (Same.rf) (by decide))
theorem fr_FHL_copyInts_4_28 (S : hS)  : Same [28] S (FHL_copyInts_4_28 S) := by
  rw [FHL_copyInts_4_28_e]
  exact (Same.ci (Same.rf) (by decide))
theorem fr_FHL_copyInts_5_29 (S : hS)  : Same [29] S (FHL_copyInts_5_29 S) := by
  rw [FHL_copyInts_5_29_e]
  exact (Same.ci (Same.rf) (by decide))
theorem fr_FHL_copyLongs_6_30 (S : hS)  : Same [30] S (FHL_copyLongs_6_30 S) := by
  rw [FHL_copyLongs_6_30_e]
  exact (Same.cl (Same.rf) (by decide))
theorem fr_FHL_copyLongs_7_31 (S : hS)  : Same [31] S (FHL_copyLongs_7_31 S) := by
  rw [FHL_copyLongs_7_31_e]
  exact (Same.cl (Same.rf) (by decide))
theorem fr_FHL_copyInts_8_32 (S : hS)  : Same [32] S (FHL_copyInts_8_32 S) := by
  rw [FHL_copyInts_8_32_e]
  exact (Same.ci (Same.rf) (by decide))
theorem fr_FHL_copyInts_9_33 (S : hS)  : Same [33] S (FHL_copyInts_9_33 S) := by
  rw [FHL_copyInts_9_33_e]
  exact (Same.ci (Same.rf) (by decide))
theorem fr_FAC_copyFrom_26_2 (S : hS)  : Same [26, 27, 28, 29, 30, 31, 32, 33] S (FAC_copyFrom_26_2 S) := by
  rw [FAC_copyFrom_26_2_e]
  exact (Same.tr ((Same.tr ((Same.tr ((Same.tr ((Same.tr ((Same.tr ((Same.tr ((Same.i (Same.rf) (by decide))) (Same.mo (fr_FHL_copyInts_3_27 (sI S 26 0 (S.1 2 0))) (by decide)))) (Same.mo (fr_FHL_copyInts_4_28 (FHL_copyInts_3_27 (sI S 26 0 (S.1 2 0)))) (by decide)))) (Same.mo (fr_FHL_copyInts_5_29 (FHL_copyInts_4_28 (FHL_copyInts_3_27 (sI S 26 0 (S.1 2 0))))) (by decide)))) (Same.mo (fr_FHL_copyLongs_6_30 (FHL_copyInts_5_29 (FHL_copyInts_4_28 (FHL_copyInts_3_27 (sI S 26 0 (S.1 2 0)))))) (by decide)))) (Same.mo (fr_FHL_copyLongs_7_31 (FHL_copyLongs_6_30 (FHL_copyInts_5_29 (FHL_copyInts_4_28 (FHL_copyInts_3_27 (sI S 26 0 (S.1 2 0))))))) (by decide)))) (Same.mo (fr_FHL_copyInts_8_32 (FHL_copyLongs_7_31 (FHL_copyLongs_6_30 (FHL_copyInts_5_29 (FHL_copyInts_4_28 (FHL_copyInts_3_27 (sI S 26 0 (S.1 2 0)))))))) (by decide)))) (Same.mo (fr_FHL_copyInts_9_33 (FHL_copyInts_8_32 (FHL_copyLongs_7_31 (FHL_copyLongs_6_30 (FHL_copyInts_5_29 (FHL_copyInts_4_28 (FHL_copyInts_3_27 (sI S 26 0 (S.1 2 0))))))))) (by decide)))
theorem fr_FHL_copyInts_11_35 (S : hS)  : Same [35] S (FHL_copyInts_11_35 S) := by
  rw [FHL_copyInts_11_35_e]
  exact (Same.ci (Same.rf) (by decide))
theorem fr_FHL_copyInts_12_36 (S : hS)  : Same [36] S (FHL_copyInts_12_36 S) := by
  rw [FHL_copyInts_12_36_e]
  exact (Same.ci (Same.rf) (by decide))
theorem fr_FHL_copyInts_13_37 (S : hS)  : Same [37] S (FHL_copyInts_13_37 S) := by
  rw [FHL_copyInts_13_37_e]
  exact (Same.ci (Same.rf) (by decide))
theorem fr_FHL_copyInts_14_38 (S : hS)  : Same [38] S (FHL_copyInts_14_38 S) := by
  rw [FHL_copyInts_14_38_e]
  exact (Same.ci (Same.rf) (by decide))
theorem fr_FHL_copyInts_15_39 (S : hS)  : Same [39] S (FHL_copyInts_15_39 S) := by
  rw [FHL_copyInts_15_39_e]
  exact (Same.ci (Same.rf) (by decide))
theorem fr_FHL_copyLongs_16_40 (S : hS)  : Same [40] S (FHL_copyLongs_16_40 S) := by
  rw [FHL_copyLongs_16_40_e]
  exact (Same.cl (Same.rf) (by decide))
theorem fr_FHL_copyLongs_17_41 (S : hS)  : Same [41] S (FHL_copyLongs_17_41 S) := by
  rw [FHL_copyLongs_17_41_e]
  exact (Same.cl (Same.rf) (by decide))
theorem fr_FHL_copyInts_18_42 (S : hS)  : Same [42] S (FHL_copyInts_18_42 S) := by
  rw [FHL_copyInts_18_42_e]
  exact (Same.ci (Same.rf) (by decide))
theorem fr_FHL_copyInts_19_43 (S : hS)  : Same [43] S (FHL_copyInts_19_43 S) := by
  rw [FHL_copyInts_19_43_e]
  exact (Same.ci (Same.rf) (by decide))
theorem fr_FJO_copyFrom_34_10 (S : hS)  : Same [34, 35, 36, 37, 38, 39, 40, 41, 42, 43] S (FJO_copyFrom_34_10 S) := by
  rw [FJO_copyFrom_34_10_e]
  exact (Same.tr ((Same.tr ((Same.i ((Same.tr ((Same.tr ((Same.tr ((Same.tr ((Same.tr ((Same.tr ((Same.tr ((Same.i (Same.rf) (by decide))) (Same.mo (fr_FHL_copyInts_11_35 (sI S 34 0 (S.1 10 0))) (by decide)))) (Same.mo (fr_FHL_copyInts_12_36 (FHL_copyInts_11_35 (sI S 34 0 (S.1 10 0)))) (by decide)))) (Same.mo (fr_FHL_copyInts_13_37 (FHL_copyInts_12_36 (FHL_copyInts_11_35 (sI S 34 0 (S.1 10 0))))) (by decide)))) (Same.mo (fr_FHL_copyInts_14_38 (FHL_copyInts_13_37 (FHL_copyInts_12_36 (FHL_copyInts_11_35 (sI S 34 0 (S.1 10 0)))))) (by decide)))) (Same.mo (fr_FHL_copyInts_15_39 (FHL_copyInts_14_38 (FHL_copyInts_13_37 (FHL_copyInts_12_36 (FHL_copyInts_11_35 (sI S 34 0 (S.1 10 0))))))) (by decide)))) (Same.mo (fr_FHL_copyLongs_16_40 (FHL_copyInts_15_39 (FHL_copyInts_14_38 (FHL_copyInts_13_37 (FHL_copyInts_12_36 (FHL_copyInts_11_35 (sI S 34 0 (S.1 10 0)))))))) (by decide)))) (Same.mo (fr_FHL_copyLongs_17_41 (FHL_copyLongs_16_40 (FHL_copyInts_15_39 (FHL_copyInts_14_38 (FHL_copyInts_13_37 (FHL_copyInts_12_36 (FHL_copyInts_11_35 (sI S 34 0 (S.1 10 0))))))))) (by decide)))) (by decide))) (Same.mo (fr_FHL_copyInts_18_42 (sI (FHL_copyLongs_17_41 (FHL_copyLongs_16_40 (FHL_copyInts_15_39 (FHL_copyInts_14_38 (FHL_copyInts_13_37 (FHL_copyInts_12_36 (FHL_copyInts_11_35 (sI S 34 0 (S.1 10 0))))))))) 34 8 ((FHL_copyLongs_17_41 (FHL_copyLongs_16_40 (FHL_copyInts_15_39 (FHL_copyInts_14_38 (FHL_copyInts_13_37 (FHL_copyInts_12_36 (FHL_copyInts_11_35 (sI S 34 0 (S.1 10 0))))))))).1 10 8))) (by decide)))) (Same.mo (fr_FHL_copyInts_19_43 (FHL_copyInts_18_42 (sI (FHL_copyLongs_17_41 (FHL_copyLongs_16_40 (FHL_copyInts_15_39 (FHL_copyInts_14_38 (FHL_copyInts_13_37 (FHL_copyInts_12_36 (FHL_copyInts_11_35 (sI S 34 0 (S.1 10 0))))))))) 34 8 ((FHL_copyLongs_17_41 (FHL_copyLongs_16_40 (FHL_copyInts_15_39 (FHL_copyInts_14_38 (FHL_copyInts_13_37 (FHL_copyInts_12_36 (FHL_copyInts_11_35 (sI S 34 0 (S.1 10 0))))))))).1 10 8)))) (by decide)))
theorem fr_FHL_copyInts_21_45 (S : hS)  : Same [45] S (FHL_copyInts_21_45 S) := by
  rw [FHL_copyInts_21_45_e]
  exact (Same.ci (Same.rf) (by decide))
theorem fr_FHL_copyLongs_22_46 (S : hS)  : Same [46] S (FHL_copyLongs_22_46 S) := by
  rw [FHL_copyLongs_22_46_e]
  exact (Same.cl (Same.rf) (by decide))
theorem fr_FHL_copyLongs_23_47 (S : hS)  : Same [47] S (FHL_copyLongs_23_47 S) := by
  rw [FHL_copyLongs_23_47_e]
  exact (Same.cl (Same.rf) (by decide))
theorem fr_FPL_copyFrom_44_20 (S : hS)  : Same [44, 45, 46, 47] S (FPL_copyFrom_44_20 S) := by
  rw [FPL_copyFrom_44_20_e]
  exact (Same.tr ((Same.tr ((Same.tr ((Same.i (Same.rf) (by decide))) (Same.mo (fr_FHL_copyInts_21_45 (sI S 44 0 (S.1 20 0))) (by decide)))) (Same.mo (fr_FHL_copyLongs_22_46 (FHL_copyInts_21_45 (sI S 44 0 (S.1 20 0)))) (by decide)))) (Same.mo (fr_FHL_copyLongs_23_47 (FHL_copyLongs_22_46 (FHL_copyInts_21_45 (sI S 44 0 (S.1 20 0))))) (by decide)))
theorem fr_FHL_copyLongs_24_48 (S : hS)  : Same [48] S (FHL_copyLongs_24_48 S) := by
  rw [FHL_copyLongs_24_48_e]
  exact (Same.cl (Same.rf) (by decide))
theorem fr_FBO_copyFrom_25_1 (S : hS)  : Same [25, 26, 27, 28, 29, 30, 31, 32, 33, 34, 35, 36, 37, 38, 39, 40, 41, 42, 43, 44, 45, 46, 47, 48] S (FBO_copyFrom_25_1 S) := by
  rw [FBO_copyFrom_25_1_e]
  exact (Same.l ((Same.l ((Same.i ((Same.i ((Same.tr ((Same.tr ((Same.tr ((Same.tr (Same.rf) (Same.mo (fr_FAC_copyFrom_26_2 S) (by decide)))) (Same.mo (fr_FJO_copyFrom_34_10 (FAC_copyFrom_26_2 S)) (by decide)))) (Same.mo (fr_FPL_copyFrom_44_20 (FJO_copyFrom_34_10 (FAC_copyFrom_26_2 S))) (by decide)))) (Same.mo (fr_FHL_copyLongs_24_48 (FPL_copyFrom_44_20 (FJO_copyFrom_34_10 (FAC_copyFrom_26_2 S)))) (by decide)))) (by decide))) (by decide))) (by decide))) (by decide))
theorem fr_FHL_batch (S : hS)  : Same [0, 25, 26, 27, 28, 29, 30, 31, 32, 33, 34, 35, 36, 37, 38, 39, 40, 41, 42, 43, 44, 45, 46, 47, 48] S (FHL_batch S).2 := by
  rw [FHL_batch_e]
  split
  · exact (Same.i ((Same.i ((Same.tr (Same.rf) (Same.mo (fr_FBO_copyFrom_25_1 S) (by decide)))) (by decide))) (by decide))
  · exact Same.rf
theorem fr_FHL_copyInts_27_3 (S : hS)  : Same [3] S (FHL_copyInts_27_3 S) := by
  rw [FHL_copyInts_27_3_e]
  exact (Same.ci (Same.rf) (by decide))
theorem fr_FHL_copyInts_28_4 (S : hS)  : Same [4] S (FHL_copyInts_28_4 S) := by
  rw [FHL_copyInts_28_4_e]
  exact (Same.ci (Same.rf) (by decide))
theorem fr_FHL_copyInts_29_5 (S : hS)  : Same [5] S (FHL_copyInts_29_5 S) := by
  rw [FHL_copyInts_29_5_e]
  exact (Same.ci (Same.rf) (by decide))
theorem fr_FHL_copyLongs_30_6 (S : hS)  : Same [6] S (FHL_copyLongs_30_6 S) := by
  rw [FHL_copyLongs_30_6_e]
  exact (Same.cl (Same.rf) (by decide))
theorem fr_FHL_copyLongs_31_7 (S : hS)  : Same [7] S (FHL_copyLongs_31_7 S) := by
  rw [FHL_copyLongs_31_7_e]
  exact (Same.cl (Same.rf) (by decide))
theorem fr_FHL_copyInts_32_8 (S : hS)  : Same [8] S (FHL_copyInts_32_8 S) := by
  rw [FHL_copyInts_32_8_e]
  exact (Same.ci (Same.rf) (by decide))
theorem fr_FHL_copyInts_33_9 (S : hS)  : Same [9] S (FHL_copyInts_33_9 S) := by
  rw [FHL_copyInts_33_9_e]
  exact (Same.ci (Same.rf) (by decide))
theorem fr_FAC_copyFrom_2_26 (S : hS)  : Same [2, 3, 4, 5, 6, 7, 8, 9] S (FAC_copyFrom_2_26 S) := by
  rw [FAC_copyFrom_2_26_e]
  exact (Same.tr ((Same.tr ((Same.tr ((Same.tr ((Same.tr ((Same.tr ((Same.tr ((Same.i (Same.rf) (by decide))) (Same.mo (fr_FHL_copyInts_27_3 (sI S 2 0 (S.1 26 0))) (by decide)))) (Same.mo (fr_FHL_copyInts_28_4 (FHL_copyInts_27_3 (sI S 2 0 (S.1 26 0)))) (by decide)))) (Same.mo (fr_FHL_copyInts_29_5 (FHL_copyInts_28_4 (FHL_copyInts_27_3 (sI S 2 0 (S.1 26 0))))) (by decide)))) (Same.mo (fr_FHL_copyLongs_30_6 (FHL_copyInts_29_5 (FHL_copyInts_28_4 (FHL_copyInts_27_3 (sI S 2 0 (S.1 26 0)))))) (by decide)))) (Same.mo (fr_FHL_copyLongs_31_7 (FHL_copyLongs_30_6 (FHL_copyInts_29_5 (FHL_copyInts_28_4 (FHL_copyInts_27_3 (sI S 2 0 (S.1 26 0))))))) (by decide)))) (Same.mo (fr_FHL_copyInts_32_8 (FHL_copyLongs_31_7 (FHL_copyLongs_30_6 (FHL_copyInts_29_5 (FHL_copyInts_28_4 (FHL_copyInts_27_3 (sI S 2 0 (S.1 26 0)))))))) (by decide)))) (Same.mo (fr_FHL_copyInts_33_9 (FHL_copyInts_32_8 (FHL_copyLongs_31_7 (FHL_copyLongs_30_6 (FHL_copyInts_29_5 (FHL_copyInts_28_4 (FHL_copyInts_27_3 (sI S 2 0 (S.1 26 0))))))))) (by decide)))
theorem fr_FHL_copyInts_35_11 (S : hS)  : Same [11] S (FHL_copyInts_35_11 S) := by
  rw [FHL_copyInts_35_11_e]
  exact (Same.ci (Same.rf) (by decide))
theorem fr_FHL_copyInts_36_12 (S : hS)  : Same [12] S (FHL_copyInts_36_12 S) := by
  rw [FHL_copyInts_36_12_e]
  exact (Same.ci (Same.rf) (by decide))
theorem fr_FHL_copyInts_37_13 (S : hS)  : Same [13] S (FHL_copyInts_37_13 S) := by
  rw [FHL_copyInts_37_13_e]
  exact (Same.ci (Same.rf) (by decide))
theorem fr_FHL_copyInts_38_14 (S : hS)  : Same [14] S (FHL_copyInts_38_14 S) := by
  rw [FHL_copyInts_38_14_e]
  exact (Same.ci (Same.rf) (by decide))
theorem fr_FHL_copyInts_39_15 (S : hS)  : Same [15] S (FHL_copyInts_39_15 S) := by
  rw [FHL_copyInts_39_15_e]
  exact (Same.ci (Same.rf) (by decide))
theorem fr_FHL_copyLongs_40_16 (S : hS)  : Same [16] S (FHL_copyLongs_40_16 S) := by
  rw [FHL_copyLongs_40_16_e]
  exact (Same.cl (Same.rf) (by decide))
theorem fr_FHL_copyLongs_41_17 (S : hS)  : Same [17] S (FHL_copyLongs_41_17 S) := by
  rw [FHL_copyLongs_41_17_e]
  exact (Same.cl (Same.rf) (by decide))
theorem fr_FHL_copyInts_42_18 (S : hS)  : Same [18] S (FHL_copyInts_42_18 S) := by
  rw [FHL_copyInts_42_18_e]
  exact (Same.ci (Same.rf) (by decide))
theorem fr_FHL_copyInts_43_19 (S : hS)  : Same [19] S (FHL_copyInts_43_19 S) := by
  rw [FHL_copyInts_43_19_e]
  exact (Same.ci (Same.rf) (by decide))
theorem fr_FJO_copyFrom_10_34 (S : hS)  : Same [10, 11, 12, 13, 14, 15, 16, 17, 18, 19] S (FJO_copyFrom_10_34 S) := by
  rw [FJO_copyFrom_10_34_e]
  exact (Same.tr ((Same.tr ((Same.i ((Same.tr ((Same.tr ((Same.tr ((Same.tr ((Same.tr ((Same.tr ((Same.tr ((Same.i (Same.rf) (by decide))) (Same.mo (fr_FHL_copyInts_35_11 (sI S 10 0 (S.1 34 0))) (by decide)))) (Same.mo (fr_FHL_copyInts_36_12 (FHL_copyInts_35_11 (sI S 10 0 (S.1 34 0)))) (by decide)))) (Same.mo (fr_FHL_copyInts_37_13 (FHL_copyInts_36_12 (FHL_copyInts_35_11 (sI S 10 0 (S.1 34 0))))) (by decide)))) (Same.mo (fr_FHL_copyInts_38_14 (FHL_copyInts_37_13 (FHL_copyInts_36_12 (FHL_copyInts_35_11 (sI S 10 0 (S.1 34 0)))))) (by decide)))) (Same.mo (fr_FHL_copyInts_39_15 (FHL_copyInts_38_14 (FHL_copyInts_37_13 (FHL_copyInts_36_12 (FHL_copyInts_35_11 (sI S 10 0 (S.1 34 0))))))) (by decide)))) (Same.mo (fr_FHL_copyLongs_40_16 (FHL_copyInts_39_15 (FHL_copyInts_38_14 (FHL_copyInts_37_13 (FHL_copyInts_36_12 (FHL_copyInts_35_11 (sI S 10 0 (S.1 34 0)))))))) (by decide)))) (Same.mo (fr_FHL_copyLongs_41_17 (FHL_copyLongs_40_16 (FHL_copyInts_39_15 (FHL_copyInts_38_14 (FHL_copyInts_37_13 (FHL_copyInts_36_12 (FHL_copyInts_35_11 (sI S 10 0 (S.1 34 0))))))))) (by decide)))) (by decide))) (Same.mo (fr_FHL_copyInts_42_18 (sI (FHL_copyLongs_41_17 (FHL_copyLongs_40_16 (FHL_copyInts_39_15 (FHL_copyInts_38_14 (FHL_copyInts_37_13 (FHL_copyInts_36_12 (FHL_copyInts_35_11 (sI S 10 0 (S.1 34 0))))))))) 10 8 ((FHL_copyLongs_41_17 (FHL_copyLongs_40_16 (FHL_copyInts_39_15 (FHL_copyInts_38_14 (FHL_copyInts_37_13 (FHL_copyInts_36_12 (FHL_copyInts_35_11 (sI S 10 0 (S.1 34 0))))))))).1 34 8))) (by decide)))) (Same.mo (fr_FHL_copyInts_43_19 (FHL_copyInts_42_18 (sI (FHL_copyLongs_41_17 (FHL_copyLongs_40_16 (FHL_copyInts_39_15 (FHL_copyInts_38_14 (FHL_copyInts_37_13 (FHL_copyInts_36_12 (FHL_copyInts_35_11 (sI S 10 0 (S.1 34 0))))))))) 10 8 ((FHL_copyLongs_41_17 (FHL_copyLongs_40_16 (FHL_copyInts_39_15 (FHL_copyInts_38_14 (FHL_copyInts_37_13 (FHL_copyInts_36_12 (FHL_copyInts_35_11 (sI S 10 0 (S.1 34 0))))))))).1 34 8)))) (by decide)))
theorem fr_FHL_copyInts_45_21 (S : hS)  : Same [21] S (FHL_copyInts_45_21 S) := by
  rw [FHL_copyInts_45_21_e]
  exact (Same.ci (Same.rf) (by decide))
theorem fr_FHL_copyLongs_46_22 (S : hS)  : Same [22] S (FHL_copyLongs_46_22 S) := by
  rw [FHL_copyLongs_46_22_e]
  exact (Same.cl (Same.rf) (by decide))
theorem fr_FHL_copyLongs_47_23 (S : hS)  : Same [23] S (FHL_copyLongs_47_23 S) := by
  rw [FHL_copyLongs_47_23_e]
  exact (Same.cl (Same.rf) (by decide))
theorem fr_FPL_copyFrom_20_44 (S : hS)  : Same [20, 21, 22, 23] S (FPL_copyFrom_20_44 S) := by
  rw [FPL_copyFrom_20_44_e]
  exact (Same.tr ((Same.tr ((Same.tr ((Same.i (Same.rf) (by decide))) (Same.mo (fr_FHL_copyInts_45_21 (sI S 20 0 (S.1 44 0))) (by decide)))) (Same.mo (fr_FHL_copyLongs_46_22 (FHL_copyInts_45_21 (sI S 20 0 (S.1 44 0)))) (by decide)))) (Same.mo (fr_FHL_copyLongs_47_23 (FHL_copyLongs_46_22 (FHL_copyInts_45_21 (sI S 20 0 (S.1 44 0))))) (by decide)))
theorem fr_FHL_copyLongs_48_24 (S : hS)  : Same [24] S (FHL_copyLongs_48_24 S) := by
  rw [FHL_copyLongs_48_24_e]
  exact (Same.cl (Same.rf) (by decide))
theorem fr_FBO_copyFrom_1_25 (S : hS)  : Same [1, 2, 3, 4, 5, 6, 7, 8, 9, 10, 11, 12, 13, 14, 15, 16, 17, 18, 19, 20, 21, 22, 23, 24] S (FBO_copyFrom_1_25 S) := by
  rw [FBO_copyFrom_1_25_e]
  exact (Same.l ((Same.l ((Same.i ((Same.i ((Same.tr ((Same.tr ((Same.tr ((Same.tr (Same.rf) (Same.mo (fr_FAC_copyFrom_2_26 S) (by decide)))) (Same.mo (fr_FJO_copyFrom_10_34 (FAC_copyFrom_2_26 S)) (by decide)))) (Same.mo (fr_FPL_copyFrom_20_44 (FJO_copyFrom_10_34 (FAC_copyFrom_2_26 S))) (by decide)))) (Same.mo (fr_FHL_copyLongs_48_24 (FPL_copyFrom_20_44 (FJO_copyFrom_10_34 (FAC_copyFrom_2_26 S)))) (by decide)))) (by decide))) (by decide))) (by decide))) (by decide))
theorem fr_FHL_endBatch (S : hS) (x1 : Int32) : Same [0, 1, 2, 3, 4, 5, 6, 7, 8, 9, 10, 11, 12, 13, 14, 15, 16, 17, 18, 19, 20, 21, 22, 23, 24] S (FHL_endBatch S x1).2 := by
  rw [FHL_endBatch_e]
  split
  · exact Same.rf
  · split
    · exact (Same.i ((Same.tr (Same.rf) (Same.mo (fr_FBO_copyFrom_1_25 S) (by decide)))) (by decide))
    · exact (Same.i (Same.rf) (by decide))
theorem fr_FHL_closeMonth (S : hS) (x1 : Int32) : Same [1] S (FHL_closeMonth S x1).2 := by
  rw [FHL_closeMonth_e]
  split
  · split
    · exact (Same.i (Same.rf) (by decide))
    · exact Same.rf
  · exact Same.rf
theorem fr_LJO_turnRows_18 : ∀ (n : Nat) (S : hS) (x1 : Int32) (x2 : Int32) (x3 : Int32) (x4 : Int32) (x5 : Int32), Same [13, 15, 16, 17] S (LJO_turnRows_18 n S x1 x2 x3 x4 x5).2
  | 0, S, x1, x2, x3, x4, x5 => Same.rf
  | n + 1, S, x1, x2, x3, x4, x5 => by
    rw [LJO_turnRows_18_s]
    split
    · exact Same.rf
    · have hS6 : Same [13, 15, 16, 17] S (FJO_addRow S x2 (S.1 15 x5.toNatClampNeg) (-(S.2 16 x5.toNatClampNeg))).2 := Same.tr (Same.rf) (Same.mo (fr_FJO_addRow S x2 (S.1 15 x5.toNatClampNeg) (-(S.2 16 x5.toNatClampNeg))) (by decide))
      generalize FJO_addRow S x2 (S.1 15 x5.toNatClampNeg) (-(S.2 16 x5.toNatClampNeg)) = q at hS6 ⊢
      obtain ⟨v6, S6⟩ := q
      dsimp only at hS6 ⊢
      exact Same.tr (hS6) (fr_LJO_turnRows_18 n S6 x1 x2 x3 x4 (x5 + 1))
theorem fr_FJO_turnRows (S : hS) (x1 : Int32) (x2 : Int32) : Same [13, 15, 16, 17] S (FJO_turnRows S x1 x2) := by
  rw [FJO_turnRows_e]
  have hS9 : Same [13, 15, 16, 17] S (LJO_turnRows_18 300 S x1 x2 (x1 * 6) ((x1 * 6) + (S.1 13 x1.toNatClampNeg)) (x1 * 6)).2 := Same.tr (Same.rf) (fr_LJO_turnRows_18 300 S x1 x2 (x1 * 6) ((x1 * 6) + (S.1 13 x1.toNatClampNeg)) (x1 * 6))
  generalize LJO_turnRows_18 300 S x1 x2 (x1 * 6) ((x1 * 6) + (S.1 13 x1.toNatClampNeg)) (x1 * 6) = q at hS9 ⊢
  obtain ⟨y9_5, S9⟩ := q
  dsimp only at hS9 ⊢
  exact hS9
theorem fr_LJO_clearItems_17 : ∀ (n : Nat) (S : hS) (x1 : Int32) (x2 : Int32) (x3 : Int32) (x4 : Int32), Same [17] S (LJO_clearItems_17 n S x1 x2 x3 x4).2
  | 0, S, x1, x2, x3, x4 => Same.rf
  | n + 1, S, x1, x2, x3, x4 => by
    rw [LJO_clearItems_17_s]
    split
    · exact Same.rf
    · split
      · exact Same.tr (Same.rf) (fr_LJO_clearItems_17 n S x1 x2 x3 (x4 + 1))
      · exact Same.tr ((Same.l (Same.rf) (by decide))) (fr_LJO_clearItems_17 n (sL S 17 x4.toNatClampNeg 0) x1 x2 x3 (x4 + 1))
theorem fr_FJO_clearItems (S : hS) (x1 : Int32) : Same [17] S (FJO_clearItems S x1) := by
  rw [FJO_clearItems_e]
  have hS10 : Same [17] S (LJO_clearItems_17 300 S x1 (x1 * 6) ((x1 * 6) + (S.1 13 x1.toNatClampNeg)) (x1 * 6)).2 := Same.tr (Same.rf) (fr_LJO_clearItems_17 300 S x1 (x1 * 6) ((x1 * 6) + (S.1 13 x1.toNatClampNeg)) (x1 * 6))
  generalize LJO_clearItems_17 300 S x1 (x1 * 6) ((x1 * 6) + (S.1 13 x1.toNatClampNeg)) (x1 * 6) = q at hS10 ⊢
  obtain ⟨y10_4, S10⟩ := q
  dsimp only at hS10 ⊢
  exact hS10
theorem fr_FHL_reverse (S : hS) (x1 : Int32) (x2 : Int64) : Same [10, 11, 12, 13, 14, 15, 16, 17] S (FHL_reverse S x1 x2).2 := by
  rw [FHL_reverse_e]
  split
  · exact Same.rf
  · split
    · exact Same.rf
    · split
      · have hS7 : Same [10, 11, 12, 13, 14, 15, 16, 17] S (FJO_add S x2.toInt32 3).2 := Same.tr (Same.rf) (Same.mo (fr_FJO_add S x2.toInt32 3) (by decide))
        generalize FJO_add S x2.toInt32 3 = q at hS7 ⊢
        obtain ⟨v7, S7⟩ := q
        dsimp only at hS7 ⊢
        exact (Same.i ((Same.tr ((Same.tr (hS7) (Same.mo (fr_FJO_turnRows S7 x1 v7) (by decide)))) (Same.mo (fr_FJO_clearItems (FJO_turnRows S7 x1 v7) x1) (by decide)))) (by decide))
      · exact Same.rf
theorem fr_FHL_rate (S : hS) (x1 : Int64) (x3 : Int64) : Same [1] S (FHL_rate S x1 x3).2 := by
  rw [FHL_rate_e]
  split
  · exact Same.rf
  · split
    · exact Same.rf
    · split
      · exact Same.rf
      · split
        · exact (Same.l ((Same.l (Same.rf) (by decide))) (by decide))
        · exact Same.rf
theorem fr_FMO_account (S : hS) (x1 : Int32) : Same [49, 50] S (FMO_account S x1).2 := by
  rw [FMO_account_e]
  split
  · exact (Same.i (Same.rf) (by decide))
  · split
    · exact (Same.i (Same.rf) (by decide))
    · split
      · exact (Same.l ((Same.l ((Same.i (Same.rf) (by decide))) (by decide))) (by decide))
      · exact (Same.i (Same.rf) (by decide))
theorem fr_FMO_addEntry (S : hS) (x1 : Int64) (x3 : Int32) : Same [50] S (FMO_addEntry S x1 x3).2 := by
  rw [FMO_addEntry_e]
  exact (Same.l ((Same.l ((Same.l (Same.rf) (by decide))) (by decide))) (by decide))
theorem fr_FMO_entry (S : hS) (x1 : Int64) : Same [49, 50] S (FMO_entry S x1).2 := by
  rw [FMO_entry_e]
  split
  · exact (Same.i (Same.rf) (by decide))
  · split
    · exact (Same.i (Same.rf) (by decide))
    · split
      · have hS7 : Same [49, 50] S (FMO_addEntry (sI S 49 4 0) x1 0).2 := Same.tr ((Same.i (Same.rf) (by decide))) (Same.mo (fr_FMO_addEntry (sI S 49 4 0) x1 0) (by decide))
        generalize FMO_addEntry (sI S 49 4 0) x1 0 = q at hS7 ⊢
        obtain ⟨v7, S7⟩ := q
        dsimp only at hS7 ⊢
        exact hS7
      · exact (Same.i (Same.rf) (by decide))
theorem fr_FMO_addRow (S : hS) (x1 : Int32) (x2 : Int32) (x3 : Int64) : Same [50] S (FMO_addRow S x1 x2 x3) := by
  rw [FMO_addRow_e]
  exact (Same.l ((Same.l ((Same.l (Same.rf) (by decide))) (by decide))) (by decide))
theorem fr_FMO_row (S : hS) (x1 : Int32) (x2 : Int32) (x3 : Int64) : Same [49, 50] S (FMO_row S x1 x2 x3).2 := by
  rw [FMO_row_e]
  split
  · exact (Same.i (Same.rf) (by decide))
  · split
    · exact (Same.i (Same.rf) (by decide))
    · split
      · exact (Same.i (Same.rf) (by decide))
      · split
        · exact (Same.i (Same.rf) (by decide))
        · split
          · exact (Same.i (Same.rf) (by decide))
          · split
            · exact (Same.i (Same.rf) (by decide))
            · exact (Same.tr ((Same.i (Same.rf) (by decide))) (Same.mo (fr_FMO_addRow (sI S 49 4 0) x1 x2 x3) (by decide)))
theorem fr_LMO_close_120 : ∀ (n : Nat) (S : hS) (x1 : Int32) (x2 : Int64) (x4 : Int32), Same [49, 50] S (LMO_close_120 n S x1 x2 x4).2
  | 0, S, x1, x2, x4 => Same.rf
  | n + 1, S, x1, x2, x4 => by
    rw [LMO_close_120_s]
    split
    · exact Same.rf
    · split
      · exact Same.tr ((Same.l (Same.rf) (by decide))) (fr_LMO_close_120 n (sL S 50 ((780 + ((6 * x1) + x4)).toNatClampNeg) 0) x1 x2 (x4 + 1))
      · exact Same.tr ((Same.l (Same.rf) (by decide))) (fr_LMO_close_120 n (sL S 50 ((780 + ((6 * x1) + x4)).toNatClampNeg) (S.2 50 ((540 + ((6 * x1) + x4)).toNatClampNeg))) x1 x2 (x4 + 1))
theorem fr_FMO_close (S : hS) (x1 : Int32) : Same [49, 50] S (FMO_close S x1).2 := by
  rw [FMO_close_e]
  split
  · exact (Same.i (Same.rf) (by decide))
  · split
    · exact (Same.i (Same.rf) (by decide))
    · split
      · generalize LMO_close_51 300 (sI S 49 4 0) x1 0 0 = q
        obtain ⟨y13_2, y13_4⟩ := q
        dsimp only
        split
        · have hS29 : Same [49, 50] S (LMO_close_120 300 (sL (sI S 49 4 0) 50 ((140 + x1).toNatClampNeg) 1) x1 y13_2 0).2 := Same.tr ((Same.l ((Same.i (Same.rf) (by decide))) (by decide))) (fr_LMO_close_120 300 (sL (sI S 49 4 0) 50 ((140 + x1).toNatClampNeg) 1) x1 y13_2 0)
          generalize LMO_close_120 300 (sL (sI S 49 4 0) 50 ((140 + x1).toNatClampNeg) 1) x1 y13_2 0 = q at hS29 ⊢
          obtain ⟨y29_4, S29⟩ := q
          dsimp only at hS29 ⊢
          exact hS29
        · exact (Same.i ((Same.i (Same.rf) (by decide))) (by decide))
      · exact (Same.i (Same.rf) (by decide))
theorem fr_FMO_balance (S : hS) (x1 : Int32) (x2 : Int64) : Same [49] S (FMO_balance S x1 x2).2 := by
  rw [FMO_balance_e]
  generalize LMO_balance_11 300 (sI S 49 4 0) x1 x2 0 0 = q
  obtain ⟨y29_4, y29_6⟩ := q
  dsimp only
  exact (Same.i (Same.rf) (by decide))
theorem fr_LMO_payment_185 : ∀ (n : Nat) (S : hS) (x1 : Int32) (x2 : Int64) (x4 : Int64) (x6 : Int32) (x7 : Int32) (x8 : Int64) (x10 : Int32), Same [49, 50] S (LMO_payment_185 n S x1 x2 x4 x6 x7 x8 x10).2.2
  | 0, S, x1, x2, x4, x6, x7, x8, x10 => Same.rf
  | n + 1, S, x1, x2, x4, x6, x7, x8, x10 => by
    rw [LMO_payment_185_s]
    split
    · exact Same.rf
    · split
      · split
        · exact Same.tr (Same.rf) (fr_LMO_payment_185 n S x1 x2 x4 x6 x7 x8 (x10 + 1))
        · exact Same.tr ((Same.l ((Same.l (Same.rf) (by decide))) (by decide))) (fr_LMO_payment_185 n (sL (sL S 50 ((780 + (FMO_itemAt S x1 x10)).toNatClampNeg) ((S.2 50 ((780 + (FMO_itemAt S x1 x10)).toNatClampNeg)) - (S.2 50 ((780 + (FMO_itemAt S x1 x10)).toNatClampNeg)))) 50 (((1020 + (4 * x7)) + ((FMO_itemAt S x1 x10) / 60)).toNatClampNeg) (((sL S 50 ((780 + (FMO_itemAt S x1 x10)).toNatClampNeg) ((S.2 50 ((780 + (FMO_itemAt S x1 x10)).toNatClampNeg)) - (S.2 50 ((780 + (FMO_itemAt S x1 x10)).toNatClampNeg)))).2 50 (((1020 + (4 * x7)) + ((FMO_itemAt S x1 x10) / 60)).toNatClampNeg)) ||| (1 <<< (((FMO_itemAt S x1 x10) - (FMO_itemAt S x1 x10) / 60 * 60).toInt64 &&& 63)))) x1 x2 x4 x6 x7 (x8 - (S.2 50 ((780 + (FMO_itemAt S x1 x10)).toNatClampNeg))) (x10 + 1))
      · split
        · exact Same.tr (Same.rf) (fr_LMO_payment_185 n S x1 x2 x4 x6 x7 x8 (x10 + 1))
        · exact Same.tr ((Same.l ((Same.l (Same.rf) (by decide))) (by decide))) (fr_LMO_payment_185 n (sL (sL S 50 ((780 + (FMO_itemAt S x1 x10)).toNatClampNeg) ((S.2 50 ((780 + (FMO_itemAt S x1 x10)).toNatClampNeg)) - x8)) 50 (((1020 + (4 * x7)) + ((FMO_itemAt S x1 x10) / 60)).toNatClampNeg) (((sL S 50 ((780 + (FMO_itemAt S x1 x10)).toNatClampNeg) ((S.2 50 ((780 + (FMO_itemAt S x1 x10)).toNatClampNeg)) - x8)).2 50 (((1020 + (4 * x7)) + ((FMO_itemAt S x1 x10) / 60)).toNatClampNeg)) ||| (1 <<< (((FMO_itemAt S x1 x10) - (FMO_itemAt S x1 x10) / 60 * 60).toInt64 &&& 63)))) x1 x2 x4 x6 x7 (x8 - x8) (x10 + 1))
theorem fr_FMO_payment (S : hS) (x1 : Int32) (x2 : Int64) (x4 : Int64) : Same [49, 50] S (FMO_payment S x1 x2 x4).2 := by
  rw [FMO_payment_e]
  generalize LMO_payment_8 300 (sI S 49 4 0) x1 x2 x4 0 = y7_6
  dsimp only
  split
  · exact (Same.i (Same.rf) (by decide))
  · split
    · exact (Same.i (Same.rf) (by decide))
    · split
      · split
        · exact (Same.i (Same.rf) (by decide))
        · split
          · exact (Same.i (Same.rf) (by decide))
          · split
            · split
              · exact (Same.i (Same.rf) (by decide))
              · exact (Same.l ((Same.l ((Same.i (Same.rf) (by decide))) (by decide))) (by decide))
            · have hS21 : Same [49, 50] S (FMO_addEntry (sI S 49 4 0) x4 1).2 := Same.tr ((Same.i (Same.rf) (by decide))) (Same.mo (fr_FMO_addEntry (sI S 49 4 0) x4 1) (by decide))
              generalize FMO_addEntry (sI S 49 4 0) x4 1 = q at hS21 ⊢
              obtain ⟨v21, S21⟩ := q
              dsimp only at hS21 ⊢
              have hS49 : Same [49, 50] S (LMO_payment_185 300 (sL (FMO_addRow (FMO_addRow S21 v21 y7_6 x2) v21 x1 (-x2)) 50 ((140 + v21).toNatClampNeg) 1) x1 x2 x4 y7_6 v21 x2 0).2.2 := Same.tr ((Same.l ((Same.tr ((Same.tr (hS21) (Same.mo (fr_FMO_addRow S21 v21 y7_6 x2) (by decide)))) (Same.mo (fr_FMO_addRow (FMO_addRow S21 v21 y7_6 x2) v21 x1 (-x2)) (by decide)))) (by decide))) (fr_LMO_payment_185 300 (sL (FMO_addRow (FMO_addRow S21 v21 y7_6 x2) v21 x1 (-x2)) 50 ((140 + v21).toNatClampNeg) 1) x1 x2 x4 y7_6 v21 x2 0)
              generalize LMO_payment_185 300 (sL (FMO_addRow (FMO_addRow S21 v21 y7_6 x2) v21 x1 (-x2)) 50 ((140 + v21).toNatClampNeg) 1) x1 x2 x4 y7_6 v21 x2 0 = q at hS49 ⊢
              obtain ⟨y49_8, y49_10, S49⟩ := q
              dsimp only at hS49 ⊢
              exact hS49
      · exact (Same.i (Same.rf) (by decide))
theorem fr_FMO_item (S : hS) (x1 : Int32) (x2 : Int32) : Same [49] S (FMO_item S x1 x2).2 := by
  rw [FMO_item_e]
  split
  · exact (Same.i (Same.rf) (by decide))
  · split
    · exact (Same.i (Same.rf) (by decide))
    · split
      · exact (Same.i (Same.rf) (by decide))
      · exact (Same.i (Same.rf) (by decide))
theorem fr_FMO_opened (S : hS) (x1 : Int32) (x2 : Int32) : Same [49] S (FMO_opened S x1 x2).2 := by
  rw [FMO_opened_e]
  cases LMO_opened_7 300 (sI S 49 4 0) x1 x2 0 with
  | inl q => exact (Same.i (Same.rf) (by decide))
  | inr q =>
    dsimp only [Sum.elim_inr]
    exact (Same.i (Same.rf) (by decide))
theorem fr_FMO_dun (S : hS) (x1 : Int32) (x2 : Int64) : Same [49, 50] S (FMO_dun S x1 x2).2 := by
  rw [FMO_dun_e]
  split
  · exact (Same.i (Same.rf) (by decide))
  · split
    · exact (Same.i (Same.rf) (by decide))
    · split
      · split
        · exact (Same.l ((Same.i (Same.rf) (by decide))) (by decide))
        · split
          · split
            · exact (Same.l ((Same.l ((Same.i (Same.rf) (by decide))) (by decide))) (by decide))
            · exact (Same.l ((Same.l ((Same.i (Same.rf) (by decide))) (by decide))) (by decide))
          · split
            · exact (Same.i (Same.rf) (by decide))
            · split
              · exact (Same.l ((Same.l ((Same.i (Same.rf) (by decide))) (by decide))) (by decide))
              · exact (Same.l ((Same.l ((Same.i (Same.rf) (by decide))) (by decide))) (by decide))
      · split
        · split
          · exact (Same.l ((Same.i (Same.rf) (by decide))) (by decide))
          · split
            · split
              · exact (Same.l ((Same.l ((Same.i (Same.rf) (by decide))) (by decide))) (by decide))
              · exact (Same.l ((Same.l ((Same.i (Same.rf) (by decide))) (by decide))) (by decide))
            · split
              · exact (Same.i (Same.rf) (by decide))
              · split
                · exact (Same.l ((Same.l ((Same.i (Same.rf) (by decide))) (by decide))) (by decide))
                · exact (Same.l ((Same.l ((Same.i (Same.rf) (by decide))) (by decide))) (by decide))
        · split
          · exact (Same.l ((Same.i (Same.rf) (by decide))) (by decide))
          · exact (Same.i (Same.rf) (by decide))
theorem fr_FMO_hardship (S : hS) (x1 : Int32) (x2 : Int64) (x4 : Int64) : Same [49, 50] S (FMO_hardship S x1 x2 x4).2 := by
  rw [FMO_hardship_e]
  split
  · exact (Same.i (Same.rf) (by decide))
  · split
    · exact (Same.l ((Same.l ((Same.l ((Same.i (Same.rf) (by decide))) (by decide))) (by decide))) (by decide))
    · exact (Same.i (Same.rf) (by decide))
theorem fr_FMO_instal (S : hS) (x1 : Int32) (x2 : Int32) : Same [49, 50] S (FMO_instal S x1 x2).2 := by
  rw [FMO_instal_e]
  split
  · exact (Same.i (Same.rf) (by decide))
  · split
    · exact (Same.i (Same.rf) (by decide))
    · split
      · exact (Same.i (Same.rf) (by decide))
      · split
        · exact (Same.i (Same.rf) (by decide))
        · split
          · exact (Same.i (Same.rf) (by decide))
          · exact (Same.l ((Same.l ((Same.l ((Same.i (Same.rf) (by decide))) (by decide))) (by decide))) (by decide))
theorem fr_FMO_due (S : hS) (x1 : Int32) (x2 : Int32) : Same [49] S (FMO_due S x1 x2).2 := by
  rw [FMO_due_e]
  split
  · exact (Same.i (Same.rf) (by decide))
  · split
    · exact (Same.i (Same.rf) (by decide))
    · split
      · exact (Same.i (Same.rf) (by decide))
      · split
        · split
          · exact (Same.i (Same.rf) (by decide))
          · exact (Same.i (Same.rf) (by decide))
        · exact (Same.i (Same.rf) (by decide))
theorem fr_FMO_move (S : hS) (x1 : Int32) (x2 : Int32) (x3 : Int64) : Same [49, 50] S (FMO_move S x1 x2 x3).2 := by
  rw [FMO_move_e]
  split
  · exact (Same.i (Same.rf) (by decide))
  · split
    · exact (Same.i (Same.rf) (by decide))
    · split
      · exact (Same.i (Same.rf) (by decide))
      · split
        · exact (Same.i (Same.rf) (by decide))
        · split
          · split
            · exact (Same.l ((Same.l ((Same.i (Same.rf) (by decide))) (by decide))) (by decide))
            · exact (Same.i (Same.rf) (by decide))
          · exact (Same.i (Same.rf) (by decide))
theorem fr_FMO_share (S : hS) (x1 : Int32) (x2 : Int32) (x3 : Int32) : Same [49] S (FMO_share S x1 x2 x3).2 := by
  rw [FMO_share_e]
  split
  · exact (Same.i (Same.rf) (by decide))
  · split
    · exact (Same.i (Same.rf) (by decide))
    · split
      · exact (Same.i (Same.rf) (by decide))
      · split
        · exact (Same.i (Same.rf) (by decide))
        · split
          · generalize LMO_share_45 300 (sI S 49 4 0) x1 x2 x3 0 (30 * x2) = q
            obtain ⟨y42_4, y42_5⟩ := q
            dsimp only
            exact (Same.i (Same.rf) (by decide))
          · exact (Same.i (Same.rf) (by decide))
theorem fr_LMO_batch_16 : ∀ (n : Nat) (S : hS) (x1 : Int32), Same [49, 51] S (LMO_batch_16 n S x1).2
  | 0, S, x1 => Same.rf
  | n + 1, S, x1 => by
    rw [LMO_batch_16_s]
    split
    · exact Same.rf
    · exact Same.tr ((Same.l (Same.rf) (by decide))) (fr_LMO_batch_16 n (sL S 51 x1.toNatClampNeg (S.2 50 x1.toNatClampNeg)) (x1 + 1))
theorem fr_FMO_batch (S : hS)  : Same [49, 51] S (FMO_batch S).2 := by
  rw [FMO_batch_e]
  split
  · have hS7 : Same [49, 51] S (LMO_batch_16 1300 (sI S 49 4 0) 0).2 := Same.tr ((Same.i (Same.rf) (by decide))) (fr_LMO_batch_16 1300 (sI S 49 4 0) 0)
    generalize LMO_batch_16 1300 (sI S 49 4 0) 0 = q at hS7 ⊢
    obtain ⟨y7_1, S7⟩ := q
    dsimp only at hS7 ⊢
    exact (Same.i ((Same.i (hS7) (by decide))) (by decide))
  · exact (Same.i (Same.rf) (by decide))
theorem fr_LMO_endBatch_21 : ∀ (n : Nat) (S : hS) (x1 : Int32) (x2 : Int32), Same [49, 50] S (LMO_endBatch_21 n S x1 x2).2
  | 0, S, x1, x2 => Same.rf
  | n + 1, S, x1, x2 => by
    rw [LMO_endBatch_21_s]
    split
    · exact Same.rf
    · split
      · exact Same.tr ((Same.l (Same.rf) (by decide))) (fr_LMO_endBatch_21 n (sL S 50 x2.toNatClampNeg (S.2 51 x2.toNatClampNeg)) x1 (x2 + 1))
      · exact Same.rf
theorem fr_FMO_endBatch (S : hS) (x1 : Int32) : Same [49, 50] S (FMO_endBatch S x1).2 := by
  rw [FMO_endBatch_e]
  split
  · exact (Same.i (Same.rf) (by decide))
  · have hS8 : Same [49, 50] S (LMO_endBatch_21 1300 (sI (sI S 49 4 0) 49 2 0) x1 0).2 := Same.tr ((Same.i ((Same.i (Same.rf) (by decide))) (by decide))) (fr_LMO_endBatch_21 1300 (sI (sI S 49 4 0) 49 2 0) x1 0)
    generalize LMO_endBatch_21 1300 (sI (sI S 49 4 0) 49 2 0) x1 0 = q at hS8 ⊢
    obtain ⟨y8_2, S8⟩ := q
    dsimp only at hS8 ⊢
    exact hS8
theorem fr_FMO_closeMonth (S : hS) (x1 : Int32) : Same [49, 50] S (FMO_closeMonth S x1).2 := by
  rw [FMO_closeMonth_e]
  split
  · split
    · exact (Same.i (Same.rf) (by decide))
    · exact (Same.l ((Same.i (Same.rf) (by decide))) (by decide))
  · exact (Same.i (Same.rf) (by decide))
theorem fr_LMO_reverse_99 : ∀ (n : Nat) (S : hS) (x1 : Int32) (x2 : Int64) (x4 : Int32) (x5 : Int32), Same [49, 50] S (LMO_reverse_99 n S x1 x2 x4 x5).2
  | 0, S, x1, x2, x4, x5 => Same.rf
  | n + 1, S, x1, x2, x4, x5 => by
    rw [LMO_reverse_99_s]
    split
    · exact Same.rf
    · exact Same.tr ((Same.l ((Same.tr (Same.rf) (Same.mo (fr_FMO_addRow S x4 ((S.2 50 (((300 + (6 * x1)) + x5).toNatClampNeg)).toInt32) (-(S.2 50 (((540 + (6 * x1)) + x5).toNatClampNeg)))) (by decide)))) (by decide))) (fr_LMO_reverse_99 n (sL (FMO_addRow S x4 ((S.2 50 (((300 + (6 * x1)) + x5).toNatClampNeg)).toInt32) (-(S.2 50 (((540 + (6 * x1)) + x5).toNatClampNeg)))) 50 (((780 + (6 * x1)) + x5).toNatClampNeg) 0) x1 x2 x4 (x5 + 1))
theorem fr_FMO_reverse (S : hS) (x1 : Int32) (x2 : Int64) : Same [49, 50] S (FMO_reverse S x1 x2).2 := by
  rw [FMO_reverse_e]
  split
  · exact (Same.i (Same.rf) (by decide))
  · split
    · exact (Same.i (Same.rf) (by decide))
    · split
      · exact (Same.i (Same.rf) (by decide))
      · split
        · exact (Same.i (Same.rf) (by decide))
        · split
          · split
            · exact (Same.i (Same.rf) (by decide))
            · split
              · exact (Same.i (Same.rf) (by decide))
              · have hS15 : Same [49, 50] S (FMO_addEntry (sI S 49 4 0) x2 2).2 := Same.tr ((Same.i (Same.rf) (by decide))) (Same.mo (fr_FMO_addEntry (sI S 49 4 0) x2 2) (by decide))
                generalize FMO_addEntry (sI S 49 4 0) x2 2 = q at hS15 ⊢
                obtain ⟨v15, S15⟩ := q
                dsimp only at hS15 ⊢
                have hS24 : Same [49, 50] S (LMO_reverse_99 300 S15 x1 x2 v15 0).2 := Same.tr (hS15) (fr_LMO_reverse_99 300 S15 x1 x2 v15 0)
                generalize LMO_reverse_99 300 S15 x1 x2 v15 0 = q at hS24 ⊢
                obtain ⟨y24_5, S24⟩ := q
                dsimp only at hS24 ⊢
                exact (Same.l ((Same.l (hS24) (by decide))) (by decide))
          · exact (Same.i (Same.rf) (by decide))
theorem fr_FMO_interest (S : hS) (x1 : Int32) (x2 : Int64) (x4 : Int32) : Same [49] S (FMO_interest S x1 x2 x4).2 := by
  rw [FMO_interest_e]
  split
  · exact (Same.i (Same.rf) (by decide))
  · split
    · exact (Same.i (Same.rf) (by decide))
    · split
      · exact (Same.i (Same.rf) (by decide))
      · split
        · generalize LMO_interest_41 300 (sI S 49 4 0) x1 x2 x4 0 0 = q
          obtain ⟨y18_5, y18_7⟩ := q
          dsimp only
          split
          · exact (Same.i (Same.rf) (by decide))
          · exact (Same.i (Same.rf) (by decide))
        · exact (Same.i (Same.rf) (by decide))
theorem fr_FMO_rate (S : hS) (x1 : Int64) (x3 : Int64) : Same [49, 50] S (FMO_rate S x1 x3).2 := by
  rw [FMO_rate_e]
  split
  · exact (Same.i (Same.rf) (by decide))
  · split
    · exact (Same.i (Same.rf) (by decide))
    · exact (Same.l ((Same.l ((Same.i (Same.rf) (by decide))) (by decide))) (by decide))
theorem fr_FMO_statement (S : hS) (x1 : Int32) (x2 : Int32) (x3 : Int32) : Same [49] S (FMO_statement S x1 x2 x3).2 := by
  rw [FMO_statement_e]
  cases LMO_statement_11 300 (sI S 49 4 0) x1 x2 x3 0 0 with
  | inl q => exact (Same.i (Same.rf) (by decide))
  | inr q =>
    dsimp only [Sum.elim_inr]
    exact (Same.i (Same.rf) (by decide))
theorem fr_FMO_tax (S : hS) (x1 : Int32) : Same [49] S (FMO_tax S x1).2 := by
  rw [FMO_tax_e]
  generalize LMO_tax_10 300 (sI S 49 4 0) x1 0 0 = q
  obtain ⟨y26_2, y26_4⟩ := q
  dsimp only
  split
  · exact (Same.i (Same.rf) (by decide))
  · exact (Same.i (Same.rf) (by decide))
theorem fr_FMO_found (S : hS) (x1 : Int32) : Same [49] S (FMO_found S x1).2 := by
  rw [FMO_found_e]
  split
  · exact (Same.i (Same.rf) (by decide))
  · split
    · exact (Same.i (Same.rf) (by decide))
    · exact (Same.i (Same.rf) (by decide))
