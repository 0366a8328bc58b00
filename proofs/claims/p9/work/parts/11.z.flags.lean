/-- the reference's batch, open or not, and how many: as they were -/
def Sm (S S' : hS) : Prop := S'.1 49 2 = S.1 49 2 ∧ S'.1 49 3 = S.1 49 3
theorem Sm.rf {S : hS} : Sm S S := ⟨rfl, rfl⟩
theorem Sm.tr {S S' S'' : hS} (h : Sm S S') (h' : Sm S' S'') : Sm S S'' := ⟨h'.1.trans h.1, h'.2.trans h.2⟩
theorem Sm.of {ks : List Nat} {S S' : hS} (h : Same ks S S') (hk : 49 ∉ ks) : Sm S S' := ⟨congrFun (h 49 hk).1 2, congrFun (h 49 hk).1 3⟩
theorem Sm.i {S S' : hS} {k j : Nat} {x : Int32} (h : Sm S S') (hk : ¬ k = 49 ∨ (¬ j = 2 ∧ ¬ j = 3)) : Sm S (sI S' k j x) := ⟨by rw [sI_1, if_neg (by omega)]; exact h.1, by rw [sI_1, if_neg (by omega)]; exact h.2⟩
theorem Sm.l {S S' : hS} {k j : Nat} {x : Int64} (h : Sm S S') : Sm S (sL S' k j x) := h

theorem fq_FMO_account (S : hS) (x1 : Int32) : Sm S (FMO_account S x1).2 := by
  rw [FMO_account_e]
  split
  · exact (Sm.i (Sm.rf) (Or.inr (by decide)))
  · split
    · exact (Sm.i (Sm.rf) (Or.inr (by decide)))
    · split
      · exact (Sm.l ((Sm.l ((Sm.i (Sm.rf) (Or.inr (by decide)))))))
      · exact (Sm.i (Sm.rf) (Or.inr (by decide)))
theorem fq_FMO_entry (S : hS) (x1 : Int64) : Sm S (FMO_entry S x1).2 := by
  rw [FMO_entry_e]
  split
  · exact (Sm.i (Sm.rf) (Or.inr (by decide)))
  · split
    · exact (Sm.i (Sm.rf) (Or.inr (by decide)))
    · split
      · have hS7 : Sm S (FMO_addEntry (sI S 49 4 0) x1 0).2 := Sm.tr ((Sm.i (Sm.rf) (Or.inr (by decide)))) (Sm.of (fr_FMO_addEntry (sI S 49 4 0) x1 0) (by decide))
        generalize FMO_addEntry (sI S 49 4 0) x1 0 = q at hS7 ⊢
        obtain ⟨v7, S7⟩ := q
        dsimp only at hS7 ⊢
        exact hS7
      · exact (Sm.i (Sm.rf) (Or.inr (by decide)))
theorem fq_FMO_row (S : hS) (x1 : Int32) (x2 : Int32) (x3 : Int64) : Sm S (FMO_row S x1 x2 x3).2 := by
  rw [FMO_row_e]
  split
  · exact (Sm.i (Sm.rf) (Or.inr (by decide)))
  · split
    · exact (Sm.i (Sm.rf) (Or.inr (by decide)))
    · split
      · exact (Sm.i (Sm.rf) (Or.inr (by decide)))
      · split
        · exact (Sm.i (Sm.rf) (Or.inr (by decide)))
        · split
          · exact (Sm.i (Sm.rf) (Or.inr (by decide)))
          · split
            · exact (Sm.i (Sm.rf) (Or.inr (by decide)))
            · exact (Sm.tr ((Sm.i (Sm.rf) (Or.inr (by decide)))) (Sm.of (fr_FMO_addRow (sI S 49 4 0) x1 x2 x3) (by decide)))
theorem fq_LMO_close_120 : ∀ (n : Nat) (S : hS) (x1 : Int32) (x2 : Int64) (x4 : Int32), Sm S (LMO_close_120 n S x1 x2 x4).2
  | 0, S, x1, x2, x4 => Sm.rf
  | n + 1, S, x1, x2, x4 => by
    rw [LMO_close_120_s]
    split
    · exact Sm.rf
    · split
      · exact Sm.tr ((Sm.l (Sm.rf))) (fq_LMO_close_120 n (sL S 50 ((780 + ((6 * x1) + x4)).toNatClampNeg) 0) x1 x2 (x4 + 1))
      · exact Sm.tr ((Sm.l (Sm.rf))) (fq_LMO_close_120 n (sL S 50 ((780 + ((6 * x1) + x4)).toNatClampNeg) (S.2 50 ((540 + ((6 * x1) + x4)).toNatClampNeg))) x1 x2 (x4 + 1))
theorem fq_FMO_close (S : hS) (x1 : Int32) : Sm S (FMO_close S x1).2 := by
  rw [FMO_close_e]
  split
  · exact (Sm.i (Sm.rf) (Or.inr (by decide)))
  · split
    · exact (Sm.i (Sm.rf) (Or.inr (by decide)))
    · split
      · generalize LMO_close_51 300 (sI S 49 4 0) x1 0 0 = q
        obtain ⟨y13_2, y13_4⟩ := q
        dsimp only
        split
        · have hS29 : Sm S (LMO_close_120 300 (sL (sI S 49 4 0) 50 ((140 + x1).toNatClampNeg) 1) x1 y13_2 0).2 := Sm.tr ((Sm.l ((Sm.i (Sm.rf) (Or.inr (by decide)))))) (fq_LMO_close_120 300 (sL (sI S 49 4 0) 50 ((140 + x1).toNatClampNeg) 1) x1 y13_2 0)
          generalize LMO_close_120 300 (sL (sI S 49 4 0) 50 ((140 + x1).toNatClampNeg) 1) x1 y13_2 0 = q at hS29 ⊢
          obtain ⟨y29_4, S29⟩ := q
          dsimp only at hS29 ⊢
          exact hS29
        · exact (Sm.i ((Sm.i (Sm.rf) (Or.inr (by decide)))) (Or.inr (by decide)))
      · exact (Sm.i (Sm.rf) (Or.inr (by decide)))
theorem fq_FMO_balance (S : hS) (x1 : Int32) (x2 : Int64) : Sm S (FMO_balance S x1 x2).2 := by
  rw [FMO_balance_e]
  generalize LMO_balance_11 300 (sI S 49 4 0) x1 x2 0 0 = q
  obtain ⟨y29_4, y29_6⟩ := q
  dsimp only
  exact (Sm.i (Sm.rf) (Or.inr (by decide)))
theorem fq_LMO_payment_185 : ∀ (n : Nat) (S : hS) (x1 : Int32) (x2 : Int64) (x4 : Int64) (x6 : Int32) (x7 : Int32) (x8 : Int64) (x10 : Int32), Sm S (LMO_payment_185 n S x1 x2 x4 x6 x7 x8 x10).2.2
  | 0, S, x1, x2, x4, x6, x7, x8, x10 => Sm.rf
  | n + 1, S, x1, x2, x4, x6, x7, x8, x10 => by
    rw [LMO_payment_185_s]
    split
    · exact Sm.rf
    · split
      · split
        · exact Sm.tr (Sm.rf) (fq_LMO_payment_185 n S x1 x2 x4 x6 x7 x8 (x10 + 1))
        · exact Sm.tr ((Sm.l ((Sm.l (Sm.rf))))) (fq_LMO_payment_185 n (sL (sL S 50 ((780 + (FMO_itemAt S x1 x10)).toNatClampNeg) ((S.2 50 ((780 + (FMO_itemAt S x1 x10)).toNatClampNeg)) - (S.2 50 ((780 + (FMO_itemAt S x1 x10)).toNatClampNeg)))) 50 (((1020 + (4 * x7)) + ((FMO_itemAt S x1 x10) / 60)).toNatClampNeg) (((sL S 50 ((780 + (FMO_itemAt S x1 x10)).toNatClampNeg) ((S.2 50 ((780 + (FMO_itemAt S x1 x10)).toNatClampNeg)) - (S.2 50 ((780 + (FMO_itemAt S x1 x10)).toNatClampNeg)))).2 50 (((1020 + (4 * x7)) + ((FMO_itemAt S x1 x10) / 60)).toNatClampNeg)) ||| (1 <<< (((FMO_itemAt S x1 x10) - (FMO_itemAt S x1 x10) / 60 * 60).toInt64 &&& 63)))) x1 x2 x4 x6 x7 (x8 - (S.2 50 ((780 + (FMO_itemAt S x1 x10)).toNatClampNeg))) (x10 + 1))
      · split
        · exact Sm.tr (Sm.rf) (fq_LMO_payment_185 n S x1 x2 x4 x6 x7 x8 (x10 + 1))
        · exact Sm.tr ((Sm.l ((Sm.l (Sm.rf))))) (fq_LMO_payment_185 n (sL (sL S 50 ((780 + (FMO_itemAt S x1 x10)).toNatClampNeg) ((S.2 50 ((780 + (FMO_itemAt S x1 x10)).toNatClampNeg)) - x8)) 50 (((1020 + (4 * x7)) + ((FMO_itemAt S x1 x10) / 60)).toNatClampNeg) (((sL S 50 ((780 + (FMO_itemAt S x1 x10)).toNatClampNeg) ((S.2 50 ((780 + (FMO_itemAt S x1 x10)).toNatClampNeg)) - x8)).2 50 (((1020 + (4 * x7)) + ((FMO_itemAt S x1 x10) / 60)).toNatClampNeg)) ||| (1 <<< (((FMO_itemAt S x1 x10) - (FMO_itemAt S x1 x10) / 60 * 60).toInt64 &&& 63)))) x1 x2 x4 x6 x7 (x8 - x8) (x10 + 1))
theorem fq_FMO_payment (S : hS) (x1 : Int32) (x2 : Int64) (x4 : Int64) : Sm S (FMO_payment S x1 x2 x4).2 := by
  rw [FMO_payment_e]
  generalize LMO_payment_8 300 (sI S 49 4 0) x1 x2 x4 0 = y7_6
  dsimp only
  split
  · exact (Sm.i (Sm.rf) (Or.inr (by decide)))
  · split
    · exact (Sm.i (Sm.rf) (Or.inr (by decide)))
    · split
      · split
        · exact (Sm.i (Sm.rf) (Or.inr (by decide)))
        · split
          · exact (Sm.i (Sm.rf) (Or.inr (by decide)))
          · split
            · split
              · exact (Sm.i (Sm.rf) (Or.inr (by decide)))
              · exact (Sm.l ((Sm.l ((Sm.i (Sm.rf) (Or.inr (by decide)))))))
            · have hS21 : Sm S (FMO_addEntry (sI S 49 4 0) x4 1).2 := Sm.tr ((Sm.i (Sm.rf) (Or.inr (by decide)))) (Sm.of (fr_FMO_addEntry (sI S 49 4 0) x4 1) (by decide))
              generalize FMO_addEntry (sI S 49 4 0) x4 1 = q at hS21 ⊢
              obtain ⟨v21, S21⟩ := q
              dsimp only at hS21 ⊢
              have hS49 : Sm S (LMO_payment_185 300 (sL (FMO_addRow (FMO_addRow S21 v21 y7_6 x2) v21 x1 (-x2)) 50 ((140 + v21).toNatClampNeg) 1) x1 x2 x4 y7_6 v21 x2 0).2.2 := Sm.tr ((Sm.l ((Sm.tr ((Sm.tr (hS21) (Sm.of (fr_FMO_addRow S21 v21 y7_6 x2) (by decide)))) (Sm.of (fr_FMO_addRow (FMO_addRow S21 v21 y7_6 x2) v21 x1 (-x2)) (by decide)))))) (fq_LMO_payment_185 300 (sL (FMO_addRow (FMO_addRow S21 v21 y7_6 x2) v21 x1 (-x2)) 50 ((140 + v21).toNatClampNeg) 1) x1 x2 x4 y7_6 v21 x2 0)
              generalize LMO_payment_185 300 (sL (FMO_addRow (FMO_addRow S21 v21 y7_6 x2) v21 x1 (-x2)) 50 ((140 + v21).toNatClampNeg) 1) x1 x2 x4 y7_6 v21 x2 0 = q at hS49 ⊢
              obtain ⟨y49_8, y49_10, S49⟩ := q
              dsimp only at hS49 ⊢
              exact hS49
      · exact (Sm.i (Sm.rf) (Or.inr (by decide)))
theorem fq_FMO_item (S : hS) (x1 : Int32) (x2 : Int32) : Sm S (FMO_item S x1 x2).2 := by
  rw [FMO_item_e]
  split
  · exact (Sm.i (Sm.rf) (Or.inr (by decide)))
  · split
    · exact (Sm.i (Sm.rf) (Or.inr (by decide)))
    · split
      · exact (Sm.i (Sm.rf) (Or.inr (by decide)))
      · exact (Sm.i (Sm.rf) (Or.inr (by decide)))
theorem fq_FMO_opened (S : hS) (x1 : Int32) (x2 : Int32) : Sm S (FMO_opened S x1 x2).2 := by
  rw [FMO_opened_e]
  cases LMO_opened_7 300 (sI S 49 4 0) x1 x2 0 with
  | inl q => exact (Sm.i (Sm.rf) (Or.inr (by decide)))
  | inr q =>
    dsimp only [Sum.elim_inr]
    exact (Sm.i (Sm.rf) (Or.inr (by decide)))
theorem fq_FMO_dun (S : hS) (x1 : Int32) (x2 : Int64) : Sm S (FMO_dun S x1 x2).2 := by
  rw [FMO_dun_e]
  split
  · exact (Sm.i (Sm.rf) (Or.inr (by decide)))
  · split
    · exact (Sm.i (Sm.rf) (Or.inr (by decide)))
    · split
      · split
        · exact (Sm.l ((Sm.i (Sm.rf) (Or.inr (by decide)))))
        · split
          · split
            · exact (Sm.l ((Sm.l ((Sm.i (Sm.rf) (Or.inr (by decide)))))))
            · exact (Sm.l ((Sm.l ((Sm.i (Sm.rf) (Or.inr (by decide)))))))
          · split
            · exact (Sm.i (Sm.rf) (Or.inr (by decide)))
            · split
              · exact (Sm.l ((Sm.l ((Sm.i (Sm.rf) (Or.inr (by decide)))))))
              · exact (Sm.l ((Sm.l ((Sm.i (Sm.rf) (Or.inr (by decide)))))))
      · split
        · split
          · exact (Sm.l ((Sm.i (Sm.rf) (Or.inr (by decide)))))
          · split
            · split
              · exact (Sm.l ((Sm.l ((Sm.i (Sm.rf) (Or.inr (by decide)))))))
              · exact (Sm.l ((Sm.l ((Sm.i (Sm.rf) (Or.inr (by decide)))))))
            · split
              · exact (Sm.i (Sm.rf) (Or.inr (by decide)))
              · split
                · exact (Sm.l ((Sm.l ((Sm.i (Sm.rf) (Or.inr (by decide)))))))
                · exact (Sm.l ((Sm.l ((Sm.i (Sm.rf) (Or.inr (by decide)))))))
        · split
          · exact (Sm.l ((Sm.i (Sm.rf) (Or.inr (by decide)))))
          · exact (Sm.i (Sm.rf) (Or.inr (by decide)))
theorem fq_FMO_hardship (S : hS) (x1 : Int32) (x2 : Int64) (x4 : Int64) : Sm S (FMO_hardship S x1 x2 x4).2 := by
  rw [FMO_hardship_e]
  split
  · exact (Sm.i (Sm.rf) (Or.inr (by decide)))
  · split
    · exact (Sm.l ((Sm.l ((Sm.l ((Sm.i (Sm.rf) (Or.inr (by decide)))))))))
    · exact (Sm.i (Sm.rf) (Or.inr (by decide)))
theorem fq_FMO_instal (S : hS) (x1 : Int32) (x2 : Int32) : Sm S (FMO_instal S x1 x2).2 := by
  rw [FMO_instal_e]
  split
  · exact (Sm.i (Sm.rf) (Or.inr (by decide)))
  · split
    · exact (Sm.i (Sm.rf) (Or.inr (by decide)))
    · split
      · exact (Sm.i (Sm.rf) (Or.inr (by decide)))
      · split
        · exact (Sm.i (Sm.rf) (Or.inr (by decide)))
        · split
          · exact (Sm.i (Sm.rf) (Or.inr (by decide)))
          · exact (Sm.l ((Sm.l ((Sm.l ((Sm.i (Sm.rf) (Or.inr (by decide)))))))))
theorem fq_FMO_due (S : hS) (x1 : Int32) (x2 : Int32) : Sm S (FMO_due S x1 x2).2 := by
  rw [FMO_due_e]
  split
  · exact (Sm.i (Sm.rf) (Or.inr (by decide)))
  · split
    · exact (Sm.i (Sm.rf) (Or.inr (by decide)))
    · split
      · exact (Sm.i (Sm.rf) (Or.inr (by decide)))
      · split
        · split
          · exact (Sm.i (Sm.rf) (Or.inr (by decide)))
          · exact (Sm.i (Sm.rf) (Or.inr (by decide)))
        · exact (Sm.i (Sm.rf) (Or.inr (by decide)))
theorem fq_FMO_move (S : hS) (x1 : Int32) (x2 : Int32) (x3 : Int64) : Sm S (FMO_move S x1 x2 x3).2 := by
  rw [FMO_move_e]
  split
  · exact (Sm.i (Sm.rf) (Or.inr (by decide)))
  · split
    · exact (Sm.i (Sm.rf) (Or.inr (by decide)))
    · split
      · exact (Sm.i (Sm.rf) (Or.inr (by decide)))
      · split
        · exact (Sm.i (Sm.rf) (Or.inr (by decide)))
        · split
          · split
            · exact (Sm.l ((Sm.l ((Sm.i (Sm.rf) (Or.inr (by decide)))))))
            · exact (Sm.i (Sm.rf) (Or.inr (by decide)))
          · exact (Sm.i (Sm.rf) (Or.inr (by decide)))
theorem fq_FMO_share (S : hS) (x1 : Int32) (x2 : Int32) (x3 : Int32) : Sm S (FMO_share S x1 x2 x3).2 := by
  rw [FMO_share_e]
  split
  · exact (Sm.i (Sm.rf) (Or.inr (by decide)))
  · split
    · exact (Sm.i (Sm.rf) (Or.inr (by decide)))
    · split
      · exact (Sm.i (Sm.rf) (Or.inr (by decide)))
      · split
        · exact (Sm.i (Sm.rf) (Or.inr (by decide)))
        · split
          · generalize LMO_share_45 300 (sI S 49 4 0) x1 x2 x3 0 (30 * x2) = q
            obtain ⟨y42_4, y42_5⟩ := q
            dsimp only
            exact (Sm.i (Sm.rf) (Or.inr (by decide)))
          · exact (Sm.i (Sm.rf) (Or.inr (by decide)))
theorem fq_FMO_closeMonth (S : hS) (x1 : Int32) : Sm S (FMO_closeMonth S x1).2 := by
  rw [FMO_closeMonth_e]
  split
  · split
    · exact (Sm.i (Sm.rf) (Or.inr (by decide)))
    · exact (Sm.l ((Sm.i (Sm.rf) (Or.inr (by decide)))))
  · exact (Sm.i (Sm.rf) (Or.inr (by decide)))
theorem fq_LMO_reverse_99 : ∀ (n : Nat) (S : hS) (x1 : Int32) (x2 : Int64) (x4 : Int32) (x5 : Int32), Sm S (LMO_reverse_99 n S x1 x2 x4 x5).2
  | 0, S, x1, x2, x4, x5 => Sm.rf
  | n + 1, S, x1, x2, x4, x5 => by
    rw [LMO_reverse_99_s]
    split
    · exact Sm.rf
    · exact Sm.tr ((Sm.l ((Sm.tr (Sm.rf) (Sm.of (fr_FMO_addRow S x4 ((S.2 50 (((300 + (6 * x1)) + x5).toNatClampNeg)).toInt32) (-(S.2 50 (((540 + (6 * x1)) + x5).toNatClampNeg)))) (by decide)))))) (fq_LMO_reverse_99 n (sL (FMO_addRow S x4 ((S.2 50 (((300 + (6 * x1)) + x5).toNatClampNeg)).toInt32) (-(S.2 50 (((540 + (6 * x1)) + x5).toNatClampNeg)))) 50 (((780 + (6 * x1)) + x5).toNatClampNeg) 0) x1 x2 x4 (x5 + 1))
theorem fq_FMO_reverse (S : hS) (x1 : Int32) (x2 : Int64) : Sm S (FMO_reverse S x1 x2).2 := by
  rw [FMO_reverse_e]
  split
  · exact (Sm.i (Sm.rf) (Or.inr (by decide)))
  · split
    · exact (Sm.i (Sm.rf) (Or.inr (by decide)))
    · split
      · exact (Sm.i (Sm.rf) (Or.inr (by decide)))
      · split
        · exact (Sm.i (Sm.rf) (Or.inr (by decide)))
        · split
          · split
            · exact (Sm.i (Sm.rf) (Or.inr (by decide)))
            · split
              · exact (Sm.i (Sm.rf) (Or.inr (by decide)))
              · have hS15 : Sm S (FMO_addEntry (sI S 49 4 0) x2 2).2 := Sm.tr ((Sm.i (Sm.rf) (Or.inr (by decide)))) (Sm.of (fr_FMO_addEntry (sI S 49 4 0) x2 2) (by decide))
                generalize FMO_addEntry (sI S 49 4 0) x2 2 = q at hS15 ⊢
                obtain ⟨v15, S15⟩ := q
                dsimp only at hS15 ⊢
                have hS24 : Sm S (LMO_reverse_99 300 S15 x1 x2 v15 0).2 := Sm.tr (hS15) (fq_LMO_reverse_99 300 S15 x1 x2 v15 0)
                generalize LMO_reverse_99 300 S15 x1 x2 v15 0 = q at hS24 ⊢
                obtain ⟨y24_5, S24⟩ := q
                dsimp only at hS24 ⊢
                exact (Sm.l ((Sm.l (hS24))))
          · exact (Sm.i (Sm.rf) (Or.inr (by decide)))
theorem fq_FMO_interest (S : hS) (x1 : Int32) (x2 : Int64) (x4 : Int32) : Sm S (FMO_interest S x1 x2 x4).2 := by
  rw [FMO_interest_e]
  split
  · exact (Sm.i (Sm.rf) (Or.inr (by decide)))
  · split
    · exact (Sm.i (Sm.rf) (Or.inr (by decide)))
    · split
      · exact (Sm.i (Sm.rf) (Or.inr (by decide)))
      · split
        · generalize LMO_interest_41 300 (sI S 49 4 0) x1 x2 x4 0 0 = q
          obtain ⟨y18_5, y18_7⟩ := q
          dsimp only
          split
          · exact (Sm.i (Sm.rf) (Or.inr (by decide)))
          · exact (Sm.i (Sm.rf) (Or.inr (by decide)))
        · exact (Sm.i (Sm.rf) (Or.inr (by decide)))
theorem fq_FMO_rate (S : hS) (x1 : Int64) (x3 : Int64) : Sm S (FMO_rate S x1 x3).2 := by
  rw [FMO_rate_e]
  split
  · exact (Sm.i (Sm.rf) (Or.inr (by decide)))
  · split
    · exact (Sm.i (Sm.rf) (Or.inr (by decide)))
    · exact (Sm.l ((Sm.l ((Sm.i (Sm.rf) (Or.inr (by decide)))))))
theorem fq_FMO_statement (S : hS) (x1 : Int32) (x2 : Int32) (x3 : Int32) : Sm S (FMO_statement S x1 x2 x3).2 := by
  rw [FMO_statement_e]
  cases LMO_statement_11 300 (sI S 49 4 0) x1 x2 x3 0 0 with
  | inl q => exact (Sm.i (Sm.rf) (Or.inr (by decide)))
  | inr q =>
    dsimp only [Sum.elim_inr]
    exact (Sm.i (Sm.rf) (Or.inr (by decide)))
theorem fq_FMO_tax (S : hS) (x1 : Int32) : Sm S (FMO_tax S x1).2 := by
  rw [FMO_tax_e]
  generalize LMO_tax_10 300 (sI S 49 4 0) x1 0 0 = q
  obtain ⟨y26_2, y26_4⟩ := q
  dsimp only
  split
  · exact (Sm.i (Sm.rf) (Or.inr (by decide)))
  · exact (Sm.i (Sm.rf) (Or.inr (by decide)))
theorem fq_FMO_found (S : hS) (x1 : Int32) : Sm S (FMO_found S x1).2 := by
  rw [FMO_found_e]
  split
  · exact (Sm.i (Sm.rf) (Or.inr (by decide)))
  · split
    · exact (Sm.i (Sm.rf) (Or.inr (by decide)))
    · exact (Sm.i (Sm.rf) (Or.inr (by decide)))
