theorem jc_move {t L : Nat} (h6 : 6 * t + 6 ≤ L) (hL : L ≤ 3072) (S : hS) (x1 : Int32) (x2 : Int32) (x3 : Int64) (hJ : Jv t S) : (wfC S) ∧ (wfM ((FHL_move S x1 x2 x3).2)) ∧ (True) ∧ Jv (t + 1) ((FMO_move ((FHL_move S x1 x2 x3).2) x1 x2 x3).2) := by
  have i1 : I0 (FHL_move S x1 x2 x3).2 := I_C hJ.1 (fr_FHL_move S x1 x2 x3) (by decide) (wfC_S (fr_FHL_move S x1 x2 x3) (by decide) hJ.1.1)
  have i2 : I0 (FMO_move (FHL_move S x1 x2 x3).2 x1 x2 x3).2 := I_M i1 (fr_FMO_move _ x1 x2 x3) (by decide) (fq_FMO_move _ x1 x2 x3) (wM_move i1.2.2.1 x1 x2 x3)
  have r2 := q_move hJ.1 hJ.2.1 x1 x2 x3
  exact ⟨hJ.1.1, i1.2.2.1, trivial, i2, r2.2, Rj_other hJ.2.2.1 (fr_FHL_move S x1 x2 x3) (by decide) (fr_FMO_move _ x1 x2 x3) (by decide) (fq_FMO_move _ x1 x2 x3) (Mj_move i1.2.2.1 x1 x2 x3), Xg_other hJ.2.2.2 (fr_FHL_move S x1 x2 x3) (by decide) (fr_FMO_move _ x1 x2 x3) (by decide) (fq_FMO_move _ x1 x2 x3) (fun j hj hk => Mn_move i1.2.2.1 x1 x2 x3 j (by omega))⟩
theorem jc_share {t L : Nat} (h6 : 6 * t + 6 ≤ L) (hL : L ≤ 3072) (S : hS) (x1 : Int32) (x2 : Int32) (x3 : Int32) (hJ : Jv t S) : (wfC S) ∧ (wfM S) ∧ (True) ∧ Jv (t + 1) ((FMO_share S x1 x2 x3).2) := by
  have i1 : I0 S := hJ.1
  have i2 : I0 (FMO_share S x1 x2 x3).2 := I_N i1 (fr_FMO_share _ x1 x2 x3) (by decide) (fq_FMO_share _ x1 x2 x3)
  exact ⟨hJ.1.1, i1.2.2.1, trivial, i2, Rl_other hJ.2.1 (Same.rf (ks := [])) ⟨rfl, rfl, rfl, rfl, rfl⟩ (by decide) (fr_FMO_share _ x1 x2 x3) (by decide) (fq_FMO_share _ x1 x2 x3) (Ms_of (fr_FMO_share _ x1 x2 x3) (by decide)), Rj_other hJ.2.2.1 (Same.rf (ks := [])) (by decide) (fr_FMO_share _ x1 x2 x3) (by decide) (fq_FMO_share _ x1 x2 x3) (Mj_of (fr_FMO_share _ x1 x2 x3) (by decide)), Xg_other hJ.2.2.2 (Same.rf (ks := [])) (by decide) (fr_FMO_share _ x1 x2 x3) (by decide) (fq_FMO_share _ x1 x2 x3) (fun j hj hk => congrFun (fr_FMO_share _ x1 x2 x3 50 (by decide)).2 j)⟩
theorem jc_batch {t L : Nat} (h6 : 6 * t + 6 ≤ L) (hL : L ≤ 3072) (S : hS)  (hJ : Jv t S) : (True) ∧ (True) ∧ (True) ∧ Jv (t + 1) ((FMO_batch ((FHL_batch S).2)).2) := by
  have i1 : I0 (FHL_batch S).2 := I_batch hJ.1
  have i2 : I0 (FMO_batch (FHL_batch S).2).2 := IM_batch i1
  exact ⟨trivial, trivial, trivial, i2, Rl_batch hJ.2.1, Rj_batch hJ.2.1.1 hJ.2.2.1, R2_batch Xg_p hJ.2.1.1 hJ.2.2.2⟩
theorem jc_endBatch {t L : Nat} (h6 : 6 * t + 6 ≤ L) (hL : L ≤ 3072) (S : hS) (x1 : Int32) (hJ : Jv t S) : (True) ∧ (True) ∧ (True) ∧ Jv (t + 1) ((FMO_endBatch ((FHL_endBatch S x1).2) x1).2) := by
  have i1 : I0 (FHL_endBatch S x1).2 := I_endBatch hJ.1 x1
  have i2 : I0 (FMO_endBatch (FHL_endBatch S x1).2 x1).2 := IM_endBatch i1 x1
  exact ⟨trivial, trivial, trivial, i2, Rl_endBatch hJ.2.1 x1, Rj_endBatch hJ.2.1.1 hJ.2.2.1 x1, R2_endBatch Xg_p hJ.2.1.1 hJ.2.2.2 x1⟩
theorem jc_closeMonth {t L : Nat} (h6 : 6 * t + 6 ≤ L) (hL : L ≤ 3072) (S : hS) (x1 : Int32) (hJ : Jv t S) : (wfC S) ∧ (wfM ((FHL_closeMonth S x1).2)) ∧ (True) ∧ Jv (t + 1) ((FMO_closeMonth ((FHL_closeMonth S x1).2) x1).2) := by
  have i1 : I0 (FHL_closeMonth S x1).2 := I_C hJ.1 (fr_FHL_closeMonth S x1) (by decide) (wC_closeMonth hJ.1.1 x1)
  have i2 : I0 (FMO_closeMonth (FHL_closeMonth S x1).2 x1).2 := I_M i1 (fr_FMO_closeMonth _ x1) (by decide) (fq_FMO_closeMonth _ x1) (wM_closeMonth i1.2.2.1 x1)
  have r2 := q_closeMonth hJ.2.1 x1
  exact ⟨hJ.1.1, i1.2.2.1, trivial, i2, r2.2, Rj_other hJ.2.2.1 (fr_FHL_closeMonth S x1) (by decide) (fr_FMO_closeMonth _ x1) (by decide) (fq_FMO_closeMonth _ x1) (Mj_closeMonth x1), Xg_other hJ.2.2.2 (fr_FHL_closeMonth S x1) (by decide) (fr_FMO_closeMonth _ x1) (by decide) (fq_FMO_closeMonth _ x1) (fun j hj hk => Mn_closeMonth x1 j (by omega))⟩
theorem jc_reverse {t L : Nat} (h6 : 6 * t + 6 ≤ L) (hL : L ≤ 3072) (S : hS) (x1 : Int32) (x2 : Int64) (hJ : Jv t S) : (wfC S) ∧ (wfM ((FHL_reverse S x1 x2).2)) ∧ (True) ∧ Jv (t + 1) ((FMO_reverse ((FHL_reverse S x1 x2).2) x1 x2).2) := by
  have i1 : I0 (FHL_reverse S x1 x2).2 := I_C hJ.1 (fr_FHL_reverse S x1 x2) (by decide) (wC_reverse hJ.1.1 x1 x2)
  have i2 : I0 (FMO_reverse (FHL_reverse S x1 x2).2 x1 x2).2 := I_M i1 (fr_FMO_reverse _ x1 x2) (by decide) (fq_FMO_reverse _ x1 x2) (wM_reverse i1.2.2.1 x1 x2)
  have j2 := q_reverse hJ.1 hJ.2.1 hJ.2.2.1 x1 x2
  exact ⟨hJ.1.1, i1.2.2.1, trivial, i2, Rl_other hJ.2.1 (fr_FHL_reverse S x1 x2) (Cs_of (fr_FHL_reverse S x1 x2) (by decide)) (by decide) (fr_FMO_reverse _ x1 x2) (by decide) (fq_FMO_reverse _ x1 x2) (Ms_reverse i1.2.2.1 x1 x2), j2.2, Xg_reverse hJ.1 hJ.2.2.1 hJ.2.2.2 x1 x2 i1.2.2.1⟩
