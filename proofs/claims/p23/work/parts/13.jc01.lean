theorem jc_item {t L : Nat} (h6 : 6 * t + 6 ≤ L) (hL : L ≤ 3072) (S : hS) (x1 : Int32) (x2 : Int32) (hJ : Jv t S) : (wfC S) ∧ (wfM S) ∧ (True) ∧ Jv (t + 1) ((FMO_item S x1 x2).2) := by
  have i1 : I0 S := hJ.1
  have i2 : I0 (FMO_item S x1 x2).2 := I_N i1 (fr_FMO_item _ x1 x2) (by decide) (fq_FMO_item _ x1 x2)
  exact ⟨hJ.1.1, i1.2.2.1, trivial, i2, Rl_other hJ.2.1 (Same.rf (ks := [])) ⟨rfl, rfl, rfl, rfl, rfl⟩ (by decide) (fr_FMO_item _ x1 x2) (by decide) (fq_FMO_item _ x1 x2) (Ms_of (fr_FMO_item _ x1 x2) (by decide)), Rj_other hJ.2.2 (Same.rf (ks := [])) (by decide) (fr_FMO_item _ x1 x2) (by decide) (fq_FMO_item _ x1 x2) (Mj_of (fr_FMO_item _ x1 x2) (by decide))⟩
theorem jc_opened {t L : Nat} (h6 : 6 * t + 6 ≤ L) (hL : L ≤ 3072) (S : hS) (x1 : Int32) (x2 : Int32) (hJ : Jv t S) : (wfC S) ∧ (wfM S) ∧ (True) ∧ Jv (t + 1) ((FMO_opened S x1 x2).2) := by
  have i1 : I0 S := hJ.1
  have i2 : I0 (FMO_opened S x1 x2).2 := I_N i1 (fr_FMO_opened _ x1 x2) (by decide) (fq_FMO_opened _ x1 x2)
  exact ⟨hJ.1.1, i1.2.2.1, trivial, i2, Rl_other hJ.2.1 (Same.rf (ks := [])) ⟨rfl, rfl, rfl, rfl, rfl⟩ (by decide) (fr_FMO_opened _ x1 x2) (by decide) (fq_FMO_opened _ x1 x2) (Ms_of (fr_FMO_opened _ x1 x2) (by decide)), Rj_other hJ.2.2 (Same.rf (ks := [])) (by decide) (fr_FMO_opened _ x1 x2) (by decide) (fq_FMO_opened _ x1 x2) (Mj_of (fr_FMO_opened _ x1 x2) (by decide))⟩
theorem jc_dun {t L : Nat} (h6 : 6 * t + 6 ≤ L) (hL : L ≤ 3072) (S : hS) (x1 : Int32) (x2 : Int64) (hJ : Jv t S) : (wfC S) ∧ (wfM ((FHL_dun S x1 x2).2)) ∧ (True) ∧ Jv (t + 1) ((FMO_dun ((FHL_dun S x1 x2).2) x1 x2).2) := by
  have i1 : I0 (FHL_dun S x1 x2).2 := I_C hJ.1 (fr_FHL_dun S x1 x2) (by decide) (wfC_S (fr_FHL_dun S x1 x2) (by decide) hJ.1.1)
  have i2 : I0 (FMO_dun (FHL_dun S x1 x2).2 x1 x2).2 := I_M i1 (fr_FMO_dun _ x1 x2) (by decide) (fq_FMO_dun _ x1 x2) (wM_dun i1.2.2.1 x1 x2)
  exact ⟨hJ.1.1, i1.2.2.1, trivial, i2, Rl_other hJ.2.1 (fr_FHL_dun S x1 x2) (Cs_of (fr_FHL_dun S x1 x2) (by decide)) (by decide) (fr_FMO_dun _ x1 x2) (by decide) (fq_FMO_dun _ x1 x2) (Ms_dun i1.2.2.1 x1 x2), Rj_other hJ.2.2 (fr_FHL_dun S x1 x2) (by decide) (fr_FMO_dun _ x1 x2) (by decide) (fq_FMO_dun _ x1 x2) (Mj_dun i1.2.2.1 x1 x2)⟩
theorem jc_hardship {t L : Nat} (h6 : 6 * t + 6 ≤ L) (hL : L ≤ 3072) (S : hS) (x1 : Int32) (x2 : Int64) (x4 : Int64) (hJ : Jv t S) : (wfC S) ∧ (wfM ((FHL_hardship S x1 x2 x4).2)) ∧ (True) ∧ Jv (t + 1) ((FMO_hardship ((FHL_hardship S x1 x2 x4).2) x1 x2 x4).2) := by
  have i1 : I0 (FHL_hardship S x1 x2 x4).2 := I_C hJ.1 (fr_FHL_hardship S x1 x2 x4) (by decide) (wfC_S (fr_FHL_hardship S x1 x2 x4) (by decide) hJ.1.1)
  have i2 : I0 (FMO_hardship (FHL_hardship S x1 x2 x4).2 x1 x2 x4).2 := I_M i1 (fr_FMO_hardship _ x1 x2 x4) (by decide) (fq_FMO_hardship _ x1 x2 x4) (wM_hardship i1.2.2.1 x1 x2 x4)
  exact ⟨hJ.1.1, i1.2.2.1, trivial, i2, Rl_other hJ.2.1 (fr_FHL_hardship S x1 x2 x4) (Cs_of (fr_FHL_hardship S x1 x2 x4) (by decide)) (by decide) (fr_FMO_hardship _ x1 x2 x4) (by decide) (fq_FMO_hardship _ x1 x2 x4) (Ms_hardship i1.2.2.1 x1 x2 x4), Rj_other hJ.2.2 (fr_FHL_hardship S x1 x2 x4) (by decide) (fr_FMO_hardship _ x1 x2 x4) (by decide) (fq_FMO_hardship _ x1 x2 x4) (Mj_hardship i1.2.2.1 x1 x2 x4)⟩
theorem jc_instal {t L : Nat} (h6 : 6 * t + 6 ≤ L) (hL : L ≤ 3072) (S : hS) (x1 : Int32) (x2 : Int32) (hJ : Jv t S) : (wfC S) ∧ (wfM ((FHL_instal S x1 x2).2)) ∧ (True) ∧ Jv (t + 1) ((FMO_instal ((FHL_instal S x1 x2).2) x1 x2).2) := by
  have i1 : I0 (FHL_instal S x1 x2).2 := I_C hJ.1 (fr_FHL_instal S x1 x2) (by decide) (wC_instal hJ.1.1 x1 x2)
  have i2 : I0 (FMO_instal (FHL_instal S x1 x2).2 x1 x2).2 := I_M i1 (fr_FMO_instal _ x1 x2) (by decide) (fq_FMO_instal _ x1 x2) (wM_instal i1.2.2.1 x1 x2)
  exact ⟨hJ.1.1, i1.2.2.1, trivial, i2, Rl_other hJ.2.1 (fr_FHL_instal S x1 x2) (Cs_of (fr_FHL_instal S x1 x2) (by decide)) (by decide) (fr_FMO_instal _ x1 x2) (by decide) (fq_FMO_instal _ x1 x2) (Ms_instal i1.2.2.1 x1 x2), Rj_other hJ.2.2 (fr_FHL_instal S x1 x2) (by decide) (fr_FMO_instal _ x1 x2) (by decide) (fq_FMO_instal _ x1 x2) (Mj_instal i1.2.2.1 x1 x2)⟩
theorem jc_due {t L : Nat} (h6 : 6 * t + 6 ≤ L) (hL : L ≤ 3072) (S : hS) (x1 : Int32) (x2 : Int32) (hJ : Jv t S) : (wfC S) ∧ (wfM S) ∧ (True) ∧ Jv (t + 1) ((FMO_due S x1 x2).2) := by
  have i1 : I0 S := hJ.1
  have i2 : I0 (FMO_due S x1 x2).2 := I_N i1 (fr_FMO_due _ x1 x2) (by decide) (fq_FMO_due _ x1 x2)
  exact ⟨hJ.1.1, i1.2.2.1, trivial, i2, Rl_other hJ.2.1 (Same.rf (ks := [])) ⟨rfl, rfl, rfl, rfl, rfl⟩ (by decide) (fr_FMO_due _ x1 x2) (by decide) (fq_FMO_due _ x1 x2) (Ms_of (fr_FMO_due _ x1 x2) (by decide)), Rj_other hJ.2.2 (Same.rf (ks := [])) (by decide) (fr_FMO_due _ x1 x2) (by decide) (fq_FMO_due _ x1 x2) (Mj_of (fr_FMO_due _ x1 x2) (by decide))⟩
