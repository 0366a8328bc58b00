theorem jc_interest {t L : Nat} (h6 : 6 * t + 6 ≤ L) (hL : L ≤ 3072) (S : hS) (x1 : Int32) (x2 : Int64) (x4 : Int32) (hJ : Jv t S) : (wfC S) ∧ (wfM S) ∧ (True) ∧ Jv (t + 1) ((FMO_interest S x1 x2 x4).2) := by
  have i1 : I0 S := hJ.1
  have i2 : I0 (FMO_interest S x1 x2 x4).2 := I_N i1 (fr_FMO_interest _ x1 x2 x4) (by decide) (fq_FMO_interest _ x1 x2 x4)
  exact ⟨hJ.1.1, i1.2.2.1, trivial, i2, Rl_other hJ.2.1 (Same.rf (ks := [])) ⟨rfl, rfl, rfl, rfl, rfl⟩ (by decide) (fr_FMO_interest _ x1 x2 x4) (by decide) (fq_FMO_interest _ x1 x2 x4) (Ms_of (fr_FMO_interest _ x1 x2 x4) (by decide)), Rj_other hJ.2.2 (Same.rf (ks := [])) (by decide) (fr_FMO_interest _ x1 x2 x4) (by decide) (fq_FMO_interest _ x1 x2 x4) (Mj_of (fr_FMO_interest _ x1 x2 x4) (by decide))⟩
theorem jc_rate {t L : Nat} (h6 : 6 * t + 6 ≤ L) (hL : L ≤ 3072) (S : hS) (x1 : Int64) (x3 : Int64) (hJ : Jv t S) : (wfC S) ∧ (wfM ((FHL_rate S x1 x3).2)) ∧ (True) ∧ Jv (t + 1) ((FMO_rate ((FHL_rate S x1 x3).2) x1 x3).2) := by
  have i1 : I0 (FHL_rate S x1 x3).2 := I_C hJ.1 (fr_FHL_rate S x1 x3) (by decide) (wC_rate hJ.1.1 x1 x3)
  have i2 : I0 (FMO_rate (FHL_rate S x1 x3).2 x1 x3).2 := I_M i1 (fr_FMO_rate _ x1 x3) (by decide) (fq_FMO_rate _ x1 x3) (wM_rate i1.2.2.1 x1 x3)
  exact ⟨hJ.1.1, i1.2.2.1, trivial, i2, Rl_other hJ.2.1 (fr_FHL_rate S x1 x3) (Cs_rate S x1 x3) (by decide) (fr_FMO_rate _ x1 x3) (by decide) (fq_FMO_rate _ x1 x3) (Ms_rate x1 x3), Rj_other hJ.2.2 (fr_FHL_rate S x1 x3) (by decide) (fr_FMO_rate _ x1 x3) (by decide) (fq_FMO_rate _ x1 x3) (Mj_rate x1 x3)⟩
theorem jc_statement {t L : Nat} (h6 : 6 * t + 6 ≤ L) (hL : L ≤ 3072) (S : hS) (x1 : Int32) (x2 : Int32) (x3 : Int32) (hJ : Jv t S) : (wfC S) ∧ (wfM S) ∧ (True) ∧ Jv (t + 1) ((FMO_statement S x1 x2 x3).2) := by
  have i1 : I0 S := hJ.1
  have i2 : I0 (FMO_statement S x1 x2 x3).2 := I_N i1 (fr_FMO_statement _ x1 x2 x3) (by decide) (fq_FMO_statement _ x1 x2 x3)
  exact ⟨hJ.1.1, i1.2.2.1, trivial, i2, Rl_other hJ.2.1 (Same.rf (ks := [])) ⟨rfl, rfl, rfl, rfl, rfl⟩ (by decide) (fr_FMO_statement _ x1 x2 x3) (by decide) (fq_FMO_statement _ x1 x2 x3) (Ms_of (fr_FMO_statement _ x1 x2 x3) (by decide)), Rj_other hJ.2.2 (Same.rf (ks := [])) (by decide) (fr_FMO_statement _ x1 x2 x3) (by decide) (fq_FMO_statement _ x1 x2 x3) (Mj_of (fr_FMO_statement _ x1 x2 x3) (by decide))⟩
theorem jc_tax {t L : Nat} (h6 : 6 * t + 6 ≤ L) (hL : L ≤ 3072) (S : hS) (x1 : Int32) (hJ : Jv t S) : (wfC S) ∧ (wfM S) ∧ (FHL_tax S x1 = (FMO_tax S x1).1) ∧ Jv (t + 1) ((FMO_tax S x1).2) := by
  have i1 : I0 S := hJ.1
  have i2 : I0 (FMO_tax S x1).2 := I_N i1 (fr_FMO_tax _ x1) (by decide) (fq_FMO_tax _ x1)
  exact ⟨hJ.1.1, i1.2.2.1, q_tax hJ.1 hJ.2.1 hJ.2.2 x1, i2, Rl_other hJ.2.1 (Same.rf (ks := [])) ⟨rfl, rfl, rfl, rfl, rfl⟩ (by decide) (fr_FMO_tax _ x1) (by decide) (fq_FMO_tax _ x1) (Ms_of (fr_FMO_tax _ x1) (by decide)), Rj_other hJ.2.2 (Same.rf (ks := [])) (by decide) (fr_FMO_tax _ x1) (by decide) (fq_FMO_tax _ x1) (Mj_of (fr_FMO_tax _ x1) (by decide))⟩
theorem jc_found {t L : Nat} (h6 : 6 * t + 6 ≤ L) (hL : L ≤ 3072) (S : hS) (x1 : Int32) (hJ : Jv t S) : (wfC S) ∧ (wfM S) ∧ (True) ∧ Jv (t + 1) ((FMO_found S x1).2) := by
  have i1 : I0 S := hJ.1
  have i2 : I0 (FMO_found S x1).2 := I_N i1 (fr_FMO_found _ x1) (by decide) (fq_FMO_found _ x1)
  exact ⟨hJ.1.1, i1.2.2.1, trivial, i2, Rl_other hJ.2.1 (Same.rf (ks := [])) ⟨rfl, rfl, rfl, rfl, rfl⟩ (by decide) (fr_FMO_found _ x1) (by decide) (fq_FMO_found _ x1) (Ms_of (fr_FMO_found _ x1) (by decide)), Rj_other hJ.2.2 (Same.rf (ks := [])) (by decide) (fr_FMO_found _ x1) (by decide) (fq_FMO_found _ x1) (Mj_of (fr_FMO_found _ x1) (by decide))⟩
theorem jc_none {t L : Nat} (h6 : 6 * t + 6 ≤ L) (hL : L ≤ 3072) (S : hS) (hJ : Jv t S) : Jv (t + 1) S := hJ
