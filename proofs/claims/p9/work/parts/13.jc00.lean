theorem jc_account {t L : Nat} (h6 : 6 * t + 6 ≤ L) (hL : L ≤ 3072) (S : hS) (x1 : Int32) (hJ : Jv t S) : (wfC S) ∧ (wfM ((FHL_account S x1).2)) ∧ (True) ∧ Jv (t + 1) ((FMO_account ((FHL_account S x1).2) x1).2) := by
  have i1 : I0 (FHL_account S x1).2 := I_C hJ.1 (fr_FHL_account S x1) (by decide) (wC_account hJ.1.1 x1)
  have i2 : I0 (FMO_account (FHL_account S x1).2 x1).2 := I_M i1 (fr_FMO_account _ x1) (by decide) (fq_FMO_account _ x1) (wM_account i1.2.2.1 x1)
  have r2 := q_account hJ.1 hJ.2.1 x1
  exact ⟨hJ.1.1, i1.2.2.1, trivial, i2, r2.2, Rj_account hJ.1 hJ.2.2.1 x1 i1.2.2.1, Xg_other hJ.2.2.2 (fr_FHL_account S x1) (by decide) (fr_FMO_account _ x1) (by decide) (fq_FMO_account _ x1) (fun j hj hk => Mn_account i1.2.2.1 x1 j (by omega))⟩
theorem jc_entry {t L : Nat} (h6 : 6 * t + 6 ≤ L) (hL : L ≤ 3072) (S : hS) (x1 : Int64) (hJ : Jv t S) : (wfC S) ∧ (wfM ((FHL_entry S x1).2)) ∧ (True) ∧ Jv (t + 1) ((FMO_entry ((FHL_entry S x1).2) x1).2) := by
  have i1 : I0 (FHL_entry S x1).2 := I_C hJ.1 (fr_FHL_entry S x1) (by decide) (wC_entry hJ.1.1 x1)
  have i2 : I0 (FMO_entry (FHL_entry S x1).2 x1).2 := I_M i1 (fr_FMO_entry _ x1) (by decide) (fq_FMO_entry _ x1) (wM_entry i1.2.2.1 x1)
  have j2 := q_entry hJ.1 hJ.2.1 hJ.2.2.1 x1
  exact ⟨hJ.1.1, i1.2.2.1, trivial, i2, Rl_other hJ.2.1 (fr_FHL_entry S x1) (Cs_of (fr_FHL_entry S x1) (by decide)) (by decide) (fr_FMO_entry _ x1) (by decide) (fq_FMO_entry _ x1) (Ms_entry i1.2.2.1 x1), j2.2, Xg_entry hJ.1 hJ.2.2.2 x1 i1.2.2.1⟩
theorem jc_row {t L : Nat} (h6 : 6 * t + 6 ≤ L) (hL : L ≤ 3072) (S : hS) (x1 : Int32) (x2 : Int32) (x3 : Int64) (hJ : Jv t S) : (wfC S) ∧ (wfM ((FHL_row S x1 x2 x3).2)) ∧ (True) ∧ Jv (t + 1) ((FMO_row ((FHL_row S x1 x2 x3).2) x1 x2 x3).2) := by
  have i1 : I0 (FHL_row S x1 x2 x3).2 := I_C hJ.1 (fr_FHL_row S x1 x2 x3) (by decide) (wC_row hJ.1.1 x1 x2 x3)
  have i2 : I0 (FMO_row (FHL_row S x1 x2 x3).2 x1 x2 x3).2 := I_M i1 (fr_FMO_row _ x1 x2 x3) (by decide) (fq_FMO_row _ x1 x2 x3) (wM_row i1.2.2.1 x1 x2 x3)
  have j2 := q_row hJ.1 hJ.2.1 hJ.2.2.1 x1 x2 x3
  exact ⟨hJ.1.1, i1.2.2.1, trivial, i2, Rl_other hJ.2.1 (fr_FHL_row S x1 x2 x3) (Cs_of (fr_FHL_row S x1 x2 x3) (by decide)) (by decide) (fr_FMO_row _ x1 x2 x3) (by decide) (fq_FMO_row _ x1 x2 x3) (Ms_row i1.2.2.1 x1 x2 x3), j2.2, Xg_row hJ.1 hJ.2.2.2 x1 x2 x3 i1.2.2.1⟩
theorem jc_close {t L : Nat} (h6 : 6 * t + 6 ≤ L) (hL : L ≤ 3072) (S : hS) (x1 : Int32) (hJ : Jv t S) : (wfC S) ∧ (wfM ((FLA_close S x1).2)) ∧ (True) ∧ Jv (t + 1) ((FMO_close ((FLA_close S x1).2) x1).2) := by
  have i1 : I0 (FLA_close S x1).2 := I_la hJ.1 x1
  have i2 : I0 (FMO_close (FLA_close S x1).2 x1).2 := I_M i1 (fr_FMO_close _ x1) (by decide) (fq_FMO_close _ x1) (wM_close i1.2.2.1 x1)
  have j2 := q_close hJ.1 hJ.2.1 hJ.2.2.1 x1
  exact ⟨hJ.1.1, i1.2.2.1, trivial, i2, Rl_other hJ.2.1 (fr_la S x1) (Cs_of (fr_la S x1) (by decide)) (by decide) (fr_FMO_close _ x1) (by decide) (fq_FMO_close _ x1) (Ms_close i1.2.2.1 x1), j2.2, Xg_close hJ.1 hJ.2.2.1 hJ.2.2.2 x1 i1.2.2.1⟩
theorem jc_balance {t L : Nat} (h6 : 6 * t + 6 ≤ L) (hL : L ≤ 3072) (S : hS) (x1 : Int32) (x2 : Int64) (hJ : Jv t S) : (wfC S) ∧ (wfM S) ∧ (True) ∧ Jv (t + 1) ((FMO_balance S x1 x2).2) := by
  have i1 : I0 S := hJ.1
  have i2 : I0 (FMO_balance S x1 x2).2 := I_N i1 (fr_FMO_balance _ x1 x2) (by decide) (fq_FMO_balance _ x1 x2)
  exact ⟨hJ.1.1, i1.2.2.1, trivial, i2, Rl_other hJ.2.1 (Same.rf (ks := [])) ⟨rfl, rfl, rfl, rfl, rfl⟩ (by decide) (fr_FMO_balance _ x1 x2) (by decide) (fq_FMO_balance _ x1 x2) (Ms_of (fr_FMO_balance _ x1 x2) (by decide)), Rj_other hJ.2.2.1 (Same.rf (ks := [])) (by decide) (fr_FMO_balance _ x1 x2) (by decide) (fq_FMO_balance _ x1 x2) (Mj_of (fr_FMO_balance _ x1 x2) (by decide)), Xg_other hJ.2.2.2 (Same.rf (ks := [])) (by decide) (fr_FMO_balance _ x1 x2) (by decide) (fq_FMO_balance _ x1 x2) (fun j hj hk => congrFun (fr_FMO_balance _ x1 x2 50 (by decide)).2 j)⟩
theorem jc_payment {t L : Nat} (h6 : 6 * t + 6 ≤ L) (hL : L ≤ 3072) (S : hS) (x1 : Int32) (x2 : Int64) (x4 : Int64) (hJ : Jv t S) : (wfC S) ∧ (wfM ((FHL_payment S x1 x2 x4).2)) ∧ (True) ∧ Jv (t + 1) ((FMO_payment ((FHL_payment S x1 x2 x4).2) x1 x2 x4).2) := by
  have i1 : I0 (FHL_payment S x1 x2 x4).2 := I_C hJ.1 (fr_FHL_payment S x1 x2 x4) (by decide) (wC_payment hJ.1.1 x1 x2 x4)
  have i2 : I0 (FMO_payment (FHL_payment S x1 x2 x4).2 x1 x2 x4).2 := I_M i1 (fr_FMO_payment _ x1 x2 x4) (by decide) (fq_FMO_payment _ x1 x2 x4) (wM_payment i1.2.2.1 x1 x2 x4)
  have j2 := q_payment hJ.1 hJ.2.1 hJ.2.2.1 x1 x2 x4
  exact ⟨hJ.1.1, i1.2.2.1, trivial, i2, Rl_other hJ.2.1 (fr_FHL_payment S x1 x2 x4) (Cs_payment S x1 x2 x4) (by decide) (fr_FMO_payment _ x1 x2 x4) (by decide) (fq_FMO_payment _ x1 x2 x4) (Ms_payment i1.2.2.1 x1 x2 x4), j2.2, Xg_payment hJ.1 hJ.2.1 hJ.2.2.1 hJ.2.2.2 x1 x2 x4⟩
