theorem vc_FMO_endBatch_mu21_7 (S : hS) (x1 : Int32) (x2 : Int32) (hJ : bt x2 1220) (c2 : ¬ (1220 ≤ x2)) (c3 : x1 = 0) : ((1220 - (x2 + 1).toInt).toNat) < ((1220 - x2.toInt).toNat) := by
    simp only [rg, bt, lp, vp_rg, Int32.lt_iff_toInt_lt, Int32.le_iff_toInt_le, Int64.lt_iff_toInt_lt, Int64.le_iff_toInt_le, l32, sI_2, tq_0, tq_1, tq_2, tq_6, tq_8, tq_10, tq_20, tq_30, tq_40, tl_0, tl_1, tl_2, tl_3, tl_4, tl_5, tl_6, tl_8, tl_10, tl_14, tl_20, tl_24, tl_30, tl_40, tl_50, tl_60, tl_70, tl_80, tl_100, tl_120, tl_140, tl_180, tl_220, tl_240, tl_260, tl_280, tl_300, tl_540, tl_780, tl_1020, tl_1180, tl_1190, tl_1200, tl_1220, tl_m1] at *
    have t0 : (x2 + 1).toInt = ((x2).toInt + 1) := (ti_add (a := (x2)) (b := (1 : Int32)) rfl tl_1 (by omega) (by omega))
    omega
theorem vc_FMO_endBatch_inv021_9 (S : hS) (x1 : Int32) (c1 : ¬ ((S.1 49 2) = 0)) : bt (0 : Int32) 1220 := by
    simp only [rg, bt, lp, vp_rg, Int32.lt_iff_toInt_lt, Int32.le_iff_toInt_le, Int64.lt_iff_toInt_lt, Int64.le_iff_toInt_le, l32, sI_2, tq_0, tq_1, tq_2, tq_6, tq_8, tq_10, tq_20, tq_30, tq_40, tl_0, tl_1, tl_2, tl_3, tl_4, tl_5, tl_6, tl_8, tl_10, tl_14, tl_20, tl_24, tl_30, tl_40, tl_50, tl_60, tl_70, tl_80, tl_100, tl_120, tl_140, tl_180, tl_220, tl_240, tl_260, tl_280, tl_300, tl_540, tl_780, tl_1020, tl_1180, tl_1190, tl_1200, tl_1220, tl_m1] at *
    have t0 : (0 : Int32).toInt = 0 := tl_0
    omega
theorem vc_FMO_endBatch_mu021_10 (S : hS) (x1 : Int32) (c1 : ¬ ((S.1 49 2) = 0)) : ((1220 - (0 : Int32).toInt).toNat) < 1300 := by
    simp only [rg, bt, lp, vp_rg, Int32.lt_iff_toInt_lt, Int32.le_iff_toInt_le, Int64.lt_iff_toInt_lt, Int64.le_iff_toInt_le, l32, sI_2, tq_0, tq_1, tq_2, tq_6, tq_8, tq_10, tq_20, tq_30, tq_40, tl_0, tl_1, tl_2, tl_3, tl_4, tl_5, tl_6, tl_8, tl_10, tl_14, tl_20, tl_24, tl_30, tl_40, tl_50, tl_60, tl_70, tl_80, tl_100, tl_120, tl_140, tl_180, tl_220, tl_240, tl_260, tl_280, tl_300, tl_540, tl_780, tl_1020, tl_1180, tl_1190, tl_1200, tl_1220, tl_m1] at *
    have t0 : (0 : Int32).toInt = 0 := tl_0
    omega
theorem vc_FMO_closeMonth_ix12_1 (S : hS) (x1 : Int32) (hp : wfM S) : vp_in 2 1220 := by
    have m0 := hp.1
    have m1 := hp.2.1
    have m3 := hp.2.2.1
    have m4 := hp.2.2.2.1
    have m6 := hp.2.2.2.2.2.2.1
    simp only [rg, bt, lp, vp_rg, Int32.lt_iff_toInt_lt, Int32.le_iff_toInt_le, Int64.lt_iff_toInt_lt, Int64.le_iff_toInt_le, l32, sI_2, tq_0, tq_1, tq_2, tq_6, tq_8, tq_10, tq_20, tq_30, tq_40, tl_0, tl_1, tl_2, tl_3, tl_4, tl_5, tl_6, tl_8, tl_10, tl_14, tl_20, tl_24, tl_30, tl_40, tl_50, tl_60, tl_70, tl_80, tl_100, tl_120, tl_140, tl_180, tl_220, tl_240, tl_260, tl_280, tl_300, tl_540, tl_780, tl_1020, tl_1180, tl_1190, tl_1200, tl_1220, tl_m1] at *
    have t0 : (2 : Int32).toInt = 2 := tl_2
    omega
theorem vc_FMO_closeMonth_ix22_3 (S : hS) (x1 : Int32) (hp : wfM S) (c2 : x1.toInt64 = (S.2 50 2)) : vp_in 2 1220 := by
    have m0 := hp.1
    have m1 := hp.2.1
    have m3 := hp.2.2.1
    have m4 := hp.2.2.2.1
    have m6 := hp.2.2.2.2.2.2.1
    simp only [rg, bt, lp, vp_rg, Int32.lt_iff_toInt_lt, Int32.le_iff_toInt_le, Int64.lt_iff_toInt_lt, Int64.le_iff_toInt_le, l32, sI_2, tq_0, tq_1, tq_2, tq_6, tq_8, tq_10, tq_20, tq_30, tq_40, tl_0, tl_1, tl_2, tl_3, tl_4, tl_5, tl_6, tl_8, tl_10, tl_14, tl_20, tl_24, tl_30, tl_40, tl_50, tl_60, tl_70, tl_80, tl_100, tl_120, tl_140, tl_180, tl_220, tl_240, tl_260, tl_280, tl_300, tl_540, tl_780, tl_1020, tl_1180, tl_1190, tl_1200, tl_1220, tl_m1] at *
    have t0 : (2 : Int32).toInt = 2 := tl_2
    omega
theorem vc_FMO_closeMonth_ix38_5 (S : hS) (x1 : Int32) (hp : wfM S) (c2 : x1.toInt64 = (S.2 50 2)) (c4 : ¬ ((S.2 50 2) = 120)) : vp_in 2 1220 := by
    have m0 := hp.1
    have m1 := hp.2.1
    have m3 := hp.2.2.1
    have m4 := hp.2.2.2.1
    have m6 := hp.2.2.2.2.2.2.1
    have k0 := ne64 c4
    simp only [rg, bt, lp, vp_rg, Int32.lt_iff_toInt_lt, Int32.le_iff_toInt_le, Int64.lt_iff_toInt_lt, Int64.le_iff_toInt_le, l32, sI_2, tq_0, tq_1, tq_2, tq_6, tq_8, tq_10, tq_20, tq_30, tq_40, tl_0, tl_1, tl_2, tl_3, tl_4, tl_5, tl_6, tl_8, tl_10, tl_14, tl_20, tl_24, tl_30, tl_40, tl_50, tl_60, tl_70, tl_80, tl_100, tl_120, tl_140, tl_180, tl_220, tl_240, tl_260, tl_280, tl_300, tl_540, tl_780, tl_1020, tl_1180, tl_1190, tl_1200, tl_1220, tl_m1] at *
    have t0 : (2 : Int32).toInt = 2 := tl_2
    omega
theorem vc_FMO_closeMonth_ix41_6 (S : hS) (x1 : Int32) (hp : wfM S) (c2 : x1.toInt64 = (S.2 50 2)) (c4 : ¬ ((S.2 50 2) = 120)) : vp_in 2 1220 := by
    have m0 := hp.1
    have m1 := hp.2.1
    have m3 := hp.2.2.1
    have m4 := hp.2.2.2.1
    have m6 := hp.2.2.2.2.2.2.1
    have k0 := ne64 c4
    simp only [rg, bt, lp, vp_rg, Int32.lt_iff_toInt_lt, Int32.le_iff_toInt_le, Int64.lt_iff_toInt_lt, Int64.le_iff_toInt_le, l32, sI_2, tq_0, tq_1, tq_2, tq_6, tq_8, tq_10, tq_20, tq_30, tq_40, tl_0, tl_1, tl_2, tl_3, tl_4, tl_5, tl_6, tl_8, tl_10, tl_14, tl_20, tl_24, tl_30, tl_40, tl_50, tl_60, tl_70, tl_80, tl_100, tl_120, tl_140, tl_180, tl_220, tl_240, tl_260, tl_280, tl_300, tl_540, tl_780, tl_1020, tl_1180, tl_1190, tl_1200, tl_1220, tl_m1] at *
    have t0 : (2 : Int32).toInt = 2 := tl_2
    omega
theorem vc_FMO_isPaid_ix15_1 (S : hS) (x1 : Int32) (x2 : Int32) (x3 : Int32) (hJ : wfM S ∧ bt x3 6 ∧ rg x1 40) : vp_in (260 + x1) 1220 := by
    have k0 := hJ.2.1
    have k1 := hJ.2.2
    have m0 := hJ.1.1
    have m1 := hJ.1.2.1
    have m3 := hJ.1.2.2.1
    have m4 := hJ.1.2.2.2.1
    have m6 := hJ.1.2.2.2.2.2.2.1
    simp only [rg, bt, lp, vp_rg, Int32.lt_iff_toInt_lt, Int32.le_iff_toInt_le, Int64.lt_iff_toInt_lt, Int64.le_iff_toInt_le, l32, sI_2, tq_0, tq_1, tq_2, tq_6, tq_8, tq_10, tq_20, tq_30, tq_40, tl_0, tl_1, tl_2, tl_3, tl_4, tl_5, tl_6, tl_8, tl_10, tl_14, tl_20, tl_24, tl_30, tl_40, tl_50, tl_60, tl_70, tl_80, tl_100, tl_120, tl_140, tl_180, tl_220, tl_240, tl_260, tl_280, tl_300, tl_540, tl_780, tl_1020, tl_1180, tl_1190, tl_1200, tl_1220, tl_m1] at *
    have t0 : (260 + x1).toInt = (260 + (x1).toInt) := (ti_add (a := (260 : Int32)) (b := (x1)) tl_260 rfl (by omega) (by omega))
    omega
theorem vc_FMO_isPaid_inv4_4 (S : hS) (x1 : Int32) (x2 : Int32) (x3 : Int32) (hJ : wfM S ∧ bt x3 6 ∧ rg x1 40) (c2 : ¬ ((S.2 50 ((260 + x1).toNatClampNeg)) ≤ x3.toInt64)) (c3 : ¬ (x2 = 0)) : wfM S ∧ bt (x3 + 1) 6 ∧ rg x1 40 := ⟨hJ.1, (by
    have k0 := hJ.2.1
    have k1 := hJ.2.2
    have m0 := hJ.1.1
    have m1 := hJ.1.2.1
    have m3 := hJ.1.2.2.1
    have m4 := hJ.1.2.2.2.1
    have m6 := hJ.1.2.2.2.2.2.2.1
    simp only [rg, bt, lp, vp_rg, Int32.lt_iff_toInt_lt, Int32.le_iff_toInt_le, Int64.lt_iff_toInt_lt, Int64.le_iff_toInt_le, l32, sI_2, tq_0, tq_1, tq_2, tq_6, tq_8, tq_10, tq_20, tq_30, tq_40, tl_0, tl_1, tl_2, tl_3, tl_4, tl_5, tl_6, tl_8, tl_10, tl_14, tl_20, tl_24, tl_30, tl_40, tl_50, tl_60, tl_70, tl_80, tl_100, tl_120, tl_140, tl_180, tl_220, tl_240, tl_260, tl_280, tl_300, tl_540, tl_780, tl_1020, tl_1180, tl_1190, tl_1200, tl_1220, tl_m1] at *
    have k2 := wfM_r hJ.1 (x := x1) (by simp only [rg]; omega)
    have t0 : (x3 + 1).toInt = ((x3).toInt + 1) := (ti_add (a := (x3)) (b := (1 : Int32)) rfl tl_1 (by omega) (by omega))
    omega), hJ.2.2⟩
theorem vc_FMO_isPaid_mu4_5 (S : hS) (x1 : Int32) (x2 : Int32) (x3 : Int32) (hJ : wfM S ∧ bt x3 6 ∧ rg x1 40) (c2 : ¬ ((S.2 50 ((260 + x1).toNatClampNeg)) ≤ x3.toInt64)) (c3 : ¬ (x2 = 0)) : ((6 - (x3 + 1).toInt).toNat) < ((6 - x3.toInt).toNat) := by
    have k0 := hJ.2.1
    have k1 := hJ.2.2
    have m0 := hJ.1.1
    have m1 := hJ.1.2.1
    have m3 := hJ.1.2.2.1
    have m4 := hJ.1.2.2.2.1
    have m6 := hJ.1.2.2.2.2.2.2.1
    simp only [rg, bt, lp, vp_rg, Int32.lt_iff_toInt_lt, Int32.le_iff_toInt_le, Int64.lt_iff_toInt_lt, Int64.le_iff_toInt_le, l32, sI_2, tq_0, tq_1, tq_2, tq_6, tq_8, tq_10, tq_20, tq_30, tq_40, tl_0, tl_1, tl_2, tl_3, tl_4, tl_5, tl_6, tl_8, tl_10, tl_14, tl_20, tl_24, tl_30, tl_40, tl_50, tl_60, tl_70, tl_80, tl_100, tl_120, tl_140, tl_180, tl_220, tl_240, tl_260, tl_280, tl_300, tl_540, tl_780, tl_1020, tl_1180, tl_1190, tl_1200, tl_1220, tl_m1] at *
    have k2 := wfM_r hJ.1 (x := x1) (by simp only [rg]; omega)
    have t0 : (x3 + 1).toInt = ((x3).toInt + 1) := (ti_add (a := (x3)) (b := (1 : Int32)) rfl tl_1 (by omega) (by omega))
    omega
theorem vc_FMO_isPaid_pre27_6 (S : hS) (x1 : Int32) (x2 : Int32) (x3 : Int32) (hJ : wfM S ∧ bt x3 6 ∧ rg x1 40) (c2 : ¬ ((S.2 50 ((260 + x1).toNatClampNeg)) ≤ x3.toInt64)) (c3 : x2 = 0) : wfM S ∧ rg x1 40 ∧ rg x3 6 := ⟨hJ.1, hJ.2.2, (by
    have k0 := hJ.2.1
    have k1 := hJ.2.2
    have m0 := hJ.1.1
    have m1 := hJ.1.2.1
    have m3 := hJ.1.2.2.1
    have m4 := hJ.1.2.2.2.1
    have m6 := hJ.1.2.2.2.2.2.2.1
    simp only [rg, bt, lp, vp_rg, Int32.lt_iff_toInt_lt, Int32.le_iff_toInt_le, Int64.lt_iff_toInt_lt, Int64.le_iff_toInt_le, l32, sI_2, tq_0, tq_1, tq_2, tq_6, tq_8, tq_10, tq_20, tq_30, tq_40, tl_0, tl_1, tl_2, tl_3, tl_4, tl_5, tl_6, tl_8, tl_10, tl_14, tl_20, tl_24, tl_30, tl_40, tl_50, tl_60, tl_70, tl_80, tl_100, tl_120, tl_140, tl_180, tl_220, tl_240, tl_260, tl_280, tl_300, tl_540, tl_780, tl_1020, tl_1180, tl_1190, tl_1200, tl_1220, tl_m1] at *
    have k2 := wfM_r hJ.1 (x := x1) (by simp only [rg]; omega)
    omega)⟩
theorem vc_FMO_isPaid_inv4_8 (S : hS) (x1 : Int32) (x2 : Int32) (x3 : Int32) (hJ : wfM S ∧ bt x3 6 ∧ rg x1 40) (c2 : ¬ ((S.2 50 ((260 + x1).toNatClampNeg)) ≤ x3.toInt64)) (c3 : x2 = 0) (c7 : (FMO_isItem S x1 x3) = 0) : wfM S ∧ bt (x3 + 1) 6 ∧ rg x1 40 := ⟨hJ.1, (by
    have k0 := hJ.2.1
    have k1 := hJ.2.2
    have m0 := hJ.1.1
    have m1 := hJ.1.2.1
    have m3 := hJ.1.2.2.1
    have m4 := hJ.1.2.2.2.1
    have m6 := hJ.1.2.2.2.2.2.2.1
    simp only [rg, bt, lp, vp_rg, Int32.lt_iff_toInt_lt, Int32.le_iff_toInt_le, Int64.lt_iff_toInt_lt, Int64.le_iff_toInt_le, l32, sI_2, tq_0, tq_1, tq_2, tq_6, tq_8, tq_10, tq_20, tq_30, tq_40, tl_0, tl_1, tl_2, tl_3, tl_4, tl_5, tl_6, tl_8, tl_10, tl_14, tl_20, tl_24, tl_30, tl_40, tl_50, tl_60, tl_70, tl_80, tl_100, tl_120, tl_140, tl_180, tl_220, tl_240, tl_260, tl_280, tl_300, tl_540, tl_780, tl_1020, tl_1180, tl_1190, tl_1200, tl_1220, tl_m1] at *
    have k2 := wfM_r hJ.1 (x := x1) (by simp only [rg]; omega)
    have t0 : (x3 + 1).toInt = ((x3).toInt + 1) := (ti_add (a := (x3)) (b := (1 : Int32)) rfl tl_1 (by omega) (by omega))
    omega), hJ.2.2⟩
theorem vc_FMO_isPaid_mu4_9 (S : hS) (x1 : Int32) (x2 : Int32) (x3 : Int32) (hJ : wfM S ∧ bt x3 6 ∧ rg x1 40) (c2 : ¬ ((S.2 50 ((260 + x1).toNatClampNeg)) ≤ x3.toInt64)) (c3 : x2 = 0) (c7 : (FMO_isItem S x1 x3) = 0) : ((6 - (x3 + 1).toInt).toNat) < ((6 - x3.toInt).toNat) := by
    have k0 := hJ.2.1
    have k1 := hJ.2.2
    have m0 := hJ.1.1
    have m1 := hJ.1.2.1
    have m3 := hJ.1.2.2.1
    have m4 := hJ.1.2.2.2.1
    have m6 := hJ.1.2.2.2.2.2.2.1
    simp only [rg, bt, lp, vp_rg, Int32.lt_iff_toInt_lt, Int32.le_iff_toInt_le, Int64.lt_iff_toInt_lt, Int64.le_iff_toInt_le, l32, sI_2, tq_0, tq_1, tq_2, tq_6, tq_8, tq_10, tq_20, tq_30, tq_40, tl_0, tl_1, tl_2, tl_3, tl_4, tl_5, tl_6, tl_8, tl_10, tl_14, tl_20, tl_24, tl_30, tl_40, tl_50, tl_60, tl_70, tl_80, tl_100, tl_120, tl_140, tl_180, tl_220, tl_240, tl_260, tl_280, tl_300, tl_540, tl_780, tl_1020, tl_1180, tl_1190, tl_1200, tl_1220, tl_m1] at *
    have k2 := wfM_r hJ.1 (x := x1) (by simp only [rg]; omega)
    have t0 : (x3 + 1).toInt = ((x3).toInt + 1) := (ti_add (a := (x3)) (b := (1 : Int32)) rfl tl_1 (by omega) (by omega))
    omega
theorem vc_FMO_isPaid_ix47_10 (S : hS) (x1 : Int32) (x2 : Int32) (x3 : Int32) (hJ : wfM S ∧ bt x3 6 ∧ rg x1 40) (c2 : ¬ ((S.2 50 ((260 + x1).toNatClampNeg)) ≤ x3.toInt64)) (c3 : x2 = 0) (c7 : ¬ ((FMO_isItem S x1 x3) = 0)) : vp_in ((780 + (6 * x1)) + x3) 1220 := by
    have k0 := hJ.2.1
    have k1 := hJ.2.2
    have m0 := hJ.1.1
    have m1 := hJ.1.2.1
    have m3 := hJ.1.2.2.1
    have m4 := hJ.1.2.2.2.1
    have m6 := hJ.1.2.2.2.2.2.2.1
    simp only [rg, bt, lp, vp_rg, Int32.lt_iff_toInt_lt, Int32.le_iff_toInt_le, Int64.lt_iff_toInt_lt, Int64.le_iff_toInt_le, l32, sI_2, tq_0, tq_1, tq_2, tq_6, tq_8, tq_10, tq_20, tq_30, tq_40, tl_0, tl_1, tl_2, tl_3, tl_4, tl_5, tl_6, tl_8, tl_10, tl_14, tl_20, tl_24, tl_30, tl_40, tl_50, tl_60, tl_70, tl_80, tl_100, tl_120, tl_140, tl_180, tl_220, tl_240, tl_260, tl_280, tl_300, tl_540, tl_780, tl_1020, tl_1180, tl_1190, tl_1200, tl_1220, tl_m1] at *
    have k2 := wfM_r hJ.1 (x := x1) (by simp only [rg]; omega)
    have t0 : ((780 + (6 * x1)) + x3).toInt = ((780 + (6 * (x1).toInt)) + (x3).toInt) := (ti_add (a := (780 + (6 * x1))) (b := (x3)) (ti_add (a := (780 : Int32)) (b := (6 * x1)) tl_780 (ti_mul (a := (6 : Int32)) (b := (x1)) tl_6 rfl (by omega) (by omega)) (by omega) (by omega)) rfl (by omega) (by omega))
    omega
theorem vc_FMO_isPaid_ix62_11 (S : hS) (x1 : Int32) (x2 : Int32) (x3 : Int32) (hJ : wfM S ∧ bt x3 6 ∧ rg x1 40) (c2 : ¬ ((S.2 50 ((260 + x1).toNatClampNeg)) ≤ x3.toInt64)) (c3 : x2 = 0) (c7 : ¬ ((FMO_isItem S x1 x3) = 0)) : vp_in ((540 + (6 * x1)) + x3) 1220 := by
    have k0 := hJ.2.1
    have k1 := hJ.2.2
    have m0 := hJ.1.1
    have m1 := hJ.1.2.1
    have m3 := hJ.1.2.2.1
    have m4 := hJ.1.2.2.2.1
    have m6 := hJ.1.2.2.2.2.2.2.1
    simp only [rg, bt, lp, vp_rg, Int32.lt_iff_toInt_lt, Int32.le_iff_toInt_le, Int64.lt_iff_toInt_lt, Int64.le_iff_toInt_le, l32, sI_2, tq_0, tq_1, tq_2, tq_6, tq_8, tq_10, tq_20, tq_30, tq_40, tl_0, tl_1, tl_2, tl_3, tl_4, tl_5, tl_6, tl_8, tl_10, tl_14, tl_20, tl_24, tl_30, tl_40, tl_50, tl_60, tl_70, tl_80, tl_100, tl_120, tl_140, tl_180, tl_220, tl_240, tl_260, tl_280, tl_300, tl_540, tl_780, tl_1020, tl_1180, tl_1190, tl_1200, tl_1220, tl_m1] at *
    have k2 := wfM_r hJ.1 (x := x1) (by simp only [rg]; omega)
    have t0 : ((540 + (6 * x1)) + x3).toInt = ((540 + (6 * (x1).toInt)) + (x3).toInt) := (ti_add (a := (540 + (6 * x1))) (b := (x3)) (ti_add (a := (540 : Int32)) (b := (6 * x1)) tl_540 (ti_mul (a := (6 : Int32)) (b := (x1)) tl_6 rfl (by omega) (by omega)) (by omega) (by omega)) rfl (by omega) (by omega))
    omega
theorem vc_FMO_isPaid_inv4_13 (S : hS) (x1 : Int32) (x2 : Int32) (x3 : Int32) (hJ : wfM S ∧ bt x3 6 ∧ rg x1 40) (c2 : ¬ ((S.2 50 ((260 + x1).toNatClampNeg)) ≤ x3.toInt64)) (c3 : x2 = 0) (c7 : ¬ ((FMO_isItem S x1 x3) = 0)) (c12 : (S.2 50 (((540 + (6 * x1)) + x3).toNatClampNeg)) ≤ (S.2 50 (((780 + (6 * x1)) + x3).toNatClampNeg))) : wfM S ∧ bt (x3 + 1) 6 ∧ rg x1 40 := ⟨hJ.1, (by
    have k0 := hJ.2.1
    have k1 := hJ.2.2
    have m0 := hJ.1.1
    have m1 := hJ.1.2.1
    have m3 := hJ.1.2.2.1
    have m4 := hJ.1.2.2.2.1
    have m6 := hJ.1.2.2.2.2.2.2.1
    simp only [rg, bt, lp, vp_rg, Int32.lt_iff_toInt_lt, Int32.le_iff_toInt_le, Int64.lt_iff_toInt_lt, Int64.le_iff_toInt_le, l32, sI_2, tq_0, tq_1, tq_2, tq_6, tq_8, tq_10, tq_20, tq_30, tq_40, tl_0, tl_1, tl_2, tl_3, tl_4, tl_5, tl_6, tl_8, tl_10, tl_14, tl_20, tl_24, tl_30, tl_40, tl_50, tl_60, tl_70, tl_80, tl_100, tl_120, tl_140, tl_180, tl_220, tl_240, tl_260, tl_280, tl_300, tl_540, tl_780, tl_1020, tl_1180, tl_1190, tl_1200, tl_1220, tl_m1] at *
    have k2 := wfM_r hJ.1 (x := x1) (by simp only [rg]; omega)
    have t0 : (x3 + 1).toInt = ((x3).toInt + 1) := (ti_add (a := (x3)) (b := (1 : Int32)) rfl tl_1 (by omega) (by omega))
    omega), hJ.2.2⟩
theorem vc_FMO_isPaid_mu4_14 (S : hS) (x1 : Int32) (x2 : Int32) (x3 : Int32) (hJ : wfM S ∧ bt x3 6 ∧ rg x1 40) (c2 : ¬ ((S.2 50 ((260 + x1).toNatClampNeg)) ≤ x3.toInt64)) (c3 : x2 = 0) (c7 : ¬ ((FMO_isItem S x1 x3) = 0)) (c12 : (S.2 50 (((540 + (6 * x1)) + x3).toNatClampNeg)) ≤ (S.2 50 (((780 + (6 * x1)) + x3).toNatClampNeg))) : ((6 - (x3 + 1).toInt).toNat) < ((6 - x3.toInt).toNat) := by
    have k0 := hJ.2.1
    have k1 := hJ.2.2
    have m0 := hJ.1.1
    have m1 := hJ.1.2.1
    have m3 := hJ.1.2.2.1
    have m4 := hJ.1.2.2.2.1
    have m6 := hJ.1.2.2.2.2.2.2.1
    simp only [rg, bt, lp, vp_rg, Int32.lt_iff_toInt_lt, Int32.le_iff_toInt_le, Int64.lt_iff_toInt_lt, Int64.le_iff_toInt_le, l32, sI_2, tq_0, tq_1, tq_2, tq_6, tq_8, tq_10, tq_20, tq_30, tq_40, tl_0, tl_1, tl_2, tl_3, tl_4, tl_5, tl_6, tl_8, tl_10, tl_14, tl_20, tl_24, tl_30, tl_40, tl_50, tl_60, tl_70, tl_80, tl_100, tl_120, tl_140, tl_180, tl_220, tl_240, tl_260, tl_280, tl_300, tl_540, tl_780, tl_1020, tl_1180, tl_1190, tl_1200, tl_1220, tl_m1] at *
    have k2 := wfM_r hJ.1 (x := x1) (by simp only [rg]; omega)
    have t0 : (x3 + 1).toInt = ((x3).toInt + 1) := (ti_add (a := (x3)) (b := (1 : Int32)) rfl tl_1 (by omega) (by omega))
    omega
theorem vc_FMO_isPaid_inv4_15 (S : hS) (x1 : Int32) (x2 : Int32) (x3 : Int32) (hJ : wfM S ∧ bt x3 6 ∧ rg x1 40) (c2 : ¬ ((S.2 50 ((260 + x1).toNatClampNeg)) ≤ x3.toInt64)) (c3 : x2 = 0) (c7 : ¬ ((FMO_isItem S x1 x3) = 0)) (c12 : ¬ ((S.2 50 (((540 + (6 * x1)) + x3).toNatClampNeg)) ≤ (S.2 50 (((780 + (6 * x1)) + x3).toNatClampNeg)))) : wfM S ∧ bt (x3 + 1) 6 ∧ rg x1 40 := ⟨hJ.1, (by
    have k0 := hJ.2.1
    have k1 := hJ.2.2
    have m0 := hJ.1.1
    have m1 := hJ.1.2.1
    have m3 := hJ.1.2.2.1
    have m4 := hJ.1.2.2.2.1
    have m6 := hJ.1.2.2.2.2.2.2.1
    simp only [rg, bt, lp, vp_rg, Int32.lt_iff_toInt_lt, Int32.le_iff_toInt_le, Int64.lt_iff_toInt_lt, Int64.le_iff_toInt_le, l32, sI_2, tq_0, tq_1, tq_2, tq_6, tq_8, tq_10, tq_20, tq_30, tq_40, tl_0, tl_1, tl_2, tl_3, tl_4, tl_5, tl_6, tl_8, tl_10, tl_14, tl_20, tl_24, tl_30, tl_40, tl_50, tl_60, tl_70, tl_80, tl_100, tl_120, tl_140, tl_180, tl_220, tl_240, tl_260, tl_280, tl_300, tl_540, tl_780, tl_1020, tl_1180, tl_1190, tl_1200, tl_1220, tl_m1] at *
    have k2 := wfM_r hJ.1 (x := x1) (by simp only [rg]; omega)
    have t0 : (x3 + 1).toInt = ((x3).toInt + 1) := (ti_add (a := (x3)) (b := (1 : Int32)) rfl tl_1 (by omega) (by omega))
    omega), hJ.2.2⟩
theorem vc_FMO_isPaid_mu4_16 (S : hS) (x1 : Int32) (x2 : Int32) (x3 : Int32) (hJ : wfM S ∧ bt x3 6 ∧ rg x1 40) (c2 : ¬ ((S.2 50 ((260 + x1).toNatClampNeg)) ≤ x3.toInt64)) (c3 : x2 = 0) (c7 : ¬ ((FMO_isItem S x1 x3) = 0)) (c12 : ¬ ((S.2 50 (((540 + (6 * x1)) + x3).toNatClampNeg)) ≤ (S.2 50 (((780 + (6 * x1)) + x3).toNatClampNeg)))) : ((6 - (x3 + 1).toInt).toNat) < ((6 - x3.toInt).toNat) := by
    have k0 := hJ.2.1
    have k1 := hJ.2.2
    have m0 := hJ.1.1
    have m1 := hJ.1.2.1
    have m3 := hJ.1.2.2.1
    have m4 := hJ.1.2.2.2.1
    have m6 := hJ.1.2.2.2.2.2.2.1
    simp only [rg, bt, lp, vp_rg, Int32.lt_iff_toInt_lt, Int32.le_iff_toInt_le, Int64.lt_iff_toInt_lt, Int64.le_iff_toInt_le, l32, sI_2, tq_0, tq_1, tq_2, tq_6, tq_8, tq_10, tq_20, tq_30, tq_40, tl_0, tl_1, tl_2, tl_3, tl_4, tl_5, tl_6, tl_8, tl_10, tl_14, tl_20, tl_24, tl_30, tl_40, tl_50, tl_60, tl_70, tl_80, tl_100, tl_120, tl_140, tl_180, tl_220, tl_240, tl_260, tl_280, tl_300, tl_540, tl_780, tl_1020, tl_1180, tl_1190, tl_1200, tl_1220, tl_m1] at *
    have k2 := wfM_r hJ.1 (x := x1) (by simp only [rg]; omega)
    have t0 : (x3 + 1).toInt = ((x3).toInt + 1) := (ti_add (a := (x3)) (b := (1 : Int32)) rfl tl_1 (by omega) (by omega))
    omega
theorem vc_FMO_isPaid_inv04_18 (S : hS) (x1 : Int32) (hp : wfM S ∧ rg x1 40) : wfM S ∧ bt (0 : Int32) 6 ∧ rg x1 40 := ⟨hp.1, (by
    have k0 := hp.2
    have m0 := hp.1.1
    have m1 := hp.1.2.1
    have m3 := hp.1.2.2.1
    have m4 := hp.1.2.2.2.1
    have m6 := hp.1.2.2.2.2.2.2.1
    simp only [rg, bt, lp, vp_rg, Int32.lt_iff_toInt_lt, Int32.le_iff_toInt_le, Int64.lt_iff_toInt_lt, Int64.le_iff_toInt_le, l32, sI_2, tq_0, tq_1, tq_2, tq_6, tq_8, tq_10, tq_20, tq_30, tq_40, tl_0, tl_1, tl_2, tl_3, tl_4, tl_5, tl_6, tl_8, tl_10, tl_14, tl_20, tl_24, tl_30, tl_40, tl_50, tl_60, tl_70, tl_80, tl_100, tl_120, tl_140, tl_180, tl_220, tl_240, tl_260, tl_280, tl_300, tl_540, tl_780, tl_1020, tl_1180, tl_1190, tl_1200, tl_1220, tl_m1] at *
    have t0 : (0 : Int32).toInt = 0 := tl_0
    omega), hp.2⟩
theorem vc_FMO_isPaid_mu04_19 (S : hS) (x1 : Int32) (hp : wfM S ∧ rg x1 40) : ((6 - (0 : Int32).toInt).toNat) < 300 := by
    have k0 := hp.2
    have m0 := hp.1.1
    have m1 := hp.1.2.1
    have m3 := hp.1.2.2.1
    have m4 := hp.1.2.2.2.1
    have m6 := hp.1.2.2.2.2.2.2.1
    simp only [rg, bt, lp, vp_rg, Int32.lt_iff_toInt_lt, Int32.le_iff_toInt_le, Int64.lt_iff_toInt_lt, Int64.le_iff_toInt_le, l32, sI_2, tq_0, tq_1, tq_2, tq_6, tq_8, tq_10, tq_20, tq_30, tq_40, tl_0, tl_1, tl_2, tl_3, tl_4, tl_5, tl_6, tl_8, tl_10, tl_14, tl_20, tl_24, tl_30, tl_40, tl_50, tl_60, tl_70, tl_80, tl_100, tl_120, tl_140, tl_180, tl_220, tl_240, tl_260, tl_280, tl_300, tl_540, tl_780, tl_1020, tl_1180, tl_1190, tl_1200, tl_1220, tl_m1] at *
    have t0 : (0 : Int32).toInt = 0 := tl_0
    omega
theorem vc_FMO_isPaid_bz80_20 (S : hS) (x1 : Int32) (hp : wfM S ∧ rg x1 40) (y17_2 : Int32) (y17_3 : Int32) (hq17 : LMO_isPaid_4 300 S x1 0 0 = (y17_2, y17_3)) : y17_2 &&& 1 = y17_2 := bz01 (by have h := paid01 300 S x1 0 0 (Or.inl rfl); rw [hq17] at h; exact h)
theorem vc_FMO_reverse_pre7_1 (S : hS) (x1 : Int32) (x2 : Int64) (hp : wfM S) : wfM (sI S 49 4 0) := (wfM_I hp)
theorem vc_FMO_reverse_ix22_3 (S : hS) (x1 : Int32) (x2 : Int64) (hp : wfM S) (c2 : ¬ ((FMO_isEntry (sI S 49 4 0) x1) = 0)) : vp_in (140 + x1) 1220 := by
    have m0 := hp.1
    have m1 := hp.2.1
    have m3 := hp.2.2.1
    have m4 := hp.2.2.2.1
    have m6 := hp.2.2.2.2.2.2.1
    have k0 := enM (wfM_I hp) c2
    simp only [rg, bt, lp, vp_rg, Int32.lt_iff_toInt_lt, Int32.le_iff_toInt_le, Int64.lt_iff_toInt_lt, Int64.le_iff_toInt_le, l32, sI_2, tq_0, tq_1, tq_2, tq_6, tq_8, tq_10, tq_20, tq_30, tq_40, tl_0, tl_1, tl_2, tl_3, tl_4, tl_5, tl_6, tl_8, tl_10, tl_14, tl_20, tl_24, tl_30, tl_40, tl_50, tl_60, tl_70, tl_80, tl_100, tl_120, tl_140, tl_180, tl_220, tl_240, tl_260, tl_280, tl_300, tl_540, tl_780, tl_1020, tl_1180, tl_1190, tl_1200, tl_1220, tl_m1] at *
    have t0 : (140 + x1).toInt = (140 + (x1).toInt) := (ti_add (a := (140 : Int32)) (b := (x1)) tl_140 rfl (by omega) (by omega))
    omega
theorem vc_FMO_reverse_ix37_5 (S : hS) (x1 : Int32) (x2 : Int64) (hp : wfM S) (c2 : ¬ ((FMO_isEntry (sI S 49 4 0) x1) = 0)) (c4 : ¬ ((S.2 50 ((140 + x1).toNatClampNeg)) = 0)) : vp_in (220 + x1) 1220 := by
    have m0 := hp.1
    have m1 := hp.2.1
    have m3 := hp.2.2.1
    have m4 := hp.2.2.2.1
    have m6 := hp.2.2.2.2.2.2.1
    have k0 := enM (wfM_I hp) c2
    have k1 := ne64 c4
    simp only [rg, bt, lp, vp_rg, Int32.lt_iff_toInt_lt, Int32.le_iff_toInt_le, Int64.lt_iff_toInt_lt, Int64.le_iff_toInt_le, l32, sI_2, tq_0, tq_1, tq_2, tq_6, tq_8, tq_10, tq_20, tq_30, tq_40, tl_0, tl_1, tl_2, tl_3, tl_4, tl_5, tl_6, tl_8, tl_10, tl_14, tl_20, tl_24, tl_30, tl_40, tl_50, tl_60, tl_70, tl_80, tl_100, tl_120, tl_140, tl_180, tl_220, tl_240, tl_260, tl_280, tl_300, tl_540, tl_780, tl_1020, tl_1180, tl_1190, tl_1200, tl_1220, tl_m1] at *
    have t0 : (220 + x1).toInt = (220 + (x1).toInt) := (ti_add (a := (220 : Int32)) (b := (x1)) tl_220 rfl (by omega) (by omega))
    omega
theorem vc_FMO_reverse_ix52_7 (S : hS) (x1 : Int32) (x2 : Int64) (hp : wfM S) (c2 : ¬ ((FMO_isEntry (sI S 49 4 0) x1) = 0)) (c4 : ¬ ((S.2 50 ((140 + x1).toNatClampNeg)) = 0)) (c6 : ¬ (0 < (S.2 50 ((220 + x1).toNatClampNeg)))) : vp_in (180 + x1) 1220 := by
    have m0 := hp.1
    have m1 := hp.2.1
    have m3 := hp.2.2.1
    have m4 := hp.2.2.2.1
    have m6 := hp.2.2.2.2.2.2.1
    have k0 := enM (wfM_I hp) c2
    have k1 := ne64 c4
    simp only [rg, bt, lp, vp_rg, Int32.lt_iff_toInt_lt, Int32.le_iff_toInt_le, Int64.lt_iff_toInt_lt, Int64.le_iff_toInt_le, l32, sI_2, tq_0, tq_1, tq_2, tq_6, tq_8, tq_10, tq_20, tq_30, tq_40, tl_0, tl_1, tl_2, tl_3, tl_4, tl_5, tl_6, tl_8, tl_10, tl_14, tl_20, tl_24, tl_30, tl_40, tl_50, tl_60, tl_70, tl_80, tl_100, tl_120, tl_140, tl_180, tl_220, tl_240, tl_260, tl_280, tl_300, tl_540, tl_780, tl_1020, tl_1180, tl_1190, tl_1200, tl_1220, tl_m1] at *
    have t0 : (180 + x1).toInt = (180 + (x1).toInt) := (ti_add (a := (180 : Int32)) (b := (x1)) tl_180 rfl (by omega) (by omega))
    omega
theorem vc_FMO_reverse_pre60_9 (S : hS) (x1 : Int32) (x2 : Int64) (hp : wfM S) (c2 : ¬ ((FMO_isEntry (sI S 49 4 0) x1) = 0)) (c4 : ¬ ((S.2 50 ((140 + x1).toNatClampNeg)) = 0)) (c6 : ¬ (0 < (S.2 50 ((220 + x1).toNatClampNeg)))) (c8 : ¬ (0 < (S.2 50 ((180 + x1).toNatClampNeg)))) : wfM (sI S 49 4 0) ∧ rg x1 40 := ⟨(wfM_I hp), (by
    have m0 := hp.1
    have m1 := hp.2.1
    have m3 := hp.2.2.1
    have m4 := hp.2.2.2.1
    have m6 := hp.2.2.2.2.2.2.1
    have k0 := enM (wfM_I hp) c2
    have k1 := ne64 c4
    simp only [rg, bt, lp, vp_rg, Int32.lt_iff_toInt_lt, Int32.le_iff_toInt_le, Int64.lt_iff_toInt_lt, Int64.le_iff_toInt_le, l32, sI_2, tq_0, tq_1, tq_2, tq_6, tq_8, tq_10, tq_20, tq_30, tq_40, tl_0, tl_1, tl_2, tl_3, tl_4, tl_5, tl_6, tl_8, tl_10, tl_14, tl_20, tl_24, tl_30, tl_40, tl_50, tl_60, tl_70, tl_80, tl_100, tl_120, tl_140, tl_180, tl_220, tl_240, tl_260, tl_280, tl_300, tl_540, tl_780, tl_1020, tl_1180, tl_1190, tl_1200, tl_1220, tl_m1] at *
    omega)⟩
theorem vc_FMO_reverse_ix78_12 (S : hS) (x1 : Int32) (x2 : Int64) (hp : wfM S) (c2 : ¬ ((FMO_isEntry (sI S 49 4 0) x1) = 0)) (c4 : ¬ ((S.2 50 ((140 + x1).toNatClampNeg)) = 0)) (c6 : ¬ (0 < (S.2 50 ((220 + x1).toNatClampNeg)))) (c8 : ¬ (0 < (S.2 50 ((180 + x1).toNatClampNeg)))) (c10 : (FMO_isPaid (sI S 49 4 0) x1) = 0) (c11 : ¬ ((FMO_isDay (sI S 49 4 0) x2) = 0)) : vp_in 1 1220 := by
    have m0 := hp.1
    have m1 := hp.2.1
    have m3 := hp.2.2.1
    have m4 := hp.2.2.2.1
    have m6 := hp.2.2.2.2.2.2.1
    have k0 := enM (wfM_I hp) c2
    have k1 := ne64 c4
    simp only [rg, bt, lp, vp_rg, Int32.lt_iff_toInt_lt, Int32.le_iff_toInt_le, Int64.lt_iff_toInt_lt, Int64.le_iff_toInt_le, l32, sI_2, tq_0, tq_1, tq_2, tq_6, tq_8, tq_10, tq_20, tq_30, tq_40, tl_0, tl_1, tl_2, tl_3, tl_4, tl_5, tl_6, tl_8, tl_10, tl_14, tl_20, tl_24, tl_30, tl_40, tl_50, tl_60, tl_70, tl_80, tl_100, tl_120, tl_140, tl_180, tl_220, tl_240, tl_260, tl_280, tl_300, tl_540, tl_780, tl_1020, tl_1180, tl_1190, tl_1200, tl_1220, tl_m1] at *
    have t0 : (1 : Int32).toInt = 1 := tl_1
    omega
theorem vc_FMO_reverse_pre91_14 (S : hS) (x1 : Int32) (x2 : Int64) (hp : wfM S) (c2 : ¬ ((FMO_isEntry (sI S 49 4 0) x1) = 0)) (c4 : ¬ ((S.2 50 ((140 + x1).toNatClampNeg)) = 0)) (c6 : ¬ (0 < (S.2 50 ((220 + x1).toNatClampNeg)))) (c8 : ¬ (0 < (S.2 50 ((180 + x1).toNatClampNeg)))) (c10 : (FMO_isPaid (sI S 49 4 0) x1) = 0) (c11 : ¬ ((FMO_isDay (sI S 49 4 0) x2) = 0)) (c13 : ¬ ((S.2 50 1) = 40)) : wfM (sI S 49 4 0) ∧ ((sI S 49 4 0).2 50 1).toInt < 40 := ⟨(wfM_I hp), (by
    have m0 := hp.1
    have m1 := hp.2.1
    have m3 := hp.2.2.1
    have m4 := hp.2.2.2.1
    have m6 := hp.2.2.2.2.2.2.1
    have k0 := enM (wfM_I hp) c2
    have k1 := ne64 c4
    have k2 := ne64 c13
    simp only [rg, bt, lp, vp_rg, Int32.lt_iff_toInt_lt, Int32.le_iff_toInt_le, Int64.lt_iff_toInt_lt, Int64.le_iff_toInt_le, l32, sI_2, tq_0, tq_1, tq_2, tq_6, tq_8, tq_10, tq_20, tq_30, tq_40, tl_0, tl_1, tl_2, tl_3, tl_4, tl_5, tl_6, tl_8, tl_10, tl_14, tl_20, tl_24, tl_30, tl_40, tl_50, tl_60, tl_70, tl_80, tl_100, tl_120, tl_140, tl_180, tl_220, tl_240, tl_260, tl_280, tl_300, tl_540, tl_780, tl_1020, tl_1180, tl_1190, tl_1200, tl_1220, tl_m1] at *
    omega)⟩
theorem vc_FMO_reverse_ix111_16 (S : hS) (x1 : Int32) (x2 : Int64) (x4 : Int32) (x5 : Int32) (hJ : wfM S ∧ bt x5 6 ∧ rg x1 40 ∧ rg x4 40 ∧ ¬ x1 = x4 ∧ (S.2 50 (260 + x4).toNatClampNeg).toInt = x5.toInt ∧ x4.toInt < (S.2 50 1).toInt) : vp_in (260 + x1) 1220 := by
    have k0 := hJ.2.1
    have k1 := hJ.2.2.1
    have k2 := hJ.2.2.2.1
    have k3 := hJ.2.2.2.2.1
    have k4 := hJ.2.2.2.2.2.1
    have k5 := hJ.2.2.2.2.2.2
    have m0 := hJ.1.1
    have m1 := hJ.1.2.1
    have m3 := hJ.1.2.2.1
    have m4 := hJ.1.2.2.2.1
    have m6 := hJ.1.2.2.2.2.2.2.1
    simp only [rg, bt, lp, vp_rg, Int32.lt_iff_toInt_lt, Int32.le_iff_toInt_le, Int64.lt_iff_toInt_lt, Int64.le_iff_toInt_le, l32, sI_2, tq_0, tq_1, tq_2, tq_6, tq_8, tq_10, tq_20, tq_30, tq_40, tl_0, tl_1, tl_2, tl_3, tl_4, tl_5, tl_6, tl_8, tl_10, tl_14, tl_20, tl_24, tl_30, tl_40, tl_50, tl_60, tl_70, tl_80, tl_100, tl_120, tl_140, tl_180, tl_220, tl_240, tl_260, tl_280, tl_300, tl_540, tl_780, tl_1020, tl_1180, tl_1190, tl_1200, tl_1220, tl_m1] at *
    have t0 : (260 + x1).toInt = (260 + (x1).toInt) := (ti_add (a := (260 : Int32)) (b := (x1)) tl_260 rfl (by omega) (by omega))
    omega
theorem vc_FMO_reverse_ix134_18 (S : hS) (x1 : Int32) (x2 : Int64) (x4 : Int32) (x5 : Int32) (hJ : wfM S ∧ bt x5 6 ∧ rg x1 40 ∧ rg x4 40 ∧ ¬ x1 = x4 ∧ (S.2 50 (260 + x4).toNatClampNeg).toInt = x5.toInt ∧ x4.toInt < (S.2 50 1).toInt) (c17 : ¬ ((S.2 50 ((260 + x1).toNatClampNeg)) ≤ x5.toInt64)) : vp_in ((300 + (6 * x1)) + x5) 1220 := by
    have k0 := hJ.2.1
    have k1 := hJ.2.2.1
    have k2 := hJ.2.2.2.1
    have k3 := hJ.2.2.2.2.1
    have k4 := hJ.2.2.2.2.2.1
    have k5 := hJ.2.2.2.2.2.2
    have m0 := hJ.1.1
    have m1 := hJ.1.2.1
    have m3 := hJ.1.2.2.1
    have m4 := hJ.1.2.2.2.1
    have m6 := hJ.1.2.2.2.2.2.2.1
    simp only [rg, bt, lp, vp_rg, Int32.lt_iff_toInt_lt, Int32.le_iff_toInt_le, Int64.lt_iff_toInt_lt, Int64.le_iff_toInt_le, l32, sI_2, tq_0, tq_1, tq_2, tq_6, tq_8, tq_10, tq_20, tq_30, tq_40, tl_0, tl_1, tl_2, tl_3, tl_4, tl_5, tl_6, tl_8, tl_10, tl_14, tl_20, tl_24, tl_30, tl_40, tl_50, tl_60, tl_70, tl_80, tl_100, tl_120, tl_140, tl_180, tl_220, tl_240, tl_260, tl_280, tl_300, tl_540, tl_780, tl_1020, tl_1180, tl_1190, tl_1200, tl_1220, tl_m1] at *
    have k6 := wfM_r hJ.1 (x := x1) (by simp only [rg]; omega)
    have t0 : ((300 + (6 * x1)) + x5).toInt = ((300 + (6 * (x1).toInt)) + (x5).toInt) := (ti_add (a := (300 + (6 * x1))) (b := (x5)) (ti_add (a := (300 : Int32)) (b := (6 * x1)) tl_300 (ti_mul (a := (6 : Int32)) (b := (x1)) tl_6 rfl (by omega) (by omega)) (by omega) (by omega)) rfl (by omega) (by omega))
    omega
theorem vc_FMO_reverse_ix151_19 (S : hS) (x1 : Int32) (x2 : Int64) (x4 : Int32) (x5 : Int32) (hJ : wfM S ∧ bt x5 6 ∧ rg x1 40 ∧ rg x4 40 ∧ ¬ x1 = x4 ∧ (S.2 50 (260 + x4).toNatClampNeg).toInt = x5.toInt ∧ x4.toInt < (S.2 50 1).toInt) (c17 : ¬ ((S.2 50 ((260 + x1).toNatClampNeg)) ≤ x5.toInt64)) : vp_in ((540 + (6 * x1)) + x5) 1220 := by
    have k0 := hJ.2.1
    have k1 := hJ.2.2.1
    have k2 := hJ.2.2.2.1
    have k3 := hJ.2.2.2.2.1
    have k4 := hJ.2.2.2.2.2.1
    have k5 := hJ.2.2.2.2.2.2
    have m0 := hJ.1.1
    have m1 := hJ.1.2.1
    have m3 := hJ.1.2.2.1
    have m4 := hJ.1.2.2.2.1
    have m6 := hJ.1.2.2.2.2.2.2.1
    simp only [rg, bt, lp, vp_rg, Int32.lt_iff_toInt_lt, Int32.le_iff_toInt_le, Int64.lt_iff_toInt_lt, Int64.le_iff_toInt_le, l32, sI_2, tq_0, tq_1, tq_2, tq_6, tq_8, tq_10, tq_20, tq_30, tq_40, tl_0, tl_1, tl_2, tl_3, tl_4, tl_5, tl_6, tl_8, tl_10, tl_14, tl_20, tl_24, tl_30, tl_40, tl_50, tl_60, tl_70, tl_80, tl_100, tl_120, tl_140, tl_180, tl_220, tl_240, tl_260, tl_280, tl_300, tl_540, tl_780, tl_1020, tl_1180, tl_1190, tl_1200, tl_1220, tl_m1] at *
    have k6 := wfM_r hJ.1 (x := x1) (by simp only [rg]; omega)
    have t0 : ((540 + (6 * x1)) + x5).toInt = ((540 + (6 * (x1).toInt)) + (x5).toInt) := (ti_add (a := (540 + (6 * x1))) (b := (x5)) (ti_add (a := (540 : Int32)) (b := (6 * x1)) tl_540 (ti_mul (a := (6 : Int32)) (b := (x1)) tl_6 rfl (by omega) (by omega)) (by omega) (by omega)) rfl (by omega) (by omega))
    omega
theorem vc_FMO_reverse_pre153_20 (S : hS) (x1 : Int32) (x2 : Int64) (x4 : Int32) (x5 : Int32) (hJ : wfM S ∧ bt x5 6 ∧ rg x1 40 ∧ rg x4 40 ∧ ¬ x1 = x4 ∧ (S.2 50 (260 + x4).toNatClampNeg).toInt = x5.toInt ∧ x4.toInt < (S.2 50 1).toInt) (c17 : ¬ ((S.2 50 ((260 + x1).toNatClampNeg)) ≤ x5.toInt64)) : wfM S ∧ rg x4 40 ∧ (S.2 50 (260 + x4).toNatClampNeg).toInt < 6 := ⟨hJ.1, hJ.2.2.2.1, (by
    have k0 := hJ.2.1
    have k1 := hJ.2.2.1
    have k2 := hJ.2.2.2.1
    have k3 := hJ.2.2.2.2.1
    have k4 := hJ.2.2.2.2.2.1
    have k5 := hJ.2.2.2.2.2.2
    have m0 := hJ.1.1
    have m1 := hJ.1.2.1
    have m3 := hJ.1.2.2.1
    have m4 := hJ.1.2.2.2.1
    have m6 := hJ.1.2.2.2.2.2.2.1
    simp only [rg, bt, lp, vp_rg, Int32.lt_iff_toInt_lt, Int32.le_iff_toInt_le, Int64.lt_iff_toInt_lt, Int64.le_iff_toInt_le, l32, sI_2, tq_0, tq_1, tq_2, tq_6, tq_8, tq_10, tq_20, tq_30, tq_40, tl_0, tl_1, tl_2, tl_3, tl_4, tl_5, tl_6, tl_8, tl_10, tl_14, tl_20, tl_24, tl_30, tl_40, tl_50, tl_60, tl_70, tl_80, tl_100, tl_120, tl_140, tl_180, tl_220, tl_240, tl_260, tl_280, tl_300, tl_540, tl_780, tl_1020, tl_1180, tl_1190, tl_1200, tl_1220, tl_m1] at *
    have k6 := wfM_r hJ.1 (x := x1) (by simp only [rg]; omega)
    omega)⟩
theorem vc_FMO_reverse_ix172_21 (S : hS) (x1 : Int32) (x2 : Int64) (x4 : Int32) (x5 : Int32) (hJ : wfM S ∧ bt x5 6 ∧ rg x1 40 ∧ rg x4 40 ∧ ¬ x1 = x4 ∧ (S.2 50 (260 + x4).toNatClampNeg).toInt = x5.toInt ∧ x4.toInt < (S.2 50 1).toInt) (c17 : ¬ ((S.2 50 ((260 + x1).toNatClampNeg)) ≤ x5.toInt64)) : vp_in ((780 + (6 * x1)) + x5) 1220 := by
    have k0 := hJ.2.1
    have k1 := hJ.2.2.1
    have k2 := hJ.2.2.2.1
    have k3 := hJ.2.2.2.2.1
    have k4 := hJ.2.2.2.2.2.1
    have k5 := hJ.2.2.2.2.2.2
    have m0 := hJ.1.1
    have m1 := hJ.1.2.1
    have m3 := hJ.1.2.2.1
    have m4 := hJ.1.2.2.2.1
    have m6 := hJ.1.2.2.2.2.2.2.1
    simp only [rg, bt, lp, vp_rg, Int32.lt_iff_toInt_lt, Int32.le_iff_toInt_le, Int64.lt_iff_toInt_lt, Int64.le_iff_toInt_le, l32, sI_2, tq_0, tq_1, tq_2, tq_6, tq_8, tq_10, tq_20, tq_30, tq_40, tl_0, tl_1, tl_2, tl_3, tl_4, tl_5, tl_6, tl_8, tl_10, tl_14, tl_20, tl_24, tl_30, tl_40, tl_50, tl_60, tl_70, tl_80, tl_100, tl_120, tl_140, tl_180, tl_220, tl_240, tl_260, tl_280, tl_300, tl_540, tl_780, tl_1020, tl_1180, tl_1190, tl_1200, tl_1220, tl_m1] at *
    have k6 := wfM_r hJ.1 (x := x1) (by simp only [rg]; omega)
    have t0 : ((780 + (6 * x1)) + x5).toInt = ((780 + (6 * (x1).toInt)) + (x5).toInt) := (ti_add (a := (780 + (6 * x1))) (b := (x5)) (ti_add (a := (780 : Int32)) (b := (6 * x1)) tl_780 (ti_mul (a := (6 : Int32)) (b := (x1)) tl_6 rfl (by omega) (by omega)) (by omega) (by omega)) rfl (by omega) (by omega))
    omega
theorem vc_FMO_reverse_inv99_22 (S : hS) (x1 : Int32) (x2 : Int64) (x4 : Int32) (x5 : Int32) (hJ : wfM S ∧ bt x5 6 ∧ rg x1 40 ∧ rg x4 40 ∧ ¬ x1 = x4 ∧ (S.2 50 (260 + x4).toNatClampNeg).toInt = x5.toInt ∧ x4.toInt < (S.2 50 1).toInt) (c17 : ¬ ((S.2 50 ((260 + x1).toNatClampNeg)) ≤ x5.toInt64)) : wfM (sL (FMO_addRow S x4 ((S.2 50 (((300 + (6 * x1)) + x5).toNatClampNeg)).toInt32) (-(S.2 50 (((540 + (6 * x1)) + x5).toNatClampNeg)))) 50 (((780 + (6 * x1)) + x5).toNatClampNeg) 0) ∧ bt (x5 + 1) 6 ∧ rg x1 40 ∧ rg x4 40 ∧ ¬ x1 = x4 ∧ ((sL (FMO_addRow S x4 ((S.2 50 (((300 + (6 * x1)) + x5).toNatClampNeg)).toInt32) (-(S.2 50 (((540 + (6 * x1)) + x5).toNatClampNeg)))) 50 (((780 + (6 * x1)) + x5).toNatClampNeg) 0).2 50 (260 + x4).toNatClampNeg).toInt = (x5 + 1).toInt ∧ x4.toInt < ((sL (FMO_addRow S x4 ((S.2 50 (((300 + (6 * x1)) + x5).toNatClampNeg)).toInt32) (-(S.2 50 (((540 + (6 * x1)) + x5).toNatClampNeg)))) 50 (((780 + (6 * x1)) + x5).toNatClampNeg) 0).2 50 1).toInt := revM1 hJ c17 _
theorem vc_FMO_reverse_mu99_23 (S : hS) (x1 : Int32) (x2 : Int64) (x4 : Int32) (x5 : Int32) (hJ : wfM S ∧ bt x5 6 ∧ rg x1 40 ∧ rg x4 40 ∧ ¬ x1 = x4 ∧ (S.2 50 (260 + x4).toNatClampNeg).toInt = x5.toInt ∧ x4.toInt < (S.2 50 1).toInt) (c17 : ¬ ((S.2 50 ((260 + x1).toNatClampNeg)) ≤ x5.toInt64)) : ((6 - (x5 + 1).toInt).toNat) < ((6 - x5.toInt).toNat) := by
    have k0 := hJ.2.1
    have k1 := hJ.2.2.1
    have k2 := hJ.2.2.2.1
    have k3 := hJ.2.2.2.2.1
    have k4 := hJ.2.2.2.2.2.1
    have k5 := hJ.2.2.2.2.2.2
    have m0 := hJ.1.1
    have m1 := hJ.1.2.1
    have m3 := hJ.1.2.2.1
    have m4 := hJ.1.2.2.2.1
    have m6 := hJ.1.2.2.2.2.2.2.1
    simp only [rg, bt, lp, vp_rg, Int32.lt_iff_toInt_lt, Int32.le_iff_toInt_le, Int64.lt_iff_toInt_lt, Int64.le_iff_toInt_le, l32, sI_2, tq_0, tq_1, tq_2, tq_6, tq_8, tq_10, tq_20, tq_30, tq_40, tl_0, tl_1, tl_2, tl_3, tl_4, tl_5, tl_6, tl_8, tl_10, tl_14, tl_20, tl_24, tl_30, tl_40, tl_50, tl_60, tl_70, tl_80, tl_100, tl_120, tl_140, tl_180, tl_220, tl_240, tl_260, tl_280, tl_300, tl_540, tl_780, tl_1020, tl_1180, tl_1190, tl_1200, tl_1220, tl_m1] at *
    have k6 := wfM_r hJ.1 (x := x1) (by simp only [rg]; omega)
    have t0 : (x5 + 1).toInt = ((x5).toInt + 1) := (ti_add (a := (x5)) (b := (1 : Int32)) rfl tl_1 (by omega) (by omega))
    omega
theorem vc_FMO_reverse_inv099_25 (S : hS) (x1 : Int32) (x2 : Int64) (hp : wfM S) (c2 : ¬ ((FMO_isEntry (sI S 49 4 0) x1) = 0)) (c4 : ¬ ((S.2 50 ((140 + x1).toNatClampNeg)) = 0)) (c6 : ¬ (0 < (S.2 50 ((220 + x1).toNatClampNeg)))) (c8 : ¬ (0 < (S.2 50 ((180 + x1).toNatClampNeg)))) (c10 : (FMO_isPaid (sI S 49 4 0) x1) = 0) (c11 : ¬ ((FMO_isDay (sI S 49 4 0) x2) = 0)) (c13 : ¬ ((S.2 50 1) = 40)) (v15 : Int32) (S15 : hS) (hq15 : FMO_addEntry (sI S 49 4 0) x2 2 = (v15, S15)) : wfM S15 ∧ bt (0 : Int32) 6 ∧ rg x1 40 ∧ rg v15 40 ∧ ¬ x1 = v15 ∧ (S15.2 50 (260 + v15).toNatClampNeg).toInt = (0 : Int32).toInt ∧ v15.toInt < (S15.2 50 1).toInt := revM0 (wfM_I hp) (by
    have m0 := hp.1
    have m1 := hp.2.1
    have m3 := hp.2.2.1
    have m4 := hp.2.2.2.1
    have m6 := hp.2.2.2.2.2.2.1
    have k0 := enM (wfM_I hp) c2
    have k1 := ne64 c4
    have k2 := ne64 c13
    simp only [rg, bt, lp, vp_rg, Int32.lt_iff_toInt_lt, Int32.le_iff_toInt_le, Int64.lt_iff_toInt_lt, Int64.le_iff_toInt_le, l32, sI_2, tq_0, tq_1, tq_2, tq_6, tq_8, tq_10, tq_20, tq_30, tq_40, tl_0, tl_1, tl_2, tl_3, tl_4, tl_5, tl_6, tl_8, tl_10, tl_14, tl_20, tl_24, tl_30, tl_40, tl_50, tl_60, tl_70, tl_80, tl_100, tl_120, tl_140, tl_180, tl_220, tl_240, tl_260, tl_280, tl_300, tl_540, tl_780, tl_1020, tl_1180, tl_1190, tl_1200, tl_1220, tl_m1] at *
    omega) hq15 (enM (wfM_I hp) c2) (enM2 c2)
theorem vc_FMO_reverse_mu099_26 (S : hS) (x1 : Int32) (x2 : Int64) (hp : wfM S) (c2 : ¬ ((FMO_isEntry (sI S 49 4 0) x1) = 0)) (c4 : ¬ ((S.2 50 ((140 + x1).toNatClampNeg)) = 0)) (c6 : ¬ (0 < (S.2 50 ((220 + x1).toNatClampNeg)))) (c8 : ¬ (0 < (S.2 50 ((180 + x1).toNatClampNeg)))) (c10 : (FMO_isPaid (sI S 49 4 0) x1) = 0) (c11 : ¬ ((FMO_isDay (sI S 49 4 0) x2) = 0)) (c13 : ¬ ((S.2 50 1) = 40)) (v15 : Int32) (S15 : hS) (hq15 : FMO_addEntry (sI S 49 4 0) x2 2 = (v15, S15)) : ((6 - (0 : Int32).toInt).toNat) < 300 := by
    have m0 := hp.1
    have m1 := hp.2.1
    have m3 := hp.2.2.1
    have m4 := hp.2.2.2.1
    have m6 := hp.2.2.2.2.2.2.1
    have k0 := enM (wfM_I hp) c2
    have k1 := ne64 c4
    have k2 := ne64 c13
    simp only [rg, bt, lp, vp_rg, Int32.lt_iff_toInt_lt, Int32.le_iff_toInt_le, Int64.lt_iff_toInt_lt, Int64.le_iff_toInt_le, l32, sI_2, tq_0, tq_1, tq_2, tq_6, tq_8, tq_10, tq_20, tq_30, tq_40, tl_0, tl_1, tl_2, tl_3, tl_4, tl_5, tl_6, tl_8, tl_10, tl_14, tl_20, tl_24, tl_30, tl_40, tl_50, tl_60, tl_70, tl_80, tl_100, tl_120, tl_140, tl_180, tl_220, tl_240, tl_260, tl_280, tl_300, tl_540, tl_780, tl_1020, tl_1180, tl_1190, tl_1200, tl_1220, tl_m1] at *
    have t0 : (0 : Int32).toInt = 0 := tl_0
    omega
theorem vc_FMO_reverse_ix190_27 (S : hS) (x1 : Int32) (x2 : Int64) (hp : wfM S) (c2 : ¬ ((FMO_isEntry (sI S 49 4 0) x1) = 0)) (c4 : ¬ ((S.2 50 ((140 + x1).toNatClampNeg)) = 0)) (c6 : ¬ (0 < (S.2 50 ((220 + x1).toNatClampNeg)))) (c8 : ¬ (0 < (S.2 50 ((180 + x1).toNatClampNeg)))) (c10 : (FMO_isPaid (sI S 49 4 0) x1) = 0) (c11 : ¬ ((FMO_isDay (sI S 49 4 0) x2) = 0)) (c13 : ¬ ((S.2 50 1) = 40)) (v15 : Int32) (S15 : hS) (hq15 : FMO_addEntry (sI S 49 4 0) x2 2 = (v15, S15)) (y24_5 : Int32) (S24 : hS) (hq24 : LMO_reverse_99 300 S15 x1 x2 v15 0 = (y24_5, S24)) : vp_in (140 + v15) 1220 := in140 (revM0 (wfM_I hp) (by
    have m0 := hp.1
    have m1 := hp.2.1
    have m3 := hp.2.2.1
    have m4 := hp.2.2.2.1
    have m6 := hp.2.2.2.2.2.2.1
    have k0 := enM (wfM_I hp) c2
    have k1 := ne64 c4
    have k2 := ne64 c13
    simp only [rg, bt, lp, vp_rg, Int32.lt_iff_toInt_lt, Int32.le_iff_toInt_le, Int64.lt_iff_toInt_lt, Int64.le_iff_toInt_le, l32, sI_2, tq_0, tq_1, tq_2, tq_6, tq_8, tq_10, tq_20, tq_30, tq_40, tl_0, tl_1, tl_2, tl_3, tl_4, tl_5, tl_6, tl_8, tl_10, tl_14, tl_20, tl_24, tl_30, tl_40, tl_50, tl_60, tl_70, tl_80, tl_100, tl_120, tl_140, tl_180, tl_220, tl_240, tl_260, tl_280, tl_300, tl_540, tl_780, tl_1020, tl_1180, tl_1190, tl_1200, tl_1220, tl_m1] at *
    omega) hq15 (enM (wfM_I hp) c2) (enM2 c2)).2.2.2.1
theorem vc_FMO_reverse_ix201_28 (S : hS) (x1 : Int32) (x2 : Int64) (hp : wfM S) (c2 : ¬ ((FMO_isEntry (sI S 49 4 0) x1) = 0)) (c4 : ¬ ((S.2 50 ((140 + x1).toNatClampNeg)) = 0)) (c6 : ¬ (0 < (S.2 50 ((220 + x1).toNatClampNeg)))) (c8 : ¬ (0 < (S.2 50 ((180 + x1).toNatClampNeg)))) (c10 : (FMO_isPaid (sI S 49 4 0) x1) = 0) (c11 : ¬ ((FMO_isDay (sI S 49 4 0) x2) = 0)) (c13 : ¬ ((S.2 50 1) = 40)) (v15 : Int32) (S15 : hS) (hq15 : FMO_addEntry (sI S 49 4 0) x2 2 = (v15, S15)) (y24_5 : Int32) (S24 : hS) (hq24 : LMO_reverse_99 300 S15 x1 x2 v15 0 = (y24_5, S24)) : vp_in (220 + x1) 1220 := by
    have m0 := hp.1
    have m1 := hp.2.1
    have m3 := hp.2.2.1
    have m4 := hp.2.2.2.1
    have m6 := hp.2.2.2.2.2.2.1
    have k0 := enM (wfM_I hp) c2
    have k1 := ne64 c4
    have k2 := ne64 c13
    simp only [rg, bt, lp, vp_rg, Int32.lt_iff_toInt_lt, Int32.le_iff_toInt_le, Int64.lt_iff_toInt_lt, Int64.le_iff_toInt_le, l32, sI_2, tq_0, tq_1, tq_2, tq_6, tq_8, tq_10, tq_20, tq_30, tq_40, tl_0, tl_1, tl_2, tl_3, tl_4, tl_5, tl_6, tl_8, tl_10, tl_14, tl_20, tl_24, tl_30, tl_40, tl_50, tl_60, tl_70, tl_80, tl_100, tl_120, tl_140, tl_180, tl_220, tl_240, tl_260, tl_280, tl_300, tl_540, tl_780, tl_1020, tl_1180, tl_1190, tl_1200, tl_1220, tl_m1] at *
    have t0 : (220 + x1).toInt = (220 + (x1).toInt) := (ti_add (a := (220 : Int32)) (b := (x1)) tl_220 rfl (by omega) (by omega))
    omega
theorem vc_FMO_interest_pre7_1 (S : hS) (x1 : Int32) (x2 : Int64) (x4 : Int32) (hp : wfM S) : wfM (sI S 49 4 0) := (wfM_I hp)
theorem vc_FMO_interest_pre53_7 (S : hS) (x1 : Int32) (x2 : Int64) (x4 : Int32) (x5 : Int64) (x7 : Int32) (hJ : wfM S ∧ bt x7 240) (c6 : ¬ (240 ≤ x7)) : wfM S ∧ rg x7 240 := ⟨hJ.1, (by
    have k0 := hJ.2
    have m0 := hJ.1.1
    have m1 := hJ.1.2.1
    have m3 := hJ.1.2.2.1
    have m4 := hJ.1.2.2.2.1
    have m6 := hJ.1.2.2.2.2.2.2.1
    simp only [rg, bt, lp, vp_rg, Int32.lt_iff_toInt_lt, Int32.le_iff_toInt_le, Int64.lt_iff_toInt_lt, Int64.le_iff_toInt_le, l32, sI_2, tq_0, tq_1, tq_2, tq_6, tq_8, tq_10, tq_20, tq_30, tq_40, tl_0, tl_1, tl_2, tl_3, tl_4, tl_5, tl_6, tl_8, tl_10, tl_14, tl_20, tl_24, tl_30, tl_40, tl_50, tl_60, tl_70, tl_80, tl_100, tl_120, tl_140, tl_180, tl_220, tl_240, tl_260, tl_280, tl_300, tl_540, tl_780, tl_1020, tl_1180, tl_1190, tl_1200, tl_1220, tl_m1] at *
    omega)⟩
theorem vc_FMO_interest_inv41_9 (S : hS) (x1 : Int32) (x2 : Int64) (x4 : Int32) (x5 : Int64) (x7 : Int32) (hJ : wfM S ∧ bt x7 240) (c6 : ¬ (240 ≤ x7)) (c8 : (FMO_isItemOf S x7 x1) = 0) : wfM S ∧ bt (x7 + 1) 240 := ⟨hJ.1, (by
    have k0 := hJ.2
    have m0 := hJ.1.1
    have m1 := hJ.1.2.1
    have m3 := hJ.1.2.2.1
    have m4 := hJ.1.2.2.2.1
    have m6 := hJ.1.2.2.2.2.2.2.1
    simp only [rg, bt, lp, vp_rg, Int32.lt_iff_toInt_lt, Int32.le_iff_toInt_le, Int64.lt_iff_toInt_lt, Int64.le_iff_toInt_le, l32, sI_2, tq_0, tq_1, tq_2, tq_6, tq_8, tq_10, tq_20, tq_30, tq_40, tl_0, tl_1, tl_2, tl_3, tl_4, tl_5, tl_6, tl_8, tl_10, tl_14, tl_20, tl_24, tl_30, tl_40, tl_50, tl_60, tl_70, tl_80, tl_100, tl_120, tl_140, tl_180, tl_220, tl_240, tl_260, tl_280, tl_300, tl_540, tl_780, tl_1020, tl_1180, tl_1190, tl_1200, tl_1220, tl_m1] at *
    have t0 : (x7 + 1).toInt = ((x7).toInt + 1) := (ti_add (a := (x7)) (b := (1 : Int32)) rfl tl_1 (by omega) (by omega))
    omega)⟩
theorem vc_FMO_interest_mu41_10 (S : hS) (x1 : Int32) (x2 : Int64) (x4 : Int32) (x5 : Int64) (x7 : Int32) (hJ : wfM S ∧ bt x7 240) (c6 : ¬ (240 ≤ x7)) (c8 : (FMO_isItemOf S x7 x1) = 0) : ((240 - (x7 + 1).toInt).toNat) < ((240 - x7.toInt).toNat) := by
    have k0 := hJ.2
    have m0 := hJ.1.1
    have m1 := hJ.1.2.1
    have m3 := hJ.1.2.2.1
    have m4 := hJ.1.2.2.2.1
    have m6 := hJ.1.2.2.2.2.2.2.1
    simp only [rg, bt, lp, vp_rg, Int32.lt_iff_toInt_lt, Int32.le_iff_toInt_le, Int64.lt_iff_toInt_lt, Int64.le_iff_toInt_le, l32, sI_2, tq_0, tq_1, tq_2, tq_6, tq_8, tq_10, tq_20, tq_30, tq_40, tl_0, tl_1, tl_2, tl_3, tl_4, tl_5, tl_6, tl_8, tl_10, tl_14, tl_20, tl_24, tl_30, tl_40, tl_50, tl_60, tl_70, tl_80, tl_100, tl_120, tl_140, tl_180, tl_220, tl_240, tl_260, tl_280, tl_300, tl_540, tl_780, tl_1020, tl_1180, tl_1190, tl_1200, tl_1220, tl_m1] at *
    have t0 : (x7 + 1).toInt = ((x7).toInt + 1) := (ti_add (a := (x7)) (b := (1 : Int32)) rfl tl_1 (by omega) (by omega))
    omega
theorem vc_FMO_interest_ix72_11 (S : hS) (x1 : Int32) (x2 : Int64) (x4 : Int32) (x5 : Int64) (x7 : Int32) (hJ : wfM S ∧ bt x7 240) (c6 : ¬ (240 ≤ x7)) (c8 : ¬ ((FMO_isItemOf S x7 x1) = 0)) : vp_in (100 + (x7 / 6)) 1220 := by
    have k0 := hJ.2
    have m0 := hJ.1.1
    have m1 := hJ.1.2.1
    have m3 := hJ.1.2.2.1
    have m4 := hJ.1.2.2.2.1
    have m6 := hJ.1.2.2.2.2.2.2.1
    simp only [rg, bt, lp, vp_rg, Int32.lt_iff_toInt_lt, Int32.le_iff_toInt_le, Int64.lt_iff_toInt_lt, Int64.le_iff_toInt_le, l32, sI_2, tq_0, tq_1, tq_2, tq_6, tq_8, tq_10, tq_20, tq_30, tq_40, tl_0, tl_1, tl_2, tl_3, tl_4, tl_5, tl_6, tl_8, tl_10, tl_14, tl_20, tl_24, tl_30, tl_40, tl_50, tl_60, tl_70, tl_80, tl_100, tl_120, tl_140, tl_180, tl_220, tl_240, tl_260, tl_280, tl_300, tl_540, tl_780, tl_1020, tl_1180, tl_1190, tl_1200, tl_1220, tl_m1] at *
    have t0 : (100 + (x7 / 6)).toInt = (100 + ((x7).toInt / 6)) := (ti_add (a := (100 : Int32)) (b := (x7 / 6)) tl_100 (ti_div (a := (x7)) (b := (6 : Int32)) rfl tl_6 (by omega) (by omega)) (by omega) (by omega))
    omega
theorem vc_FMO_interest_inv41_13 (S : hS) (x1 : Int32) (x2 : Int64) (x4 : Int32) (x5 : Int64) (x7 : Int32) (hJ : wfM S ∧ bt x7 240) (c6 : ¬ (240 ≤ x7)) (c8 : ¬ ((FMO_isItemOf S x7 x1) = 0)) (c12 : ((x2 - (S.2 50 ((100 + (x7 / 6)).toNatClampNeg))) - 30) ≤ 0) : wfM S ∧ bt (x7 + 1) 240 := ⟨hJ.1, (by
    have k0 := hJ.2
    have m0 := hJ.1.1
    have m1 := hJ.1.2.1
    have m3 := hJ.1.2.2.1
    have m4 := hJ.1.2.2.2.1
    have m6 := hJ.1.2.2.2.2.2.2.1
    simp only [rg, bt, lp, vp_rg, Int32.lt_iff_toInt_lt, Int32.le_iff_toInt_le, Int64.lt_iff_toInt_lt, Int64.le_iff_toInt_le, l32, sI_2, tq_0, tq_1, tq_2, tq_6, tq_8, tq_10, tq_20, tq_30, tq_40, tl_0, tl_1, tl_2, tl_3, tl_4, tl_5, tl_6, tl_8, tl_10, tl_14, tl_20, tl_24, tl_30, tl_40, tl_50, tl_60, tl_70, tl_80, tl_100, tl_120, tl_140, tl_180, tl_220, tl_240, tl_260, tl_280, tl_300, tl_540, tl_780, tl_1020, tl_1180, tl_1190, tl_1200, tl_1220, tl_m1] at *
    have t0 : (x7 + 1).toInt = ((x7).toInt + 1) := (ti_add (a := (x7)) (b := (1 : Int32)) rfl tl_1 (by omega) (by omega))
    omega)⟩
theorem vc_FMO_interest_mu41_14 (S : hS) (x1 : Int32) (x2 : Int64) (x4 : Int32) (x5 : Int64) (x7 : Int32) (hJ : wfM S ∧ bt x7 240) (c6 : ¬ (240 ≤ x7)) (c8 : ¬ ((FMO_isItemOf S x7 x1) = 0)) (c12 : ((x2 - (S.2 50 ((100 + (x7 / 6)).toNatClampNeg))) - 30) ≤ 0) : ((240 - (x7 + 1).toInt).toNat) < ((240 - x7.toInt).toNat) := by
    have k0 := hJ.2
    have m0 := hJ.1.1
    have m1 := hJ.1.2.1
    have m3 := hJ.1.2.2.1
    have m4 := hJ.1.2.2.2.1
    have m6 := hJ.1.2.2.2.2.2.2.1
    simp only [rg, bt, lp, vp_rg, Int32.lt_iff_toInt_lt, Int32.le_iff_toInt_le, Int64.lt_iff_toInt_lt, Int64.le_iff_toInt_le, l32, sI_2, tq_0, tq_1, tq_2, tq_6, tq_8, tq_10, tq_20, tq_30, tq_40, tl_0, tl_1, tl_2, tl_3, tl_4, tl_5, tl_6, tl_8, tl_10, tl_14, tl_20, tl_24, tl_30, tl_40, tl_50, tl_60, tl_70, tl_80, tl_100, tl_120, tl_140, tl_180, tl_220, tl_240, tl_260, tl_280, tl_300, tl_540, tl_780, tl_1020, tl_1180, tl_1190, tl_1200, tl_1220, tl_m1] at *
    have t0 : (x7 + 1).toInt = ((x7).toInt + 1) := (ti_add (a := (x7)) (b := (1 : Int32)) rfl tl_1 (by omega) (by omega))
    omega
theorem vc_FMO_interest_ix105_15 (S : hS) (x1 : Int32) (x2 : Int64) (x4 : Int32) (x5 : Int64) (x7 : Int32) (hJ : wfM S ∧ bt x7 240) (c6 : ¬ (240 ≤ x7)) (c8 : ¬ ((FMO_isItemOf S x7 x1) = 0)) (c12 : ¬ (((x2 - (S.2 50 ((100 + (x7 / 6)).toNatClampNeg))) - 30) ≤ 0)) : vp_in (780 + x7) 1220 := by
    have k0 := hJ.2
    have m0 := hJ.1.1
    have m1 := hJ.1.2.1
    have m3 := hJ.1.2.2.1
    have m4 := hJ.1.2.2.2.1
    have m6 := hJ.1.2.2.2.2.2.2.1
    simp only [rg, bt, lp, vp_rg, Int32.lt_iff_toInt_lt, Int32.le_iff_toInt_le, Int64.lt_iff_toInt_lt, Int64.le_iff_toInt_le, l32, sI_2, tq_0, tq_1, tq_2, tq_6, tq_8, tq_10, tq_20, tq_30, tq_40, tl_0, tl_1, tl_2, tl_3, tl_4, tl_5, tl_6, tl_8, tl_10, tl_14, tl_20, tl_24, tl_30, tl_40, tl_50, tl_60, tl_70, tl_80, tl_100, tl_120, tl_140, tl_180, tl_220, tl_240, tl_260, tl_280, tl_300, tl_540, tl_780, tl_1020, tl_1180, tl_1190, tl_1200, tl_1220, tl_m1] at *
    have t0 : (780 + x7).toInt = (780 + (x7).toInt) := (ti_add (a := (780 : Int32)) (b := (x7)) tl_780 rfl (by omega) (by omega))
    omega
theorem vc_FMO_interest_inv41_16 (S : hS) (x1 : Int32) (x2 : Int64) (x4 : Int32) (x5 : Int64) (x7 : Int32) (hJ : wfM S ∧ bt x7 240) (c6 : ¬ (240 ≤ x7)) (c8 : ¬ ((FMO_isItemOf S x7 x1) = 0)) (c12 : ¬ (((x2 - (S.2 50 ((100 + (x7 / 6)).toNatClampNeg))) - 30) ≤ 0)) : wfM S ∧ bt (x7 + 1) 240 := ⟨hJ.1, (by
    have k0 := hJ.2
    have m0 := hJ.1.1
    have m1 := hJ.1.2.1
    have m3 := hJ.1.2.2.1
    have m4 := hJ.1.2.2.2.1
    have m6 := hJ.1.2.2.2.2.2.2.1
    simp only [rg, bt, lp, vp_rg, Int32.lt_iff_toInt_lt, Int32.le_iff_toInt_le, Int64.lt_iff_toInt_lt, Int64.le_iff_toInt_le, l32, sI_2, tq_0, tq_1, tq_2, tq_6, tq_8, tq_10, tq_20, tq_30, tq_40, tl_0, tl_1, tl_2, tl_3, tl_4, tl_5, tl_6, tl_8, tl_10, tl_14, tl_20, tl_24, tl_30, tl_40, tl_50, tl_60, tl_70, tl_80, tl_100, tl_120, tl_140, tl_180, tl_220, tl_240, tl_260, tl_280, tl_300, tl_540, tl_780, tl_1020, tl_1180, tl_1190, tl_1200, tl_1220, tl_m1] at *
    have t0 : (x7 + 1).toInt = ((x7).toInt + 1) := (ti_add (a := (x7)) (b := (1 : Int32)) rfl tl_1 (by omega) (by omega))
    omega)⟩
theorem vc_FMO_interest_mu41_17 (S : hS) (x1 : Int32) (x2 : Int64) (x4 : Int32) (x5 : Int64) (x7 : Int32) (hJ : wfM S ∧ bt x7 240) (c6 : ¬ (240 ≤ x7)) (c8 : ¬ ((FMO_isItemOf S x7 x1) = 0)) (c12 : ¬ (((x2 - (S.2 50 ((100 + (x7 / 6)).toNatClampNeg))) - 30) ≤ 0)) : ((240 - (x7 + 1).toInt).toNat) < ((240 - x7.toInt).toNat) := by
    have k0 := hJ.2
    have m0 := hJ.1.1
    have m1 := hJ.1.2.1
    have m3 := hJ.1.2.2.1
    have m4 := hJ.1.2.2.2.1
    have m6 := hJ.1.2.2.2.2.2.2.1
    simp only [rg, bt, lp, vp_rg, Int32.lt_iff_toInt_lt, Int32.le_iff_toInt_le, Int64.lt_iff_toInt_lt, Int64.le_iff_toInt_le, l32, sI_2, tq_0, tq_1, tq_2, tq_6, tq_8, tq_10, tq_20, tq_30, tq_40, tl_0, tl_1, tl_2, tl_3, tl_4, tl_5, tl_6, tl_8, tl_10, tl_14, tl_20, tl_24, tl_30, tl_40, tl_50, tl_60, tl_70, tl_80, tl_100, tl_120, tl_140, tl_180, tl_220, tl_240, tl_260, tl_280, tl_300, tl_540, tl_780, tl_1020, tl_1180, tl_1190, tl_1200, tl_1220, tl_m1] at *
    have t0 : (x7 + 1).toInt = ((x7).toInt + 1) := (ti_add (a := (x7)) (b := (1 : Int32)) rfl tl_1 (by omega) (by omega))
    omega
theorem vc_FMO_interest_inv041_19 (S : hS) (x1 : Int32) (x2 : Int64) (x4 : Int32) (hp : wfM S) (c2 : ¬ ((FMO_isHousehold (sI S 49 4 0) x1) = 0)) (c3 : ¬ ((FMO_isDay (sI S 49 4 0) x2) = 0)) (c4 : ¬ (x4 < 0)) (c5 : x4 ≤ 2) : wfM (sI S 49 4 0) ∧ bt (0 : Int32) 240 := ⟨(wfM_I hp), (by
    have m0 := hp.1
    have m1 := hp.2.1
    have m3 := hp.2.2.1
    have m4 := hp.2.2.2.1
    have m6 := hp.2.2.2.2.2.2.1
    have k0 := hhM (wfM_I hp) c2
    simp only [rg, bt, lp, vp_rg, Int32.lt_iff_toInt_lt, Int32.le_iff_toInt_le, Int64.lt_iff_toInt_lt, Int64.le_iff_toInt_le, l32, sI_2, tq_0, tq_1, tq_2, tq_6, tq_8, tq_10, tq_20, tq_30, tq_40, tl_0, tl_1, tl_2, tl_3, tl_4, tl_5, tl_6, tl_8, tl_10, tl_14, tl_20, tl_24, tl_30, tl_40, tl_50, tl_60, tl_70, tl_80, tl_100, tl_120, tl_140, tl_180, tl_220, tl_240, tl_260, tl_280, tl_300, tl_540, tl_780, tl_1020, tl_1180, tl_1190, tl_1200, tl_1220, tl_m1] at *
    have t0 : (0 : Int32).toInt = 0 := tl_0
    omega)⟩
theorem vc_FMO_interest_mu041_20 (S : hS) (x1 : Int32) (x2 : Int64) (x4 : Int32) (hp : wfM S) (c2 : ¬ ((FMO_isHousehold (sI S 49 4 0) x1) = 0)) (c3 : ¬ ((FMO_isDay (sI S 49 4 0) x2) = 0)) (c4 : ¬ (x4 < 0)) (c5 : x4 ≤ 2) : ((240 - (0 : Int32).toInt).toNat) < 300 := by
    have m0 := hp.1
    have m1 := hp.2.1
    have m3 := hp.2.2.1
    have m4 := hp.2.2.2.1
    have m6 := hp.2.2.2.2.2.2.1
    have k0 := hhM (wfM_I hp) c2
    simp only [rg, bt, lp, vp_rg, Int32.lt_iff_toInt_lt, Int32.le_iff_toInt_le, Int64.lt_iff_toInt_lt, Int64.le_iff_toInt_le, l32, sI_2, tq_0, tq_1, tq_2, tq_6, tq_8, tq_10, tq_20, tq_30, tq_40, tl_0, tl_1, tl_2, tl_3, tl_4, tl_5, tl_6, tl_8, tl_10, tl_14, tl_20, tl_24, tl_30, tl_40, tl_50, tl_60, tl_70, tl_80, tl_100, tl_120, tl_140, tl_180, tl_220, tl_240, tl_260, tl_280, tl_300, tl_540, tl_780, tl_1020, tl_1180, tl_1190, tl_1200, tl_1220, tl_m1] at *
    have t0 : (0 : Int32).toInt = 0 := tl_0
    omega
theorem vc_FMO_interest_ix127_21 (S : hS) (x1 : Int32) (x2 : Int64) (x4 : Int32) (hp : wfM S) (c2 : ¬ ((FMO_isHousehold (sI S 49 4 0) x1) = 0)) (c3 : ¬ ((FMO_isDay (sI S 49 4 0) x2) = 0)) (c4 : ¬ (x4 < 0)) (c5 : x4 ≤ 2) (y18_5 : Int64) (y18_7 : Int32) (hq18 : LMO_interest_41 300 (sI S 49 4 0) x1 x2 x4 0 0 = (y18_5, y18_7)) : vp_in 5 1220 := by
    have m0 := hp.1
    have m1 := hp.2.1
    have m3 := hp.2.2.1
    have m4 := hp.2.2.2.1
    have m6 := hp.2.2.2.2.2.2.1
    have k0 := hhM (wfM_I hp) c2
    simp only [rg, bt, lp, vp_rg, Int32.lt_iff_toInt_lt, Int32.le_iff_toInt_le, Int64.lt_iff_toInt_lt, Int64.le_iff_toInt_le, l32, sI_2, tq_0, tq_1, tq_2, tq_6, tq_8, tq_10, tq_20, tq_30, tq_40, tl_0, tl_1, tl_2, tl_3, tl_4, tl_5, tl_6, tl_8, tl_10, tl_14, tl_20, tl_24, tl_30, tl_40, tl_50, tl_60, tl_70, tl_80, tl_100, tl_120, tl_140, tl_180, tl_220, tl_240, tl_260, tl_280, tl_300, tl_540, tl_780, tl_1020, tl_1180, tl_1190, tl_1200, tl_1220, tl_m1] at *
    have t0 : (5 : Int32).toInt = 5 := tl_5
    omega
theorem vc_FMO_interest_ix140_22 (S : hS) (x1 : Int32) (x2 : Int64) (x4 : Int32) (hp : wfM S) (c2 : ¬ ((FMO_isHousehold (sI S 49 4 0) x1) = 0)) (c3 : ¬ ((FMO_isDay (sI S 49 4 0) x2) = 0)) (c4 : ¬ (x4 < 0)) (c5 : x4 ≤ 2) (y18_5 : Int64) (y18_7 : Int32) (hq18 : LMO_interest_41 300 (sI S 49 4 0) x1 x2 x4 0 0 = (y18_5, y18_7)) : vp_in 6 1220 := by
    have m0 := hp.1
    have m1 := hp.2.1
    have m3 := hp.2.2.1
    have m4 := hp.2.2.2.1
    have m6 := hp.2.2.2.2.2.2.1
    have k0 := hhM (wfM_I hp) c2
    simp only [rg, bt, lp, vp_rg, Int32.lt_iff_toInt_lt, Int32.le_iff_toInt_le, Int64.lt_iff_toInt_lt, Int64.le_iff_toInt_le, l32, sI_2, tq_0, tq_1, tq_2, tq_6, tq_8, tq_10, tq_20, tq_30, tq_40, tl_0, tl_1, tl_2, tl_3, tl_4, tl_5, tl_6, tl_8, tl_10, tl_14, tl_20, tl_24, tl_30, tl_40, tl_50, tl_60, tl_70, tl_80, tl_100, tl_120, tl_140, tl_180, tl_220, tl_240, tl_260, tl_280, tl_300, tl_540, tl_780, tl_1020, tl_1180, tl_1190, tl_1200, tl_1220, tl_m1] at *
    have t0 : (6 : Int32).toInt = 6 := tl_6
    omega
theorem vc_FMO_interest_nz177_24 (S : hS) (x1 : Int32) (x2 : Int64) (x4 : Int32) (hp : wfM S) (c2 : ¬ ((FMO_isHousehold (sI S 49 4 0) x1) = 0)) (c3 : ¬ ((FMO_isDay (sI S 49 4 0) x2) = 0)) (c4 : ¬ (x4 < 0)) (c5 : x4 ≤ 2) (y18_5 : Int64) (y18_7 : Int32) (hq18 : LMO_interest_41 300 (sI S 49 4 0) x1 x2 x4 0 0 = (y18_5, y18_7)) (c23 : 2 ≤ x4) : ¬ (2 * (360 * (S.2 50 6))) = 0 := nz_rate2 hp.2.2.2.2.2.2.1
theorem vc_FMO_interest_pre156_25 (S : hS) (x1 : Int32) (x2 : Int64) (x4 : Int32) (hp : wfM S) (c2 : ¬ ((FMO_isHousehold (sI S 49 4 0) x1) = 0)) (c3 : ¬ ((FMO_isDay (sI S 49 4 0) x2) = 0)) (c4 : ¬ (x4 < 0)) (c5 : x4 ≤ 2) (y18_5 : Int64) (y18_7 : Int32) (hq18 : LMO_interest_41 300 (sI S 49 4 0) x1 x2 x4 0 0 = (y18_5, y18_7)) (c23 : ¬ (2 ≤ x4)) : ¬ (360 * (S.2 50 6)) = 0 := nz_rate hp.2.2.2.2.2.2.1
theorem vc_FMO_rate_ix35_3 (S : hS) (x1 : Int64) (x3 : Int64) (hp : wfM S) (c1 : ¬ ((FMO_isIn (sI S 49 4 0) x1 0 100) = 0)) (c2 : ¬ ((FMO_isIn (sI S 49 4 0) x3 1 100) = 0)) : vp_in 5 1220 := by
    have m0 := hp.1
    have m1 := hp.2.1
    have m3 := hp.2.2.1
    have m4 := hp.2.2.2.1
    have m6 := hp.2.2.2.2.2.2.1
    simp only [rg, bt, lp, vp_rg, Int32.lt_iff_toInt_lt, Int32.le_iff_toInt_le, Int64.lt_iff_toInt_lt, Int64.le_iff_toInt_le, l32, sI_2, tq_0, tq_1, tq_2, tq_6, tq_8, tq_10, tq_20, tq_30, tq_40, tl_0, tl_1, tl_2, tl_3, tl_4, tl_5, tl_6, tl_8, tl_10, tl_14, tl_20, tl_24, tl_30, tl_40, tl_50, tl_60, tl_70, tl_80, tl_100, tl_120, tl_140, tl_180, tl_220, tl_240, tl_260, tl_280, tl_300, tl_540, tl_780, tl_1020, tl_1180, tl_1190, tl_1200, tl_1220, tl_m1] at *
    have t0 : (5 : Int32).toInt = 5 := tl_5
    omega
theorem vc_FMO_rate_ix43_4 (S : hS) (x1 : Int64) (x3 : Int64) (hp : wfM S) (c1 : ¬ ((FMO_isIn (sI S 49 4 0) x1 0 100) = 0)) (c2 : ¬ ((FMO_isIn (sI S 49 4 0) x3 1 100) = 0)) : vp_in 6 1220 := by
    have m0 := hp.1
    have m1 := hp.2.1
    have m3 := hp.2.2.1
    have m4 := hp.2.2.2.1
    have m6 := hp.2.2.2.2.2.2.1
    simp only [rg, bt, lp, vp_rg, Int32.lt_iff_toInt_lt, Int32.le_iff_toInt_le, Int64.lt_iff_toInt_lt, Int64.le_iff_toInt_le, l32, sI_2, tq_0, tq_1, tq_2, tq_6, tq_8, tq_10, tq_20, tq_30, tq_40, tl_0, tl_1, tl_2, tl_3, tl_4, tl_5, tl_6, tl_8, tl_10, tl_14, tl_20, tl_24, tl_30, tl_40, tl_50, tl_60, tl_70, tl_80, tl_100, tl_120, tl_140, tl_180, tl_220, tl_240, tl_260, tl_280, tl_300, tl_540, tl_780, tl_1020, tl_1180, tl_1190, tl_1200, tl_1220, tl_m1] at *
    have t0 : (6 : Int32).toInt = 6 := tl_6
    omega
theorem vc_FMO_statement_ix19_1 (S : hS) (x1 : Int32) (x2 : Int32) (x3 : Int32) (x4 : Int32) (x5 : Int32) (hJ : wfM S ∧ bt x5 40) : vp_in 1 1220 := by
    have k0 := hJ.2
    have m0 := hJ.1.1
    have m1 := hJ.1.2.1
    have m3 := hJ.1.2.2.1
    have m4 := hJ.1.2.2.2.1
    have m6 := hJ.1.2.2.2.2.2.2.1
    simp only [rg, bt, lp, vp_rg, Int32.lt_iff_toInt_lt, Int32.le_iff_toInt_le, Int64.lt_iff_toInt_lt, Int64.le_iff_toInt_le, l32, sI_2, tq_0, tq_1, tq_2, tq_6, tq_8, tq_10, tq_20, tq_30, tq_40, tl_0, tl_1, tl_2, tl_3, tl_4, tl_5, tl_6, tl_8, tl_10, tl_14, tl_20, tl_24, tl_30, tl_40, tl_50, tl_60, tl_70, tl_80, tl_100, tl_120, tl_140, tl_180, tl_220, tl_240, tl_260, tl_280, tl_300, tl_540, tl_780, tl_1020, tl_1180, tl_1190, tl_1200, tl_1220, tl_m1] at *
    have t0 : (1 : Int32).toInt = 1 := tl_1
    omega
theorem vc_FMO_statement_ix40_3 (S : hS) (x1 : Int32) (x2 : Int32) (x3 : Int32) (x4 : Int32) (x5 : Int32) (x6 : Int32) (hJ : wfM S ∧ bt x6 6 ∧ rg x5 40) : vp_in (260 + x5) 1220 := by
    have k0 := hJ.2.1
    have k1 := hJ.2.2
    have m0 := hJ.1.1
    have m1 := hJ.1.2.1
    have m3 := hJ.1.2.2.1
    have m4 := hJ.1.2.2.2.1
    have m6 := hJ.1.2.2.2.2.2.2.1
    simp only [rg, bt, lp, vp_rg, Int32.lt_iff_toInt_lt, Int32.le_iff_toInt_le, Int64.lt_iff_toInt_lt, Int64.le_iff_toInt_le, l32, sI_2, tq_0, tq_1, tq_2, tq_6, tq_8, tq_10, tq_20, tq_30, tq_40, tl_0, tl_1, tl_2, tl_3, tl_4, tl_5, tl_6, tl_8, tl_10, tl_14, tl_20, tl_24, tl_30, tl_40, tl_50, tl_60, tl_70, tl_80, tl_100, tl_120, tl_140, tl_180, tl_220, tl_240, tl_260, tl_280, tl_300, tl_540, tl_780, tl_1020, tl_1180, tl_1190, tl_1200, tl_1220, tl_m1] at *
    have t0 : (260 + x5).toInt = (260 + (x5).toInt) := (ti_add (a := (260 : Int32)) (b := (x5)) tl_260 rfl (by omega) (by omega))
    omega
theorem vc_FMO_statement_pre47_5 (S : hS) (x1 : Int32) (x2 : Int32) (x3 : Int32) (x4 : Int32) (x5 : Int32) (x6 : Int32) (hJ : wfM S ∧ bt x6 6 ∧ rg x5 40) (c4 : ¬ ((S.2 50 ((260 + x5).toNatClampNeg)) ≤ x6.toInt64)) : wfM S := hJ.1
theorem vc_FMO_statement_inv27_7 (S : hS) (x1 : Int32) (x2 : Int32) (x3 : Int32) (x4 : Int32) (x5 : Int32) (x6 : Int32) (hJ : wfM S ∧ bt x6 6 ∧ rg x5 40) (c4 : ¬ ((S.2 50 ((260 + x5).toNatClampNeg)) ≤ x6.toInt64)) (c6 : (FMO_isAccount S x1) = 0) : wfM S ∧ bt (x6 + 1) 6 ∧ rg x5 40 := ⟨hJ.1, (by
    have k0 := hJ.2.1
    have k1 := hJ.2.2
    have m0 := hJ.1.1
    have m1 := hJ.1.2.1
    have m3 := hJ.1.2.2.1
    have m4 := hJ.1.2.2.2.1
    have m6 := hJ.1.2.2.2.2.2.2.1
    simp only [rg, bt, lp, vp_rg, Int32.lt_iff_toInt_lt, Int32.le_iff_toInt_le, Int64.lt_iff_toInt_lt, Int64.le_iff_toInt_le, l32, sI_2, tq_0, tq_1, tq_2, tq_6, tq_8, tq_10, tq_20, tq_30, tq_40, tl_0, tl_1, tl_2, tl_3, tl_4, tl_5, tl_6, tl_8, tl_10, tl_14, tl_20, tl_24, tl_30, tl_40, tl_50, tl_60, tl_70, tl_80, tl_100, tl_120, tl_140, tl_180, tl_220, tl_240, tl_260, tl_280, tl_300, tl_540, tl_780, tl_1020, tl_1180, tl_1190, tl_1200, tl_1220, tl_m1] at *
    have k2 := wfM_r hJ.1 (x := x5) (by simp only [rg]; omega)
    have t0 : (x6 + 1).toInt = ((x6).toInt + 1) := (ti_add (a := (x6)) (b := (1 : Int32)) rfl tl_1 (by omega) (by omega))
    omega), hJ.2.2⟩
theorem vc_FMO_statement_mu27_8 (S : hS) (x1 : Int32) (x2 : Int32) (x3 : Int32) (x4 : Int32) (x5 : Int32) (x6 : Int32) (hJ : wfM S ∧ bt x6 6 ∧ rg x5 40) (c4 : ¬ ((S.2 50 ((260 + x5).toNatClampNeg)) ≤ x6.toInt64)) (c6 : (FMO_isAccount S x1) = 0) : ((6 - (x6 + 1).toInt).toNat) < ((6 - x6.toInt).toNat) := by
    have k0 := hJ.2.1
    have k1 := hJ.2.2
    have m0 := hJ.1.1
    have m1 := hJ.1.2.1
    have m3 := hJ.1.2.2.1
    have m4 := hJ.1.2.2.2.1
    have m6 := hJ.1.2.2.2.2.2.2.1
    simp only [rg, bt, lp, vp_rg, Int32.lt_iff_toInt_lt, Int32.le_iff_toInt_le, Int64.lt_iff_toInt_lt, Int64.le_iff_toInt_le, l32, sI_2, tq_0, tq_1, tq_2, tq_6, tq_8, tq_10, tq_20, tq_30, tq_40, tl_0, tl_1, tl_2, tl_3, tl_4, tl_5, tl_6, tl_8, tl_10, tl_14, tl_20, tl_24, tl_30, tl_40, tl_50, tl_60, tl_70, tl_80, tl_100, tl_120, tl_140, tl_180, tl_220, tl_240, tl_260, tl_280, tl_300, tl_540, tl_780, tl_1020, tl_1180, tl_1190, tl_1200, tl_1220, tl_m1] at *
    have k2 := wfM_r hJ.1 (x := x5) (by simp only [rg]; omega)
    have t0 : (x6 + 1).toInt = ((x6).toInt + 1) := (ti_add (a := (x6)) (b := (1 : Int32)) rfl tl_1 (by omega) (by omega))
    omega
theorem vc_FMO_statement_ix63_9 (S : hS) (x1 : Int32) (x2 : Int32) (x3 : Int32) (x4 : Int32) (x5 : Int32) (x6 : Int32) (hJ : wfM S ∧ bt x6 6 ∧ rg x5 40) (c4 : ¬ ((S.2 50 ((260 + x5).toNatClampNeg)) ≤ x6.toInt64)) (c6 : ¬ ((FMO_isAccount S x1) = 0)) : vp_in (140 + x5) 1220 := by
    have k0 := hJ.2.1
    have k1 := hJ.2.2
    have m0 := hJ.1.1
    have m1 := hJ.1.2.1
    have m3 := hJ.1.2.2.1
    have m4 := hJ.1.2.2.2.1
    have m6 := hJ.1.2.2.2.2.2.2.1
    have k2 := acM hJ.1 c6
    simp only [rg, bt, lp, vp_rg, Int32.lt_iff_toInt_lt, Int32.le_iff_toInt_le, Int64.lt_iff_toInt_lt, Int64.le_iff_toInt_le, l32, sI_2, tq_0, tq_1, tq_2, tq_6, tq_8, tq_10, tq_20, tq_30, tq_40, tl_0, tl_1, tl_2, tl_3, tl_4, tl_5, tl_6, tl_8, tl_10, tl_14, tl_20, tl_24, tl_30, tl_40, tl_50, tl_60, tl_70, tl_80, tl_100, tl_120, tl_140, tl_180, tl_220, tl_240, tl_260, tl_280, tl_300, tl_540, tl_780, tl_1020, tl_1180, tl_1190, tl_1200, tl_1220, tl_m1] at *
    have k3 := wfM_r hJ.1 (x := x5) (by simp only [rg]; omega)
    have t0 : (140 + x5).toInt = (140 + (x5).toInt) := (ti_add (a := (140 : Int32)) (b := (x5)) tl_140 rfl (by omega) (by omega))
    omega
theorem vc_FMO_statement_inv27_11 (S : hS) (x1 : Int32) (x2 : Int32) (x3 : Int32) (x4 : Int32) (x5 : Int32) (x6 : Int32) (hJ : wfM S ∧ bt x6 6 ∧ rg x5 40) (c4 : ¬ ((S.2 50 ((260 + x5).toNatClampNeg)) ≤ x6.toInt64)) (c6 : ¬ ((FMO_isAccount S x1) = 0)) (c10 : (S.2 50 ((140 + x5).toNatClampNeg)) ≤ 0) : wfM S ∧ bt (x6 + 1) 6 ∧ rg x5 40 := ⟨hJ.1, (by
    have k0 := hJ.2.1
    have k1 := hJ.2.2
    have m0 := hJ.1.1
    have m1 := hJ.1.2.1
    have m3 := hJ.1.2.2.1
    have m4 := hJ.1.2.2.2.1
    have m6 := hJ.1.2.2.2.2.2.2.1
    have k2 := acM hJ.1 c6
    simp only [rg, bt, lp, vp_rg, Int32.lt_iff_toInt_lt, Int32.le_iff_toInt_le, Int64.lt_iff_toInt_lt, Int64.le_iff_toInt_le, l32, sI_2, tq_0, tq_1, tq_2, tq_6, tq_8, tq_10, tq_20, tq_30, tq_40, tl_0, tl_1, tl_2, tl_3, tl_4, tl_5, tl_6, tl_8, tl_10, tl_14, tl_20, tl_24, tl_30, tl_40, tl_50, tl_60, tl_70, tl_80, tl_100, tl_120, tl_140, tl_180, tl_220, tl_240, tl_260, tl_280, tl_300, tl_540, tl_780, tl_1020, tl_1180, tl_1190, tl_1200, tl_1220, tl_m1] at *
    have k3 := wfM_r hJ.1 (x := x5) (by simp only [rg]; omega)
    have t0 : (x6 + 1).toInt = ((x6).toInt + 1) := (ti_add (a := (x6)) (b := (1 : Int32)) rfl tl_1 (by omega) (by omega))
    omega), hJ.2.2⟩
theorem vc_FMO_statement_mu27_12 (S : hS) (x1 : Int32) (x2 : Int32) (x3 : Int32) (x4 : Int32) (x5 : Int32) (x6 : Int32) (hJ : wfM S ∧ bt x6 6 ∧ rg x5 40) (c4 : ¬ ((S.2 50 ((260 + x5).toNatClampNeg)) ≤ x6.toInt64)) (c6 : ¬ ((FMO_isAccount S x1) = 0)) (c10 : (S.2 50 ((140 + x5).toNatClampNeg)) ≤ 0) : ((6 - (x6 + 1).toInt).toNat) < ((6 - x6.toInt).toNat) := by
    have k0 := hJ.2.1
    have k1 := hJ.2.2
    have m0 := hJ.1.1
    have m1 := hJ.1.2.1
    have m3 := hJ.1.2.2.1
    have m4 := hJ.1.2.2.2.1
    have m6 := hJ.1.2.2.2.2.2.2.1
    have k2 := acM hJ.1 c6
    simp only [rg, bt, lp, vp_rg, Int32.lt_iff_toInt_lt, Int32.le_iff_toInt_le, Int64.lt_iff_toInt_lt, Int64.le_iff_toInt_le, l32, sI_2, tq_0, tq_1, tq_2, tq_6, tq_8, tq_10, tq_20, tq_30, tq_40, tl_0, tl_1, tl_2, tl_3, tl_4, tl_5, tl_6, tl_8, tl_10, tl_14, tl_20, tl_24, tl_30, tl_40, tl_50, tl_60, tl_70, tl_80, tl_100, tl_120, tl_140, tl_180, tl_220, tl_240, tl_260, tl_280, tl_300, tl_540, tl_780, tl_1020, tl_1180, tl_1190, tl_1200, tl_1220, tl_m1] at *
    have k3 := wfM_r hJ.1 (x := x5) (by simp only [rg]; omega)
    have t0 : (x6 + 1).toInt = ((x6).toInt + 1) := (ti_add (a := (x6)) (b := (1 : Int32)) rfl tl_1 (by omega) (by omega))
    omega
theorem vc_FMO_statement_ix78_13 (S : hS) (x1 : Int32) (x2 : Int32) (x3 : Int32) (x4 : Int32) (x5 : Int32) (x6 : Int32) (hJ : wfM S ∧ bt x6 6 ∧ rg x5 40) (c4 : ¬ ((S.2 50 ((260 + x5).toNatClampNeg)) ≤ x6.toInt64)) (c6 : ¬ ((FMO_isAccount S x1) = 0)) (c10 : ¬ ((S.2 50 ((140 + x5).toNatClampNeg)) ≤ 0)) : vp_in (100 + x5) 1220 := by
    have k0 := hJ.2.1
    have k1 := hJ.2.2
    have m0 := hJ.1.1
    have m1 := hJ.1.2.1
    have m3 := hJ.1.2.2.1
    have m4 := hJ.1.2.2.2.1
    have m6 := hJ.1.2.2.2.2.2.2.1
    have k2 := acM hJ.1 c6
    simp only [rg, bt, lp, vp_rg, Int32.lt_iff_toInt_lt, Int32.le_iff_toInt_le, Int64.lt_iff_toInt_lt, Int64.le_iff_toInt_le, l32, sI_2, tq_0, tq_1, tq_2, tq_6, tq_8, tq_10, tq_20, tq_30, tq_40, tl_0, tl_1, tl_2, tl_3, tl_4, tl_5, tl_6, tl_8, tl_10, tl_14, tl_20, tl_24, tl_30, tl_40, tl_50, tl_60, tl_70, tl_80, tl_100, tl_120, tl_140, tl_180, tl_220, tl_240, tl_260, tl_280, tl_300, tl_540, tl_780, tl_1020, tl_1180, tl_1190, tl_1200, tl_1220, tl_m1] at *
    have k3 := wfM_r hJ.1 (x := x5) (by simp only [rg]; omega)
    have t0 : (100 + x5).toInt = (100 + (x5).toInt) := (ti_add (a := (100 : Int32)) (b := (x5)) tl_100 rfl (by omega) (by omega))
    omega
theorem vc_FMO_statement_inv27_15 (S : hS) (x1 : Int32) (x2 : Int32) (x3 : Int32) (x4 : Int32) (x5 : Int32) (x6 : Int32) (hJ : wfM S ∧ bt x6 6 ∧ rg x5 40) (c4 : ¬ ((S.2 50 ((260 + x5).toNatClampNeg)) ≤ x6.toInt64)) (c6 : ¬ ((FMO_isAccount S x1) = 0)) (c10 : ¬ ((S.2 50 ((140 + x5).toNatClampNeg)) ≤ 0)) (c14 : ¬ (((S.2 50 ((100 + x5).toNatClampNeg)) / 30) = x2.toInt64)) : wfM S ∧ bt (x6 + 1) 6 ∧ rg x5 40 := ⟨hJ.1, (by
    have k0 := hJ.2.1
    have k1 := hJ.2.2
    have m0 := hJ.1.1
    have m1 := hJ.1.2.1
    have m3 := hJ.1.2.2.1
    have m4 := hJ.1.2.2.2.1
    have m6 := hJ.1.2.2.2.2.2.2.1
    have k2 := acM hJ.1 c6
    simp only [rg, bt, lp, vp_rg, Int32.lt_iff_toInt_lt, Int32.le_iff_toInt_le, Int64.lt_iff_toInt_lt, Int64.le_iff_toInt_le, l32, sI_2, tq_0, tq_1, tq_2, tq_6, tq_8, tq_10, tq_20, tq_30, tq_40, tl_0, tl_1, tl_2, tl_3, tl_4, tl_5, tl_6, tl_8, tl_10, tl_14, tl_20, tl_24, tl_30, tl_40, tl_50, tl_60, tl_70, tl_80, tl_100, tl_120, tl_140, tl_180, tl_220, tl_240, tl_260, tl_280, tl_300, tl_540, tl_780, tl_1020, tl_1180, tl_1190, tl_1200, tl_1220, tl_m1] at *
    have k3 := wfM_r hJ.1 (x := x5) (by simp only [rg]; omega)
    have t0 : (x6 + 1).toInt = ((x6).toInt + 1) := (ti_add (a := (x6)) (b := (1 : Int32)) rfl tl_1 (by omega) (by omega))
    omega), hJ.2.2⟩
theorem vc_FMO_statement_mu27_16 (S : hS) (x1 : Int32) (x2 : Int32) (x3 : Int32) (x4 : Int32) (x5 : Int32) (x6 : Int32) (hJ : wfM S ∧ bt x6 6 ∧ rg x5 40) (c4 : ¬ ((S.2 50 ((260 + x5).toNatClampNeg)) ≤ x6.toInt64)) (c6 : ¬ ((FMO_isAccount S x1) = 0)) (c10 : ¬ ((S.2 50 ((140 + x5).toNatClampNeg)) ≤ 0)) (c14 : ¬ (((S.2 50 ((100 + x5).toNatClampNeg)) / 30) = x2.toInt64)) : ((6 - (x6 + 1).toInt).toNat) < ((6 - x6.toInt).toNat) := by
    have k0 := hJ.2.1
    have k1 := hJ.2.2
    have m0 := hJ.1.1
    have m1 := hJ.1.2.1
    have m3 := hJ.1.2.2.1
    have m4 := hJ.1.2.2.2.1
    have m6 := hJ.1.2.2.2.2.2.2.1
    have k2 := acM hJ.1 c6
    simp only [rg, bt, lp, vp_rg, Int32.lt_iff_toInt_lt, Int32.le_iff_toInt_le, Int64.lt_iff_toInt_lt, Int64.le_iff_toInt_le, l32, sI_2, tq_0, tq_1, tq_2, tq_6, tq_8, tq_10, tq_20, tq_30, tq_40, tl_0, tl_1, tl_2, tl_3, tl_4, tl_5, tl_6, tl_8, tl_10, tl_14, tl_20, tl_24, tl_30, tl_40, tl_50, tl_60, tl_70, tl_80, tl_100, tl_120, tl_140, tl_180, tl_220, tl_240, tl_260, tl_280, tl_300, tl_540, tl_780, tl_1020, tl_1180, tl_1190, tl_1200, tl_1220, tl_m1] at *
    have k3 := wfM_r hJ.1 (x := x5) (by simp only [rg]; omega)
    have t0 : (x6 + 1).toInt = ((x6).toInt + 1) := (ti_add (a := (x6)) (b := (1 : Int32)) rfl tl_1 (by omega) (by omega))
    omega
theorem vc_FMO_statement_ix105_17 (S : hS) (x1 : Int32) (x2 : Int32) (x3 : Int32) (x4 : Int32) (x5 : Int32) (x6 : Int32) (hJ : wfM S ∧ bt x6 6 ∧ rg x5 40) (c4 : ¬ ((S.2 50 ((260 + x5).toNatClampNeg)) ≤ x6.toInt64)) (c6 : ¬ ((FMO_isAccount S x1) = 0)) (c10 : ¬ ((S.2 50 ((140 + x5).toNatClampNeg)) ≤ 0)) (c14 : ((S.2 50 ((100 + x5).toNatClampNeg)) / 30) = x2.toInt64) : vp_in ((300 + (6 * x5)) + x6) 1220 := by
    have k0 := hJ.2.1
    have k1 := hJ.2.2
    have m0 := hJ.1.1
    have m1 := hJ.1.2.1
    have m3 := hJ.1.2.2.1
    have m4 := hJ.1.2.2.2.1
    have m6 := hJ.1.2.2.2.2.2.2.1
    have k2 := acM hJ.1 c6
    simp only [rg, bt, lp, vp_rg, Int32.lt_iff_toInt_lt, Int32.le_iff_toInt_le, Int64.lt_iff_toInt_lt, Int64.le_iff_toInt_le, l32, sI_2, tq_0, tq_1, tq_2, tq_6, tq_8, tq_10, tq_20, tq_30, tq_40, tl_0, tl_1, tl_2, tl_3, tl_4, tl_5, tl_6, tl_8, tl_10, tl_14, tl_20, tl_24, tl_30, tl_40, tl_50, tl_60, tl_70, tl_80, tl_100, tl_120, tl_140, tl_180, tl_220, tl_240, tl_260, tl_280, tl_300, tl_540, tl_780, tl_1020, tl_1180, tl_1190, tl_1200, tl_1220, tl_m1] at *
    have k3 := wfM_r hJ.1 (x := x5) (by simp only [rg]; omega)
    have t0 : ((300 + (6 * x5)) + x6).toInt = ((300 + (6 * (x5).toInt)) + (x6).toInt) := (ti_add (a := (300 + (6 * x5))) (b := (x6)) (ti_add (a := (300 : Int32)) (b := (6 * x5)) tl_300 (ti_mul (a := (6 : Int32)) (b := (x5)) tl_6 rfl (by omega) (by omega)) (by omega) (by omega)) rfl (by omega) (by omega))
    omega
theorem vc_FMO_statement_inv27_19 (S : hS) (x1 : Int32) (x2 : Int32) (x3 : Int32) (x4 : Int32) (x5 : Int32) (x6 : Int32) (hJ : wfM S ∧ bt x6 6 ∧ rg x5 40) (c4 : ¬ ((S.2 50 ((260 + x5).toNatClampNeg)) ≤ x6.toInt64)) (c6 : ¬ ((FMO_isAccount S x1) = 0)) (c10 : ¬ ((S.2 50 ((140 + x5).toNatClampNeg)) ≤ 0)) (c14 : ((S.2 50 ((100 + x5).toNatClampNeg)) / 30) = x2.toInt64) (c18 : ¬ ((S.2 50 (((300 + (6 * x5)) + x6).toNatClampNeg)) = x1.toInt64)) : wfM S ∧ bt (x6 + 1) 6 ∧ rg x5 40 := ⟨hJ.1, (by
    have k0 := hJ.2.1
    have k1 := hJ.2.2
    have m0 := hJ.1.1
    have m1 := hJ.1.2.1
    have m3 := hJ.1.2.2.1
    have m4 := hJ.1.2.2.2.1
    have m6 := hJ.1.2.2.2.2.2.2.1
    have k2 := acM hJ.1 c6
    simp only [rg, bt, lp, vp_rg, Int32.lt_iff_toInt_lt, Int32.le_iff_toInt_le, Int64.lt_iff_toInt_lt, Int64.le_iff_toInt_le, l32, sI_2, tq_0, tq_1, tq_2, tq_6, tq_8, tq_10, tq_20, tq_30, tq_40, tl_0, tl_1, tl_2, tl_3, tl_4, tl_5, tl_6, tl_8, tl_10, tl_14, tl_20, tl_24, tl_30, tl_40, tl_50, tl_60, tl_70, tl_80, tl_100, tl_120, tl_140, tl_180, tl_220, tl_240, tl_260, tl_280, tl_300, tl_540, tl_780, tl_1020, tl_1180, tl_1190, tl_1200, tl_1220, tl_m1] at *
    have k3 := wfM_r hJ.1 (x := x5) (by simp only [rg]; omega)
    have t0 : (x6 + 1).toInt = ((x6).toInt + 1) := (ti_add (a := (x6)) (b := (1 : Int32)) rfl tl_1 (by omega) (by omega))
    omega), hJ.2.2⟩
theorem vc_FMO_statement_mu27_20 (S : hS) (x1 : Int32) (x2 : Int32) (x3 : Int32) (x4 : Int32) (x5 : Int32) (x6 : Int32) (hJ : wfM S ∧ bt x6 6 ∧ rg x5 40) (c4 : ¬ ((S.2 50 ((260 + x5).toNatClampNeg)) ≤ x6.toInt64)) (c6 : ¬ ((FMO_isAccount S x1) = 0)) (c10 : ¬ ((S.2 50 ((140 + x5).toNatClampNeg)) ≤ 0)) (c14 : ((S.2 50 ((100 + x5).toNatClampNeg)) / 30) = x2.toInt64) (c18 : ¬ ((S.2 50 (((300 + (6 * x5)) + x6).toNatClampNeg)) = x1.toInt64)) : ((6 - (x6 + 1).toInt).toNat) < ((6 - x6.toInt).toNat) := by
    have k0 := hJ.2.1
    have k1 := hJ.2.2
    have m0 := hJ.1.1
    have m1 := hJ.1.2.1
    have m3 := hJ.1.2.2.1
    have m4 := hJ.1.2.2.2.1
    have m6 := hJ.1.2.2.2.2.2.2.1
    have k2 := acM hJ.1 c6
    simp only [rg, bt, lp, vp_rg, Int32.lt_iff_toInt_lt, Int32.le_iff_toInt_le, Int64.lt_iff_toInt_lt, Int64.le_iff_toInt_le, l32, sI_2, tq_0, tq_1, tq_2, tq_6, tq_8, tq_10, tq_20, tq_30, tq_40, tl_0, tl_1, tl_2, tl_3, tl_4, tl_5, tl_6, tl_8, tl_10, tl_14, tl_20, tl_24, tl_30, tl_40, tl_50, tl_60, tl_70, tl_80, tl_100, tl_120, tl_140, tl_180, tl_220, tl_240, tl_260, tl_280, tl_300, tl_540, tl_780, tl_1020, tl_1180, tl_1190, tl_1200, tl_1220, tl_m1] at *
    have k3 := wfM_r hJ.1 (x := x5) (by simp only [rg]; omega)
    have t0 : (x6 + 1).toInt = ((x6).toInt + 1) := (ti_add (a := (x6)) (b := (1 : Int32)) rfl tl_1 (by omega) (by omega))
    omega
theorem vc_FMO_statement_inv27_22 (S : hS) (x1 : Int32) (x2 : Int32) (x3 : Int32) (x4 : Int32) (x5 : Int32) (x6 : Int32) (hJ : wfM S ∧ bt x6 6 ∧ rg x5 40) (c4 : ¬ ((S.2 50 ((260 + x5).toNatClampNeg)) ≤ x6.toInt64)) (c6 : ¬ ((FMO_isAccount S x1) = 0)) (c10 : ¬ ((S.2 50 ((140 + x5).toNatClampNeg)) ≤ 0)) (c14 : ((S.2 50 ((100 + x5).toNatClampNeg)) / 30) = x2.toInt64) (c18 : (S.2 50 (((300 + (6 * x5)) + x6).toNatClampNeg)) = x1.toInt64) (c21 : ¬ (x4 = x3)) : wfM S ∧ bt (x6 + 1) 6 ∧ rg x5 40 := ⟨hJ.1, (by
    have k0 := hJ.2.1
    have k1 := hJ.2.2
    have m0 := hJ.1.1
    have m1 := hJ.1.2.1
    have m3 := hJ.1.2.2.1
    have m4 := hJ.1.2.2.2.1
    have m6 := hJ.1.2.2.2.2.2.2.1
    have k2 := acM hJ.1 c6
    simp only [rg, bt, lp, vp_rg, Int32.lt_iff_toInt_lt, Int32.le_iff_toInt_le, Int64.lt_iff_toInt_lt, Int64.le_iff_toInt_le, l32, sI_2, tq_0, tq_1, tq_2, tq_6, tq_8, tq_10, tq_20, tq_30, tq_40, tl_0, tl_1, tl_2, tl_3, tl_4, tl_5, tl_6, tl_8, tl_10, tl_14, tl_20, tl_24, tl_30, tl_40, tl_50, tl_60, tl_70, tl_80, tl_100, tl_120, tl_140, tl_180, tl_220, tl_240, tl_260, tl_280, tl_300, tl_540, tl_780, tl_1020, tl_1180, tl_1190, tl_1200, tl_1220, tl_m1] at *
    have k3 := wfM_r hJ.1 (x := x5) (by simp only [rg]; omega)
    have t0 : (x6 + 1).toInt = ((x6).toInt + 1) := (ti_add (a := (x6)) (b := (1 : Int32)) rfl tl_1 (by omega) (by omega))
    omega), hJ.2.2⟩
theorem vc_FMO_statement_mu27_23 (S : hS) (x1 : Int32) (x2 : Int32) (x3 : Int32) (x4 : Int32) (x5 : Int32) (x6 : Int32) (hJ : wfM S ∧ bt x6 6 ∧ rg x5 40) (c4 : ¬ ((S.2 50 ((260 + x5).toNatClampNeg)) ≤ x6.toInt64)) (c6 : ¬ ((FMO_isAccount S x1) = 0)) (c10 : ¬ ((S.2 50 ((140 + x5).toNatClampNeg)) ≤ 0)) (c14 : ((S.2 50 ((100 + x5).toNatClampNeg)) / 30) = x2.toInt64) (c18 : (S.2 50 (((300 + (6 * x5)) + x6).toNatClampNeg)) = x1.toInt64) (c21 : ¬ (x4 = x3)) : ((6 - (x6 + 1).toInt).toNat) < ((6 - x6.toInt).toNat) := by
    have k0 := hJ.2.1
    have k1 := hJ.2.2
    have m0 := hJ.1.1
    have m1 := hJ.1.2.1
    have m3 := hJ.1.2.2.1
    have m4 := hJ.1.2.2.2.1
    have m6 := hJ.1.2.2.2.2.2.2.1
    have k2 := acM hJ.1 c6
    simp only [rg, bt, lp, vp_rg, Int32.lt_iff_toInt_lt, Int32.le_iff_toInt_le, Int64.lt_iff_toInt_lt, Int64.le_iff_toInt_le, l32, sI_2, tq_0, tq_1, tq_2, tq_6, tq_8, tq_10, tq_20, tq_30, tq_40, tl_0, tl_1, tl_2, tl_3, tl_4, tl_5, tl_6, tl_8, tl_10, tl_14, tl_20, tl_24, tl_30, tl_40, tl_50, tl_60, tl_70, tl_80, tl_100, tl_120, tl_140, tl_180, tl_220, tl_240, tl_260, tl_280, tl_300, tl_540, tl_780, tl_1020, tl_1180, tl_1190, tl_1200, tl_1220, tl_m1] at *
    have k3 := wfM_r hJ.1 (x := x5) (by simp only [rg]; omega)
    have t0 : (x6 + 1).toInt = ((x6).toInt + 1) := (ti_add (a := (x6)) (b := (1 : Int32)) rfl tl_1 (by omega) (by omega))
    omega
theorem vc_FMO_statement_inv027_25 (S : hS) (x1 : Int32) (x2 : Int32) (x3 : Int32) (x4 : Int32) (x5 : Int32) (hJ : wfM S ∧ bt x5 40) (c2 : ¬ ((S.2 50 1) ≤ x5.toInt64)) : wfM S ∧ bt (0 : Int32) 6 ∧ rg x5 40 := ⟨hJ.1, (by
    have k0 := hJ.2
    have m0 := hJ.1.1
    have m1 := hJ.1.2.1
    have m3 := hJ.1.2.2.1
    have m4 := hJ.1.2.2.2.1
    have m6 := hJ.1.2.2.2.2.2.2.1
    simp only [rg, bt, lp, vp_rg, Int32.lt_iff_toInt_lt, Int32.le_iff_toInt_le, Int64.lt_iff_toInt_lt, Int64.le_iff_toInt_le, l32, sI_2, tq_0, tq_1, tq_2, tq_6, tq_8, tq_10, tq_20, tq_30, tq_40, tl_0, tl_1, tl_2, tl_3, tl_4, tl_5, tl_6, tl_8, tl_10, tl_14, tl_20, tl_24, tl_30, tl_40, tl_50, tl_60, tl_70, tl_80, tl_100, tl_120, tl_140, tl_180, tl_220, tl_240, tl_260, tl_280, tl_300, tl_540, tl_780, tl_1020, tl_1180, tl_1190, tl_1200, tl_1220, tl_m1] at *
    have t0 : (0 : Int32).toInt = 0 := tl_0
    omega), (by
    have k0 := hJ.2
    have m0 := hJ.1.1
    have m1 := hJ.1.2.1
    have m3 := hJ.1.2.2.1
    have m4 := hJ.1.2.2.2.1
    have m6 := hJ.1.2.2.2.2.2.2.1
    simp only [rg, bt, lp, vp_rg, Int32.lt_iff_toInt_lt, Int32.le_iff_toInt_le, Int64.lt_iff_toInt_lt, Int64.le_iff_toInt_le, l32, sI_2, tq_0, tq_1, tq_2, tq_6, tq_8, tq_10, tq_20, tq_30, tq_40, tl_0, tl_1, tl_2, tl_3, tl_4, tl_5, tl_6, tl_8, tl_10, tl_14, tl_20, tl_24, tl_30, tl_40, tl_50, tl_60, tl_70, tl_80, tl_100, tl_120, tl_140, tl_180, tl_220, tl_240, tl_260, tl_280, tl_300, tl_540, tl_780, tl_1020, tl_1180, tl_1190, tl_1200, tl_1220, tl_m1] at *
    omega)⟩
theorem vc_FMO_statement_mu027_26 (S : hS) (x1 : Int32) (x2 : Int32) (x3 : Int32) (x4 : Int32) (x5 : Int32) (hJ : wfM S ∧ bt x5 40) (c2 : ¬ ((S.2 50 1) ≤ x5.toInt64)) : ((6 - (0 : Int32).toInt).toNat) < 300 := by
    have k0 := hJ.2
    have m0 := hJ.1.1
    have m1 := hJ.1.2.1
    have m3 := hJ.1.2.2.1
    have m4 := hJ.1.2.2.2.1
    have m6 := hJ.1.2.2.2.2.2.2.1
    simp only [rg, bt, lp, vp_rg, Int32.lt_iff_toInt_lt, Int32.le_iff_toInt_le, Int64.lt_iff_toInt_lt, Int64.le_iff_toInt_le, l32, sI_2, tq_0, tq_1, tq_2, tq_6, tq_8, tq_10, tq_20, tq_30, tq_40, tl_0, tl_1, tl_2, tl_3, tl_4, tl_5, tl_6, tl_8, tl_10, tl_14, tl_20, tl_24, tl_30, tl_40, tl_50, tl_60, tl_70, tl_80, tl_100, tl_120, tl_140, tl_180, tl_220, tl_240, tl_260, tl_280, tl_300, tl_540, tl_780, tl_1020, tl_1180, tl_1190, tl_1200, tl_1220, tl_m1] at *
    have t0 : (0 : Int32).toInt = 0 := tl_0
    omega
theorem vc_FMO_statement_inv11_27 (S : hS) (x1 : Int32) (x2 : Int32) (x3 : Int32) (x4 : Int32) (x5 : Int32) (hJ : wfM S ∧ bt x5 40) (c2 : ¬ ((S.2 50 1) ≤ x5.toInt64)) (y24_4 : Int32) (y24_6 : Int32) (hq24 : LMO_statement_27 300 S x1 x2 x3 x4 x5 0 = .inr (y24_4, y24_6)) : wfM S ∧ bt (x5 + 1) 40 := ⟨hJ.1, (by
    have k0 := hJ.2
    have m0 := hJ.1.1
    have m1 := hJ.1.2.1
    have m3 := hJ.1.2.2.1
    have m4 := hJ.1.2.2.2.1
    have m6 := hJ.1.2.2.2.2.2.2.1
    simp only [rg, bt, lp, vp_rg, Int32.lt_iff_toInt_lt, Int32.le_iff_toInt_le, Int64.lt_iff_toInt_lt, Int64.le_iff_toInt_le, l32, sI_2, tq_0, tq_1, tq_2, tq_6, tq_8, tq_10, tq_20, tq_30, tq_40, tl_0, tl_1, tl_2, tl_3, tl_4, tl_5, tl_6, tl_8, tl_10, tl_14, tl_20, tl_24, tl_30, tl_40, tl_50, tl_60, tl_70, tl_80, tl_100, tl_120, tl_140, tl_180, tl_220, tl_240, tl_260, tl_280, tl_300, tl_540, tl_780, tl_1020, tl_1180, tl_1190, tl_1200, tl_1220, tl_m1] at *
    have t0 : (x5 + 1).toInt = ((x5).toInt + 1) := (ti_add (a := (x5)) (b := (1 : Int32)) rfl tl_1 (by omega) (by omega))
    omega)⟩
theorem vc_FMO_statement_mu11_28 (S : hS) (x1 : Int32) (x2 : Int32) (x3 : Int32) (x4 : Int32) (x5 : Int32) (hJ : wfM S ∧ bt x5 40) (c2 : ¬ ((S.2 50 1) ≤ x5.toInt64)) (y24_4 : Int32) (y24_6 : Int32) (hq24 : LMO_statement_27 300 S x1 x2 x3 x4 x5 0 = .inr (y24_4, y24_6)) : ((40 - (x5 + 1).toInt).toNat) < ((40 - x5.toInt).toNat) := by
    have k0 := hJ.2
    have m0 := hJ.1.1
    have m1 := hJ.1.2.1
    have m3 := hJ.1.2.2.1
    have m4 := hJ.1.2.2.2.1
    have m6 := hJ.1.2.2.2.2.2.2.1
    simp only [rg, bt, lp, vp_rg, Int32.lt_iff_toInt_lt, Int32.le_iff_toInt_le, Int64.lt_iff_toInt_lt, Int64.le_iff_toInt_le, l32, sI_2, tq_0, tq_1, tq_2, tq_6, tq_8, tq_10, tq_20, tq_30, tq_40, tl_0, tl_1, tl_2, tl_3, tl_4, tl_5, tl_6, tl_8, tl_10, tl_14, tl_20, tl_24, tl_30, tl_40, tl_50, tl_60, tl_70, tl_80, tl_100, tl_120, tl_140, tl_180, tl_220, tl_240, tl_260, tl_280, tl_300, tl_540, tl_780, tl_1020, tl_1180, tl_1190, tl_1200, tl_1220, tl_m1] at *
    have t0 : (x5 + 1).toInt = ((x5).toInt + 1) := (ti_add (a := (x5)) (b := (1 : Int32)) rfl tl_1 (by omega) (by omega))
    omega
theorem vc_FMO_statement_inv011_30 (S : hS) (x1 : Int32) (x2 : Int32) (x3 : Int32) (hp : wfM S) : wfM (sI S 49 4 0) ∧ bt (0 : Int32) 40 := ⟨(wfM_I hp), (by
    have m0 := hp.1
    have m1 := hp.2.1
    have m3 := hp.2.2.1
    have m4 := hp.2.2.2.1
    have m6 := hp.2.2.2.2.2.2.1
    simp only [rg, bt, lp, vp_rg, Int32.lt_iff_toInt_lt, Int32.le_iff_toInt_le, Int64.lt_iff_toInt_lt, Int64.le_iff_toInt_le, l32, sI_2, tq_0, tq_1, tq_2, tq_6, tq_8, tq_10, tq_20, tq_30, tq_40, tl_0, tl_1, tl_2, tl_3, tl_4, tl_5, tl_6, tl_8, tl_10, tl_14, tl_20, tl_24, tl_30, tl_40, tl_50, tl_60, tl_70, tl_80, tl_100, tl_120, tl_140, tl_180, tl_220, tl_240, tl_260, tl_280, tl_300, tl_540, tl_780, tl_1020, tl_1180, tl_1190, tl_1200, tl_1220, tl_m1] at *
    have t0 : (0 : Int32).toInt = 0 := tl_0
    omega)⟩
theorem vc_FMO_statement_mu011_31 (S : hS) (x1 : Int32) (x2 : Int32) (x3 : Int32) (hp : wfM S) : ((40 - (0 : Int32).toInt).toNat) < 300 := by
    have m0 := hp.1
    have m1 := hp.2.1
    have m3 := hp.2.2.1
    have m4 := hp.2.2.2.1
    have m6 := hp.2.2.2.2.2.2.1
    simp only [rg, bt, lp, vp_rg, Int32.lt_iff_toInt_lt, Int32.le_iff_toInt_le, Int64.lt_iff_toInt_lt, Int64.le_iff_toInt_le, l32, sI_2, tq_0, tq_1, tq_2, tq_6, tq_8, tq_10, tq_20, tq_30, tq_40, tl_0, tl_1, tl_2, tl_3, tl_4, tl_5, tl_6, tl_8, tl_10, tl_14, tl_20, tl_24, tl_30, tl_40, tl_50, tl_60, tl_70, tl_80, tl_100, tl_120, tl_140, tl_180, tl_220, tl_240, tl_260, tl_280, tl_300, tl_540, tl_780, tl_1020, tl_1180, tl_1190, tl_1200, tl_1220, tl_m1] at *
    have t0 : (0 : Int32).toInt = 0 := tl_0
    omega
theorem vc_FMO_tax_ix18_1 (S : hS) (x1 : Int32) (x2 : Int64) (x4 : Int32) (hJ : wfM S ∧ bt x4 40) : vp_in 1 1220 := by
    have k0 := hJ.2
    have m0 := hJ.1.1
    have m1 := hJ.1.2.1
    have m3 := hJ.1.2.2.1
    have m4 := hJ.1.2.2.2.1
    have m6 := hJ.1.2.2.2.2.2.2.1
    simp only [rg, bt, lp, vp_rg, Int32.lt_iff_toInt_lt, Int32.le_iff_toInt_le, Int64.lt_iff_toInt_lt, Int64.le_iff_toInt_le, l32, sI_2, tq_0, tq_1, tq_2, tq_6, tq_8, tq_10, tq_20, tq_30, tq_40, tl_0, tl_1, tl_2, tl_3, tl_4, tl_5, tl_6, tl_8, tl_10, tl_14, tl_20, tl_24, tl_30, tl_40, tl_50, tl_60, tl_70, tl_80, tl_100, tl_120, tl_140, tl_180, tl_220, tl_240, tl_260, tl_280, tl_300, tl_540, tl_780, tl_1020, tl_1180, tl_1190, tl_1200, tl_1220, tl_m1] at *
    have t0 : (1 : Int32).toInt = 1 := tl_1
    omega
theorem vc_FMO_tax_ix39_3 (S : hS) (x1 : Int32) (x2 : Int64) (x4 : Int32) (x5 : Int32) (hJ : wfM S ∧ bt x5 6 ∧ rg x4 40) : vp_in (260 + x4) 1220 := by
    have k0 := hJ.2.1
    have k1 := hJ.2.2
    have m0 := hJ.1.1
    have m1 := hJ.1.2.1
    have m3 := hJ.1.2.2.1
    have m4 := hJ.1.2.2.2.1
    have m6 := hJ.1.2.2.2.2.2.2.1
    simp only [rg, bt, lp, vp_rg, Int32.lt_iff_toInt_lt, Int32.le_iff_toInt_le, Int64.lt_iff_toInt_lt, Int64.le_iff_toInt_le, l32, sI_2, tq_0, tq_1, tq_2, tq_6, tq_8, tq_10, tq_20, tq_30, tq_40, tl_0, tl_1, tl_2, tl_3, tl_4, tl_5, tl_6, tl_8, tl_10, tl_14, tl_20, tl_24, tl_30, tl_40, tl_50, tl_60, tl_70, tl_80, tl_100, tl_120, tl_140, tl_180, tl_220, tl_240, tl_260, tl_280, tl_300, tl_540, tl_780, tl_1020, tl_1180, tl_1190, tl_1200, tl_1220, tl_m1] at *
    have t0 : (260 + x4).toInt = (260 + (x4).toInt) := (ti_add (a := (260 : Int32)) (b := (x4)) tl_260 rfl (by omega) (by omega))
    omega
theorem vc_FMO_tax_ix64_5 (S : hS) (x1 : Int32) (x2 : Int64) (x4 : Int32) (x5 : Int32) (hJ : wfM S ∧ bt x5 6 ∧ rg x4 40) (c4 : ¬ ((S.2 50 ((260 + x4).toNatClampNeg)) ≤ x5.toInt64)) : vp_in (140 + x4) 1220 := by
    have k0 := hJ.2.1
    have k1 := hJ.2.2
    have m0 := hJ.1.1
    have m1 := hJ.1.2.1
    have m3 := hJ.1.2.2.1
    have m4 := hJ.1.2.2.2.1
    have m6 := hJ.1.2.2.2.2.2.2.1
    simp only [rg, bt, lp, vp_rg, Int32.lt_iff_toInt_lt, Int32.le_iff_toInt_le, Int64.lt_iff_toInt_lt, Int64.le_iff_toInt_le, l32, sI_2, tq_0, tq_1, tq_2, tq_6, tq_8, tq_10, tq_20, tq_30, tq_40, tl_0, tl_1, tl_2, tl_3, tl_4, tl_5, tl_6, tl_8, tl_10, tl_14, tl_20, tl_24, tl_30, tl_40, tl_50, tl_60, tl_70, tl_80, tl_100, tl_120, tl_140, tl_180, tl_220, tl_240, tl_260, tl_280, tl_300, tl_540, tl_780, tl_1020, tl_1180, tl_1190, tl_1200, tl_1220, tl_m1] at *
    have k2 := wfM_r hJ.1 (x := x4) (by simp only [rg]; omega)
    have t0 : (140 + x4).toInt = (140 + (x4).toInt) := (ti_add (a := (140 : Int32)) (b := (x4)) tl_140 rfl (by omega) (by omega))
    omega
theorem vc_FMO_tax_inv26_7 (S : hS) (x1 : Int32) (x2 : Int64) (x4 : Int32) (x5 : Int32) (hJ : wfM S ∧ bt x5 6 ∧ rg x4 40) (c4 : ¬ ((S.2 50 ((260 + x4).toNatClampNeg)) ≤ x5.toInt64)) (c6 : (S.2 50 ((140 + x4).toNatClampNeg)) ≤ 0) : wfM S ∧ bt (x5 + 1) 6 ∧ rg x4 40 := ⟨hJ.1, (by
    have k0 := hJ.2.1
    have k1 := hJ.2.2
    have m0 := hJ.1.1
    have m1 := hJ.1.2.1
    have m3 := hJ.1.2.2.1
    have m4 := hJ.1.2.2.2.1
    have m6 := hJ.1.2.2.2.2.2.2.1
    simp only [rg, bt, lp, vp_rg, Int32.lt_iff_toInt_lt, Int32.le_iff_toInt_le, Int64.lt_iff_toInt_lt, Int64.le_iff_toInt_le, l32, sI_2, tq_0, tq_1, tq_2, tq_6, tq_8, tq_10, tq_20, tq_30, tq_40, tl_0, tl_1, tl_2, tl_3, tl_4, tl_5, tl_6, tl_8, tl_10, tl_14, tl_20, tl_24, tl_30, tl_40, tl_50, tl_60, tl_70, tl_80, tl_100, tl_120, tl_140, tl_180, tl_220, tl_240, tl_260, tl_280, tl_300, tl_540, tl_780, tl_1020, tl_1180, tl_1190, tl_1200, tl_1220, tl_m1] at *
    have k2 := wfM_r hJ.1 (x := x4) (by simp only [rg]; omega)
    have t0 : (x5 + 1).toInt = ((x5).toInt + 1) := (ti_add (a := (x5)) (b := (1 : Int32)) rfl tl_1 (by omega) (by omega))
    omega), hJ.2.2⟩
theorem vc_FMO_tax_mu26_8 (S : hS) (x1 : Int32) (x2 : Int64) (x4 : Int32) (x5 : Int32) (hJ : wfM S ∧ bt x5 6 ∧ rg x4 40) (c4 : ¬ ((S.2 50 ((260 + x4).toNatClampNeg)) ≤ x5.toInt64)) (c6 : (S.2 50 ((140 + x4).toNatClampNeg)) ≤ 0) : ((6 - (x5 + 1).toInt).toNat) < ((6 - x5.toInt).toNat) := by
    have k0 := hJ.2.1
    have k1 := hJ.2.2
    have m0 := hJ.1.1
    have m1 := hJ.1.2.1
    have m3 := hJ.1.2.2.1
    have m4 := hJ.1.2.2.2.1
    have m6 := hJ.1.2.2.2.2.2.2.1
    simp only [rg, bt, lp, vp_rg, Int32.lt_iff_toInt_lt, Int32.le_iff_toInt_le, Int64.lt_iff_toInt_lt, Int64.le_iff_toInt_le, l32, sI_2, tq_0, tq_1, tq_2, tq_6, tq_8, tq_10, tq_20, tq_30, tq_40, tl_0, tl_1, tl_2, tl_3, tl_4, tl_5, tl_6, tl_8, tl_10, tl_14, tl_20, tl_24, tl_30, tl_40, tl_50, tl_60, tl_70, tl_80, tl_100, tl_120, tl_140, tl_180, tl_220, tl_240, tl_260, tl_280, tl_300, tl_540, tl_780, tl_1020, tl_1180, tl_1190, tl_1200, tl_1220, tl_m1] at *
    have k2 := wfM_r hJ.1 (x := x4) (by simp only [rg]; omega)
    have t0 : (x5 + 1).toInt = ((x5).toInt + 1) := (ti_add (a := (x5)) (b := (1 : Int32)) rfl tl_1 (by omega) (by omega))
    omega
theorem vc_FMO_tax_ix79_9 (S : hS) (x1 : Int32) (x2 : Int64) (x4 : Int32) (x5 : Int32) (hJ : wfM S ∧ bt x5 6 ∧ rg x4 40) (c4 : ¬ ((S.2 50 ((260 + x4).toNatClampNeg)) ≤ x5.toInt64)) (c6 : ¬ ((S.2 50 ((140 + x4).toNatClampNeg)) ≤ 0)) : vp_in (100 + x4) 1220 := by
    have k0 := hJ.2.1
    have k1 := hJ.2.2
    have m0 := hJ.1.1
    have m1 := hJ.1.2.1
    have m3 := hJ.1.2.2.1
    have m4 := hJ.1.2.2.2.1
    have m6 := hJ.1.2.2.2.2.2.2.1
    simp only [rg, bt, lp, vp_rg, Int32.lt_iff_toInt_lt, Int32.le_iff_toInt_le, Int64.lt_iff_toInt_lt, Int64.le_iff_toInt_le, l32, sI_2, tq_0, tq_1, tq_2, tq_6, tq_8, tq_10, tq_20, tq_30, tq_40, tl_0, tl_1, tl_2, tl_3, tl_4, tl_5, tl_6, tl_8, tl_10, tl_14, tl_20, tl_24, tl_30, tl_40, tl_50, tl_60, tl_70, tl_80, tl_100, tl_120, tl_140, tl_180, tl_220, tl_240, tl_260, tl_280, tl_300, tl_540, tl_780, tl_1020, tl_1180, tl_1190, tl_1200, tl_1220, tl_m1] at *
    have k2 := wfM_r hJ.1 (x := x4) (by simp only [rg]; omega)
    have t0 : (100 + x4).toInt = (100 + (x4).toInt) := (ti_add (a := (100 : Int32)) (b := (x4)) tl_100 rfl (by omega) (by omega))
    omega
theorem vc_FMO_tax_inv26_11 (S : hS) (x1 : Int32) (x2 : Int64) (x4 : Int32) (x5 : Int32) (hJ : wfM S ∧ bt x5 6 ∧ rg x4 40) (c4 : ¬ ((S.2 50 ((260 + x4).toNatClampNeg)) ≤ x5.toInt64)) (c6 : ¬ ((S.2 50 ((140 + x4).toNatClampNeg)) ≤ 0)) (c10 : ¬ (((S.2 50 ((100 + x4).toNatClampNeg)) / 30) = x1.toInt64)) : wfM S ∧ bt (x5 + 1) 6 ∧ rg x4 40 := ⟨hJ.1, (by
    have k0 := hJ.2.1
    have k1 := hJ.2.2
    have m0 := hJ.1.1
    have m1 := hJ.1.2.1
    have m3 := hJ.1.2.2.1
    have m4 := hJ.1.2.2.2.1
    have m6 := hJ.1.2.2.2.2.2.2.1
    simp only [rg, bt, lp, vp_rg, Int32.lt_iff_toInt_lt, Int32.le_iff_toInt_le, Int64.lt_iff_toInt_lt, Int64.le_iff_toInt_le, l32, sI_2, tq_0, tq_1, tq_2, tq_6, tq_8, tq_10, tq_20, tq_30, tq_40, tl_0, tl_1, tl_2, tl_3, tl_4, tl_5, tl_6, tl_8, tl_10, tl_14, tl_20, tl_24, tl_30, tl_40, tl_50, tl_60, tl_70, tl_80, tl_100, tl_120, tl_140, tl_180, tl_220, tl_240, tl_260, tl_280, tl_300, tl_540, tl_780, tl_1020, tl_1180, tl_1190, tl_1200, tl_1220, tl_m1] at *
    have k2 := wfM_r hJ.1 (x := x4) (by simp only [rg]; omega)
    have t0 : (x5 + 1).toInt = ((x5).toInt + 1) := (ti_add (a := (x5)) (b := (1 : Int32)) rfl tl_1 (by omega) (by omega))
    omega), hJ.2.2⟩
theorem vc_FMO_tax_mu26_12 (S : hS) (x1 : Int32) (x2 : Int64) (x4 : Int32) (x5 : Int32) (hJ : wfM S ∧ bt x5 6 ∧ rg x4 40) (c4 : ¬ ((S.2 50 ((260 + x4).toNatClampNeg)) ≤ x5.toInt64)) (c6 : ¬ ((S.2 50 ((140 + x4).toNatClampNeg)) ≤ 0)) (c10 : ¬ (((S.2 50 ((100 + x4).toNatClampNeg)) / 30) = x1.toInt64)) : ((6 - (x5 + 1).toInt).toNat) < ((6 - x5.toInt).toNat) := by
    have k0 := hJ.2.1
    have k1 := hJ.2.2
    have m0 := hJ.1.1
    have m1 := hJ.1.2.1
    have m3 := hJ.1.2.2.1
    have m4 := hJ.1.2.2.2.1
    have m6 := hJ.1.2.2.2.2.2.2.1
    simp only [rg, bt, lp, vp_rg, Int32.lt_iff_toInt_lt, Int32.le_iff_toInt_le, Int64.lt_iff_toInt_lt, Int64.le_iff_toInt_le, l32, sI_2, tq_0, tq_1, tq_2, tq_6, tq_8, tq_10, tq_20, tq_30, tq_40, tl_0, tl_1, tl_2, tl_3, tl_4, tl_5, tl_6, tl_8, tl_10, tl_14, tl_20, tl_24, tl_30, tl_40, tl_50, tl_60, tl_70, tl_80, tl_100, tl_120, tl_140, tl_180, tl_220, tl_240, tl_260, tl_280, tl_300, tl_540, tl_780, tl_1020, tl_1180, tl_1190, tl_1200, tl_1220, tl_m1] at *
    have k2 := wfM_r hJ.1 (x := x4) (by simp only [rg]; omega)
    have t0 : (x5 + 1).toInt = ((x5).toInt + 1) := (ti_add (a := (x5)) (b := (1 : Int32)) rfl tl_1 (by omega) (by omega))
    omega
theorem vc_FMO_tax_ix106_13 (S : hS) (x1 : Int32) (x2 : Int64) (x4 : Int32) (x5 : Int32) (hJ : wfM S ∧ bt x5 6 ∧ rg x4 40) (c4 : ¬ ((S.2 50 ((260 + x4).toNatClampNeg)) ≤ x5.toInt64)) (c6 : ¬ ((S.2 50 ((140 + x4).toNatClampNeg)) ≤ 0)) (c10 : ((S.2 50 ((100 + x4).toNatClampNeg)) / 30) = x1.toInt64) : vp_in (300 + ((6 * x4) + x5)) 1220 := by
    have k0 := hJ.2.1
    have k1 := hJ.2.2
    have m0 := hJ.1.1
    have m1 := hJ.1.2.1
    have m3 := hJ.1.2.2.1
    have m4 := hJ.1.2.2.2.1
    have m6 := hJ.1.2.2.2.2.2.2.1
    simp only [rg, bt, lp, vp_rg, Int32.lt_iff_toInt_lt, Int32.le_iff_toInt_le, Int64.lt_iff_toInt_lt, Int64.le_iff_toInt_le, l32, sI_2, tq_0, tq_1, tq_2, tq_6, tq_8, tq_10, tq_20, tq_30, tq_40, tl_0, tl_1, tl_2, tl_3, tl_4, tl_5, tl_6, tl_8, tl_10, tl_14, tl_20, tl_24, tl_30, tl_40, tl_50, tl_60, tl_70, tl_80, tl_100, tl_120, tl_140, tl_180, tl_220, tl_240, tl_260, tl_280, tl_300, tl_540, tl_780, tl_1020, tl_1180, tl_1190, tl_1200, tl_1220, tl_m1] at *
    have k2 := wfM_r hJ.1 (x := x4) (by simp only [rg]; omega)
    have t0 : (300 + ((6 * x4) + x5)).toInt = (300 + ((6 * (x4).toInt) + (x5).toInt)) := (ti_add (a := (300 : Int32)) (b := ((6 * x4) + x5)) tl_300 (ti_add (a := (6 * x4)) (b := (x5)) (ti_mul (a := (6 : Int32)) (b := (x4)) tl_6 rfl (by omega) (by omega)) rfl (by omega) (by omega)) (by omega) (by omega))
    omega
theorem vc_FMO_tax_ix109_14 (S : hS) (x1 : Int32) (x2 : Int64) (x4 : Int32) (x5 : Int32) (hJ : wfM S ∧ bt x5 6 ∧ rg x4 40) (c4 : ¬ ((S.2 50 ((260 + x4).toNatClampNeg)) ≤ x5.toInt64)) (c6 : ¬ ((S.2 50 ((140 + x4).toNatClampNeg)) ≤ 0)) (c10 : ((S.2 50 ((100 + x4).toNatClampNeg)) / 30) = x1.toInt64) : vp_in (10 + ((S.2 50 ((300 + ((6 * x4) + x5)).toNatClampNeg)).toInt32)) 1220 := by
    have k0 := hJ.2.1
    have k1 := hJ.2.2
    have m0 := hJ.1.1
    have m1 := hJ.1.2.1
    have m3 := hJ.1.2.2.1
    have m4 := hJ.1.2.2.2.1
    have m6 := hJ.1.2.2.2.2.2.2.1
    simp only [rg, bt, lp, vp_rg, Int32.lt_iff_toInt_lt, Int32.le_iff_toInt_le, Int64.lt_iff_toInt_lt, Int64.le_iff_toInt_le, l32, sI_2, tq_0, tq_1, tq_2, tq_6, tq_8, tq_10, tq_20, tq_30, tq_40, tl_0, tl_1, tl_2, tl_3, tl_4, tl_5, tl_6, tl_8, tl_10, tl_14, tl_20, tl_24, tl_30, tl_40, tl_50, tl_60, tl_70, tl_80, tl_100, tl_120, tl_140, tl_180, tl_220, tl_240, tl_260, tl_280, tl_300, tl_540, tl_780, tl_1020, tl_1180, tl_1190, tl_1200, tl_1220, tl_m1] at *
    have k2 := wfM_r hJ.1 (x := x4) (by simp only [rg]; omega)
    have k3 : ((6 * x4) + x5).toInt = ((6 * (x4).toInt) + (x5).toInt) := (ti_add (a := (6 * x4)) (b := (x5)) (ti_mul (a := (6 : Int32)) (b := (x4)) tl_6 rfl (by omega) (by omega)) rfl (by omega) (by omega))
    have k4 := wfM_a hJ.1 (x := ((6 * x4) + x5)) (by simp only [rg]; omega)
    have t0 : (10 + ((S.2 50 ((300 + ((6 * x4) + x5)).toNatClampNeg)).toInt32)).toInt = (10 + (S.2 50 ((300 + ((6 * x4) + x5)).toNatClampNeg)).toInt) := (ti_add (a := (10 : Int32)) (b := ((S.2 50 ((300 + ((6 * x4) + x5)).toNatClampNeg)).toInt32)) tl_10 (ti_32 (a := (S.2 50 ((300 + ((6 * x4) + x5)).toNatClampNeg))) rfl (by omega) (by omega)) (by omega) (by omega))
    omega
theorem vc_FMO_tax_inv26_16 (S : hS) (x1 : Int32) (x2 : Int64) (x4 : Int32) (x5 : Int32) (hJ : wfM S ∧ bt x5 6 ∧ rg x4 40) (c4 : ¬ ((S.2 50 ((260 + x4).toNatClampNeg)) ≤ x5.toInt64)) (c6 : ¬ ((S.2 50 ((140 + x4).toNatClampNeg)) ≤ 0)) (c10 : ((S.2 50 ((100 + x4).toNatClampNeg)) / 30) = x1.toInt64) (c15 : ¬ ((S.2 50 ((10 + ((S.2 50 ((300 + ((6 * x4) + x5)).toNatClampNeg)).toInt32)).toNatClampNeg)) = 2)) : wfM S ∧ bt (x5 + 1) 6 ∧ rg x4 40 := ⟨hJ.1, (by
    have k0 := hJ.2.1
    have k1 := hJ.2.2
    have m0 := hJ.1.1
    have m1 := hJ.1.2.1
    have m3 := hJ.1.2.2.1
    have m4 := hJ.1.2.2.2.1
    have m6 := hJ.1.2.2.2.2.2.2.1
    have k2 := ne64 c15
    simp only [rg, bt, lp, vp_rg, Int32.lt_iff_toInt_lt, Int32.le_iff_toInt_le, Int64.lt_iff_toInt_lt, Int64.le_iff_toInt_le, l32, sI_2, tq_0, tq_1, tq_2, tq_6, tq_8, tq_10, tq_20, tq_30, tq_40, tl_0, tl_1, tl_2, tl_3, tl_4, tl_5, tl_6, tl_8, tl_10, tl_14, tl_20, tl_24, tl_30, tl_40, tl_50, tl_60, tl_70, tl_80, tl_100, tl_120, tl_140, tl_180, tl_220, tl_240, tl_260, tl_280, tl_300, tl_540, tl_780, tl_1020, tl_1180, tl_1190, tl_1200, tl_1220, tl_m1] at *
    have k3 := wfM_r hJ.1 (x := x4) (by simp only [rg]; omega)
    have t0 : (x5 + 1).toInt = ((x5).toInt + 1) := (ti_add (a := (x5)) (b := (1 : Int32)) rfl tl_1 (by omega) (by omega))
    omega), hJ.2.2⟩
theorem vc_FMO_tax_mu26_17 (S : hS) (x1 : Int32) (x2 : Int64) (x4 : Int32) (x5 : Int32) (hJ : wfM S ∧ bt x5 6 ∧ rg x4 40) (c4 : ¬ ((S.2 50 ((260 + x4).toNatClampNeg)) ≤ x5.toInt64)) (c6 : ¬ ((S.2 50 ((140 + x4).toNatClampNeg)) ≤ 0)) (c10 : ((S.2 50 ((100 + x4).toNatClampNeg)) / 30) = x1.toInt64) (c15 : ¬ ((S.2 50 ((10 + ((S.2 50 ((300 + ((6 * x4) + x5)).toNatClampNeg)).toInt32)).toNatClampNeg)) = 2)) : ((6 - (x5 + 1).toInt).toNat) < ((6 - x5.toInt).toNat) := by
    have k0 := hJ.2.1
    have k1 := hJ.2.2
    have m0 := hJ.1.1
    have m1 := hJ.1.2.1
    have m3 := hJ.1.2.2.1
    have m4 := hJ.1.2.2.2.1
    have m6 := hJ.1.2.2.2.2.2.2.1
    have k2 := ne64 c15
    simp only [rg, bt, lp, vp_rg, Int32.lt_iff_toInt_lt, Int32.le_iff_toInt_le, Int64.lt_iff_toInt_lt, Int64.le_iff_toInt_le, l32, sI_2, tq_0, tq_1, tq_2, tq_6, tq_8, tq_10, tq_20, tq_30, tq_40, tl_0, tl_1, tl_2, tl_3, tl_4, tl_5, tl_6, tl_8, tl_10, tl_14, tl_20, tl_24, tl_30, tl_40, tl_50, tl_60, tl_70, tl_80, tl_100, tl_120, tl_140, tl_180, tl_220, tl_240, tl_260, tl_280, tl_300, tl_540, tl_780, tl_1020, tl_1180, tl_1190, tl_1200, tl_1220, tl_m1] at *
    have k3 := wfM_r hJ.1 (x := x4) (by simp only [rg]; omega)
    have t0 : (x5 + 1).toInt = ((x5).toInt + 1) := (ti_add (a := (x5)) (b := (1 : Int32)) rfl tl_1 (by omega) (by omega))
    omega
theorem vc_FMO_tax_ix140_18 (S : hS) (x1 : Int32) (x2 : Int64) (x4 : Int32) (x5 : Int32) (hJ : wfM S ∧ bt x5 6 ∧ rg x4 40) (c4 : ¬ ((S.2 50 ((260 + x4).toNatClampNeg)) ≤ x5.toInt64)) (c6 : ¬ ((S.2 50 ((140 + x4).toNatClampNeg)) ≤ 0)) (c10 : ((S.2 50 ((100 + x4).toNatClampNeg)) / 30) = x1.toInt64) (c15 : (S.2 50 ((10 + ((S.2 50 ((300 + ((6 * x4) + x5)).toNatClampNeg)).toInt32)).toNatClampNeg)) = 2) : vp_in (540 + ((6 * x4) + x5)) 1220 := by
    have k0 := hJ.2.1
    have k1 := hJ.2.2
    have m0 := hJ.1.1
    have m1 := hJ.1.2.1
    have m3 := hJ.1.2.2.1
    have m4 := hJ.1.2.2.2.1
    have m6 := hJ.1.2.2.2.2.2.2.1
    simp only [rg, bt, lp, vp_rg, Int32.lt_iff_toInt_lt, Int32.le_iff_toInt_le, Int64.lt_iff_toInt_lt, Int64.le_iff_toInt_le, l32, sI_2, tq_0, tq_1, tq_2, tq_6, tq_8, tq_10, tq_20, tq_30, tq_40, tl_0, tl_1, tl_2, tl_3, tl_4, tl_5, tl_6, tl_8, tl_10, tl_14, tl_20, tl_24, tl_30, tl_40, tl_50, tl_60, tl_70, tl_80, tl_100, tl_120, tl_140, tl_180, tl_220, tl_240, tl_260, tl_280, tl_300, tl_540, tl_780, tl_1020, tl_1180, tl_1190, tl_1200, tl_1220, tl_m1] at *
    have k2 := wfM_r hJ.1 (x := x4) (by simp only [rg]; omega)
    have t0 : (540 + ((6 * x4) + x5)).toInt = (540 + ((6 * (x4).toInt) + (x5).toInt)) := (ti_add (a := (540 : Int32)) (b := ((6 * x4) + x5)) tl_540 (ti_add (a := (6 * x4)) (b := (x5)) (ti_mul (a := (6 : Int32)) (b := (x4)) tl_6 rfl (by omega) (by omega)) rfl (by omega) (by omega)) (by omega) (by omega))
    omega
theorem vc_FMO_tax_inv26_19 (S : hS) (x1 : Int32) (x2 : Int64) (x4 : Int32) (x5 : Int32) (hJ : wfM S ∧ bt x5 6 ∧ rg x4 40) (c4 : ¬ ((S.2 50 ((260 + x4).toNatClampNeg)) ≤ x5.toInt64)) (c6 : ¬ ((S.2 50 ((140 + x4).toNatClampNeg)) ≤ 0)) (c10 : ((S.2 50 ((100 + x4).toNatClampNeg)) / 30) = x1.toInt64) (c15 : (S.2 50 ((10 + ((S.2 50 ((300 + ((6 * x4) + x5)).toNatClampNeg)).toInt32)).toNatClampNeg)) = 2) : wfM S ∧ bt (x5 + 1) 6 ∧ rg x4 40 := ⟨hJ.1, (by
    have k0 := hJ.2.1
    have k1 := hJ.2.2
    have m0 := hJ.1.1
    have m1 := hJ.1.2.1
    have m3 := hJ.1.2.2.1
    have m4 := hJ.1.2.2.2.1
    have m6 := hJ.1.2.2.2.2.2.2.1
    simp only [rg, bt, lp, vp_rg, Int32.lt_iff_toInt_lt, Int32.le_iff_toInt_le, Int64.lt_iff_toInt_lt, Int64.le_iff_toInt_le, l32, sI_2, tq_0, tq_1, tq_2, tq_6, tq_8, tq_10, tq_20, tq_30, tq_40, tl_0, tl_1, tl_2, tl_3, tl_4, tl_5, tl_6, tl_8, tl_10, tl_14, tl_20, tl_24, tl_30, tl_40, tl_50, tl_60, tl_70, tl_80, tl_100, tl_120, tl_140, tl_180, tl_220, tl_240, tl_260, tl_280, tl_300, tl_540, tl_780, tl_1020, tl_1180, tl_1190, tl_1200, tl_1220, tl_m1] at *
    have k2 := wfM_r hJ.1 (x := x4) (by simp only [rg]; omega)
    have t0 : (x5 + 1).toInt = ((x5).toInt + 1) := (ti_add (a := (x5)) (b := (1 : Int32)) rfl tl_1 (by omega) (by omega))
    omega), hJ.2.2⟩
theorem vc_FMO_tax_mu26_20 (S : hS) (x1 : Int32) (x2 : Int64) (x4 : Int32) (x5 : Int32) (hJ : wfM S ∧ bt x5 6 ∧ rg x4 40) (c4 : ¬ ((S.2 50 ((260 + x4).toNatClampNeg)) ≤ x5.toInt64)) (c6 : ¬ ((S.2 50 ((140 + x4).toNatClampNeg)) ≤ 0)) (c10 : ((S.2 50 ((100 + x4).toNatClampNeg)) / 30) = x1.toInt64) (c15 : (S.2 50 ((10 + ((S.2 50 ((300 + ((6 * x4) + x5)).toNatClampNeg)).toInt32)).toNatClampNeg)) = 2) : ((6 - (x5 + 1).toInt).toNat) < ((6 - x5.toInt).toNat) := by
    have k0 := hJ.2.1
    have k1 := hJ.2.2
    have m0 := hJ.1.1
    have m1 := hJ.1.2.1
    have m3 := hJ.1.2.2.1
    have m4 := hJ.1.2.2.2.1
    have m6 := hJ.1.2.2.2.2.2.2.1
    simp only [rg, bt, lp, vp_rg, Int32.lt_iff_toInt_lt, Int32.le_iff_toInt_le, Int64.lt_iff_toInt_lt, Int64.le_iff_toInt_le, l32, sI_2, tq_0, tq_1, tq_2, tq_6, tq_8, tq_10, tq_20, tq_30, tq_40, tl_0, tl_1, tl_2, tl_3, tl_4, tl_5, tl_6, tl_8, tl_10, tl_14, tl_20, tl_24, tl_30, tl_40, tl_50, tl_60, tl_70, tl_80, tl_100, tl_120, tl_140, tl_180, tl_220, tl_240, tl_260, tl_280, tl_300, tl_540, tl_780, tl_1020, tl_1180, tl_1190, tl_1200, tl_1220, tl_m1] at *
    have k2 := wfM_r hJ.1 (x := x4) (by simp only [rg]; omega)
    have t0 : (x5 + 1).toInt = ((x5).toInt + 1) := (ti_add (a := (x5)) (b := (1 : Int32)) rfl tl_1 (by omega) (by omega))
    omega
theorem vc_FMO_tax_inv026_22 (S : hS) (x1 : Int32) (x2 : Int64) (x4 : Int32) (hJ : wfM S ∧ bt x4 40) (c2 : ¬ ((S.2 50 1) ≤ x4.toInt64)) : wfM S ∧ bt (0 : Int32) 6 ∧ rg x4 40 := ⟨hJ.1, (by
    have k0 := hJ.2
    have m0 := hJ.1.1
    have m1 := hJ.1.2.1
    have m3 := hJ.1.2.2.1
    have m4 := hJ.1.2.2.2.1
    have m6 := hJ.1.2.2.2.2.2.2.1
    simp only [rg, bt, lp, vp_rg, Int32.lt_iff_toInt_lt, Int32.le_iff_toInt_le, Int64.lt_iff_toInt_lt, Int64.le_iff_toInt_le, l32, sI_2, tq_0, tq_1, tq_2, tq_6, tq_8, tq_10, tq_20, tq_30, tq_40, tl_0, tl_1, tl_2, tl_3, tl_4, tl_5, tl_6, tl_8, tl_10, tl_14, tl_20, tl_24, tl_30, tl_40, tl_50, tl_60, tl_70, tl_80, tl_100, tl_120, tl_140, tl_180, tl_220, tl_240, tl_260, tl_280, tl_300, tl_540, tl_780, tl_1020, tl_1180, tl_1190, tl_1200, tl_1220, tl_m1] at *
    have t0 : (0 : Int32).toInt = 0 := tl_0
    omega), (by
    have k0 := hJ.2
    have m0 := hJ.1.1
    have m1 := hJ.1.2.1
    have m3 := hJ.1.2.2.1
    have m4 := hJ.1.2.2.2.1
    have m6 := hJ.1.2.2.2.2.2.2.1
    simp only [rg, bt, lp, vp_rg, Int32.lt_iff_toInt_lt, Int32.le_iff_toInt_le, Int64.lt_iff_toInt_lt, Int64.le_iff_toInt_le, l32, sI_2, tq_0, tq_1, tq_2, tq_6, tq_8, tq_10, tq_20, tq_30, tq_40, tl_0, tl_1, tl_2, tl_3, tl_4, tl_5, tl_6, tl_8, tl_10, tl_14, tl_20, tl_24, tl_30, tl_40, tl_50, tl_60, tl_70, tl_80, tl_100, tl_120, tl_140, tl_180, tl_220, tl_240, tl_260, tl_280, tl_300, tl_540, tl_780, tl_1020, tl_1180, tl_1190, tl_1200, tl_1220, tl_m1] at *
    omega)⟩
theorem vc_FMO_tax_mu026_23 (S : hS) (x1 : Int32) (x2 : Int64) (x4 : Int32) (hJ : wfM S ∧ bt x4 40) (c2 : ¬ ((S.2 50 1) ≤ x4.toInt64)) : ((6 - (0 : Int32).toInt).toNat) < 300 := by
    have k0 := hJ.2
    have m0 := hJ.1.1
    have m1 := hJ.1.2.1
    have m3 := hJ.1.2.2.1
    have m4 := hJ.1.2.2.2.1
    have m6 := hJ.1.2.2.2.2.2.2.1
    simp only [rg, bt, lp, vp_rg, Int32.lt_iff_toInt_lt, Int32.le_iff_toInt_le, Int64.lt_iff_toInt_lt, Int64.le_iff_toInt_le, l32, sI_2, tq_0, tq_1, tq_2, tq_6, tq_8, tq_10, tq_20, tq_30, tq_40, tl_0, tl_1, tl_2, tl_3, tl_4, tl_5, tl_6, tl_8, tl_10, tl_14, tl_20, tl_24, tl_30, tl_40, tl_50, tl_60, tl_70, tl_80, tl_100, tl_120, tl_140, tl_180, tl_220, tl_240, tl_260, tl_280, tl_300, tl_540, tl_780, tl_1020, tl_1180, tl_1190, tl_1200, tl_1220, tl_m1] at *
    have t0 : (0 : Int32).toInt = 0 := tl_0
    omega
theorem vc_FMO_tax_inv10_24 (S : hS) (x1 : Int32) (x2 : Int64) (x4 : Int32) (hJ : wfM S ∧ bt x4 40) (c2 : ¬ ((S.2 50 1) ≤ x4.toInt64)) (y21_2 : Int64) (y21_5 : Int32) (hq21 : LMO_tax_26 300 S x1 x2 x4 0 = (y21_2, y21_5)) : wfM S ∧ bt (x4 + 1) 40 := ⟨hJ.1, (by
    have k0 := hJ.2
    have m0 := hJ.1.1
    have m1 := hJ.1.2.1
    have m3 := hJ.1.2.2.1
    have m4 := hJ.1.2.2.2.1
    have m6 := hJ.1.2.2.2.2.2.2.1
    simp only [rg, bt, lp, vp_rg, Int32.lt_iff_toInt_lt, Int32.le_iff_toInt_le, Int64.lt_iff_toInt_lt, Int64.le_iff_toInt_le, l32, sI_2, tq_0, tq_1, tq_2, tq_6, tq_8, tq_10, tq_20, tq_30, tq_40, tl_0, tl_1, tl_2, tl_3, tl_4, tl_5, tl_6, tl_8, tl_10, tl_14, tl_20, tl_24, tl_30, tl_40, tl_50, tl_60, tl_70, tl_80, tl_100, tl_120, tl_140, tl_180, tl_220, tl_240, tl_260, tl_280, tl_300, tl_540, tl_780, tl_1020, tl_1180, tl_1190, tl_1200, tl_1220, tl_m1] at *
    have t0 : (x4 + 1).toInt = ((x4).toInt + 1) := (ti_add (a := (x4)) (b := (1 : Int32)) rfl tl_1 (by omega) (by omega))
    omega)⟩
theorem vc_FMO_tax_mu10_25 (S : hS) (x1 : Int32) (x2 : Int64) (x4 : Int32) (hJ : wfM S ∧ bt x4 40) (c2 : ¬ ((S.2 50 1) ≤ x4.toInt64)) (y21_2 : Int64) (y21_5 : Int32) (hq21 : LMO_tax_26 300 S x1 x2 x4 0 = (y21_2, y21_5)) : ((40 - (x4 + 1).toInt).toNat) < ((40 - x4.toInt).toNat) := by
    have k0 := hJ.2
    have m0 := hJ.1.1
    have m1 := hJ.1.2.1
    have m3 := hJ.1.2.2.1
    have m4 := hJ.1.2.2.2.1
    have m6 := hJ.1.2.2.2.2.2.2.1
    simp only [rg, bt, lp, vp_rg, Int32.lt_iff_toInt_lt, Int32.le_iff_toInt_le, Int64.lt_iff_toInt_lt, Int64.le_iff_toInt_le, l32, sI_2, tq_0, tq_1, tq_2, tq_6, tq_8, tq_10, tq_20, tq_30, tq_40, tl_0, tl_1, tl_2, tl_3, tl_4, tl_5, tl_6, tl_8, tl_10, tl_14, tl_20, tl_24, tl_30, tl_40, tl_50, tl_60, tl_70, tl_80, tl_100, tl_120, tl_140, tl_180, tl_220, tl_240, tl_260, tl_280, tl_300, tl_540, tl_780, tl_1020, tl_1180, tl_1190, tl_1200, tl_1220, tl_m1] at *
    have t0 : (x4 + 1).toInt = ((x4).toInt + 1) := (ti_add (a := (x4)) (b := (1 : Int32)) rfl tl_1 (by omega) (by omega))
    omega
theorem vc_FMO_tax_inv010_27 (S : hS) (x1 : Int32) (hp : wfM S) : wfM (sI S 49 4 0) ∧ bt (0 : Int32) 40 := ⟨(wfM_I hp), (by
    have m0 := hp.1
    have m1 := hp.2.1
    have m3 := hp.2.2.1
    have m4 := hp.2.2.2.1
    have m6 := hp.2.2.2.2.2.2.1
    simp only [rg, bt, lp, vp_rg, Int32.lt_iff_toInt_lt, Int32.le_iff_toInt_le, Int64.lt_iff_toInt_lt, Int64.le_iff_toInt_le, l32, sI_2, tq_0, tq_1, tq_2, tq_6, tq_8, tq_10, tq_20, tq_30, tq_40, tl_0, tl_1, tl_2, tl_3, tl_4, tl_5, tl_6, tl_8, tl_10, tl_14, tl_20, tl_24, tl_30, tl_40, tl_50, tl_60, tl_70, tl_80, tl_100, tl_120, tl_140, tl_180, tl_220, tl_240, tl_260, tl_280, tl_300, tl_540, tl_780, tl_1020, tl_1180, tl_1190, tl_1200, tl_1220, tl_m1] at *
    have t0 : (0 : Int32).toInt = 0 := tl_0
    omega)⟩
theorem vc_FMO_tax_mu010_28 (S : hS) (x1 : Int32) (hp : wfM S) : ((40 - (0 : Int32).toInt).toNat) < 300 := by
    have m0 := hp.1
    have m1 := hp.2.1
    have m3 := hp.2.2.1
    have m4 := hp.2.2.2.1
    have m6 := hp.2.2.2.2.2.2.1
    simp only [rg, bt, lp, vp_rg, Int32.lt_iff_toInt_lt, Int32.le_iff_toInt_le, Int64.lt_iff_toInt_lt, Int64.le_iff_toInt_le, l32, sI_2, tq_0, tq_1, tq_2, tq_6, tq_8, tq_10, tq_20, tq_30, tq_40, tl_0, tl_1, tl_2, tl_3, tl_4, tl_5, tl_6, tl_8, tl_10, tl_14, tl_20, tl_24, tl_30, tl_40, tl_50, tl_60, tl_70, tl_80, tl_100, tl_120, tl_140, tl_180, tl_220, tl_240, tl_260, tl_280, tl_300, tl_540, tl_780, tl_1020, tl_1180, tl_1190, tl_1200, tl_1220, tl_m1] at *
    have t0 : (0 : Int32).toInt = 0 := tl_0
    omega
theorem vc_FMO_found_ix16_2 (S : hS) (x1 : Int32) (hp : wfM S) (c1 : ¬ (x1 < 0)) : vp_in 4 1220 := by
    have m0 := hp.1
    have m1 := hp.2.1
    have m3 := hp.2.2.1
    have m4 := hp.2.2.2.1
    have m6 := hp.2.2.2.2.2.2.1
    simp only [rg, bt, lp, vp_rg, Int32.lt_iff_toInt_lt, Int32.le_iff_toInt_le, Int64.lt_iff_toInt_lt, Int64.le_iff_toInt_le, l32, sI_2, tq_0, tq_1, tq_2, tq_6, tq_8, tq_10, tq_20, tq_30, tq_40, tl_0, tl_1, tl_2, tl_3, tl_4, tl_5, tl_6, tl_8, tl_10, tl_14, tl_20, tl_24, tl_30, tl_40, tl_50, tl_60, tl_70, tl_80, tl_100, tl_120, tl_140, tl_180, tl_220, tl_240, tl_260, tl_280, tl_300, tl_540, tl_780, tl_1020, tl_1180, tl_1190, tl_1200, tl_1220, tl_m1] at *
    have t0 : (4 : Int32).toInt = 4 := tl_4
    omega
theorem vc_FMO_found_ix30_4 (S : hS) (x1 : Int32) (hp : wfM S) (c1 : ¬ (x1 < 0)) (c3 : ¬ ((S.2 50 4) ≤ x1.toInt64)) : vp_in (1200 + x1) 1220 := by
    have m0 := hp.1
    have m1 := hp.2.1
    have m3 := hp.2.2.1
    have m4 := hp.2.2.2.1
    have m6 := hp.2.2.2.2.2.2.1
    simp only [rg, bt, lp, vp_rg, Int32.lt_iff_toInt_lt, Int32.le_iff_toInt_le, Int64.lt_iff_toInt_lt, Int64.le_iff_toInt_le, l32, sI_2, tq_0, tq_1, tq_2, tq_6, tq_8, tq_10, tq_20, tq_30, tq_40, tl_0, tl_1, tl_2, tl_3, tl_4, tl_5, tl_6, tl_8, tl_10, tl_14, tl_20, tl_24, tl_30, tl_40, tl_50, tl_60, tl_70, tl_80, tl_100, tl_120, tl_140, tl_180, tl_220, tl_240, tl_260, tl_280, tl_300, tl_540, tl_780, tl_1020, tl_1180, tl_1190, tl_1200, tl_1220, tl_m1] at *
    have t0 : (1200 + x1).toInt = (1200 + (x1).toInt) := (ti_add (a := (1200 : Int32)) (b := (x1)) tl_1200 rfl (by omega) (by omega))
    omega
