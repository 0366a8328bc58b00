theorem vc_FMO_balance_inv27_22 (S : hS) (x1 : Int32) (x2 : Int64) (x4 : Int64) (x6 : Int32) (x7 : Int32) (hJ : wfM S ∧ bt x7 6 ∧ rg x6 40) (c4 : ¬ ((S.2 50 ((260 + x6).toNatClampNeg)) ≤ x7.toInt64)) (c6 : ¬ ((FMO_isAccount S x1) = 0)) (c10 : ¬ ((S.2 50 ((140 + x6).toNatClampNeg)) ≤ 0)) (c14 : ¬ (x2 < (S.2 50 ((100 + x6).toNatClampNeg)))) (c18 : (S.2 50 ((300 + ((6 * x6) + x7)).toNatClampNeg)) = x1.toInt64) : wfM S ∧ bt (x7 + 1) 6 ∧ rg x6 40 := ⟨hJ.1, (by
    have k0 := hJ.2.1
    have k1 := hJ.2.2
    have m0 := hJ.1.1
    have m1 := hJ.1.2.1
    have m3 := hJ.1.2.2.1
    have m4 := hJ.1.2.2.2.1
    have m6 := hJ.1.2.2.2.2.2.2.1
    have k2 := acM hJ.1 c6
    simp only [rg, bt, lp, vp_rg, Int32.lt_iff_toInt_lt, Int32.le_iff_toInt_le, Int64.lt_iff_toInt_lt, Int64.le_iff_toInt_le, l32, sI_2, tq_0, tq_1, tq_2, tq_6, tq_8, tq_10, tq_20, tq_30, tq_40, tl_0, tl_1, tl_2, tl_3, tl_4, tl_5, tl_6, tl_8, tl_10, tl_14, tl_20, tl_24, tl_30, tl_40, tl_50, tl_60, tl_70, tl_80, tl_100, tl_120, tl_140, tl_180, tl_220, tl_240, tl_260, tl_280, tl_300, tl_540, tl_780, tl_1020, tl_1180, tl_1190, tl_1200, tl_1220, tl_m1] at *
    have k3 := wfM_r hJ.1 (x := x6) (by simp only [rg]; omega)
    have t0 : (x7 + 1).toInt = ((x7).toInt + 1) := (ti_add (a := (x7)) (b := (1 : Int32)) rfl tl_1 (by omega) (by omega))
    omega), hJ.2.2⟩
theorem vc_FMO_balance_mu27_23 (S : hS) (x1 : Int32) (x2 : Int64) (x4 : Int64) (x6 : Int32) (x7 : Int32) (hJ : wfM S ∧ bt x7 6 ∧ rg x6 40) (c4 : ¬ ((S.2 50 ((260 + x6).toNatClampNeg)) ≤ x7.toInt64)) (c6 : ¬ ((FMO_isAccount S x1) = 0)) (c10 : ¬ ((S.2 50 ((140 + x6).toNatClampNeg)) ≤ 0)) (c14 : ¬ (x2 < (S.2 50 ((100 + x6).toNatClampNeg)))) (c18 : (S.2 50 ((300 + ((6 * x6) + x7)).toNatClampNeg)) = x1.toInt64) : ((6 - (x7 + 1).toInt).toNat) < ((6 - x7.toInt).toNat) := by
    have k0 := hJ.2.1
    have k1 := hJ.2.2
    have m0 := hJ.1.1
    have m1 := hJ.1.2.1
    have m3 := hJ.1.2.2.1
    have m4 := hJ.1.2.2.2.1
    have m6 := hJ.1.2.2.2.2.2.2.1
    have k2 := acM hJ.1 c6
    simp only [rg, bt, lp, vp_rg, Int32.lt_iff_toInt_lt, Int32.le_iff_toInt_le, Int64.lt_iff_toInt_lt, Int64.le_iff_toInt_le, l32, sI_2, tq_0, tq_1, tq_2, tq_6, tq_8, tq_10, tq_20, tq_30, tq_40, tl_0, tl_1, tl_2, tl_3, tl_4, tl_5, tl_6, tl_8, tl_10, tl_14, tl_20, tl_24, tl_30, tl_40, tl_50, tl_60, tl_70, tl_80, tl_100, tl_120, tl_140, tl_180, tl_220, tl_240, tl_260, tl_280, tl_300, tl_540, tl_780, tl_1020, tl_1180, tl_1190, tl_1200, tl_1220, tl_m1] at *
    have k3 := wfM_r hJ.1 (x := x6) (by simp only [rg]; omega)
    have t0 : (x7 + 1).toInt = ((x7).toInt + 1) := (ti_add (a := (x7)) (b := (1 : Int32)) rfl tl_1 (by omega) (by omega))
    omega
theorem vc_FMO_balance_inv027_25 (S : hS) (x1 : Int32) (x2 : Int64) (x4 : Int64) (x6 : Int32) (hJ : wfM S ∧ bt x6 40) (c2 : ¬ ((S.2 50 1) ≤ x6.toInt64)) : wfM S ∧ bt (0 : Int32) 6 ∧ rg x6 40 := ⟨hJ.1, (by
    have k0 := hJ.2
    have m0 := hJ.1.1
    have m1 := hJ.1.2.1
    have m3 := hJ.1.2.2.1
    have m4 := hJ.1.2.2.2.1
    have m6 := hJ.1.2.2.2.2.2.2.1
    simp only [rg, bt, lp, vp_rg, Int32.lt_iff_toInt_lt, Int32.le_iff_toInt_le, Int64.lt_iff_toInt_lt, Int64.le_iff_toInt_le, l32, sI_2, tq_0, tq_1, tq_2, tq_6, tq_8, tq_10, tq_20, tq_30, tq_40, tl_0, tl_1, tl_2, tl_3, tl_4, tl_5, tl_6, tl_8, tl_10, tl_14, tl_20, tl_24, tl_30, tl_40, tl_50, tl_60, tl_70, tl_80, tl_100, tl_120, tl_140, tl_180, tl_220, tl_240, tl_260, tl_280, tl_300, tl_540, tl_780, tl_1020, tl_1180, tl_1190, tl_1200, tl_1220, tl_m1] at *
    have t0 : (0 : Int32).toInt = 0 := tl_0
    omega), (by
    have k0 := hJ.2
    have m0 := hJ.1.1
    have m1 := hJ.1.2.1
    have m3 := hJ.1.2.2.1
    have m4 := hJ.1.2.2.2.1
    have m6 := hJ.1.2.2.2.2.2.2.1
    simp only [rg, bt, lp, vp_rg, Int32.lt_iff_toInt_lt, Int32.le_iff_toInt_le, Int64.lt_iff_toInt_lt, Int64.le_iff_toInt_le, l32, sI_2, tq_0, tq_1, tq_2, tq_6, tq_8, tq_10, tq_20, tq_30, tq_40, tl_0, tl_1, tl_2, tl_3, tl_4, tl_5, tl_6, tl_8, tl_10, tl_14, tl_20, tl_24, tl_30, tl_40, tl_50, tl_60, tl_70, tl_80, tl_100, tl_120, tl_140, tl_180, tl_220, tl_240, tl_260, tl_280, tl_300, tl_540, tl_780, tl_1020, tl_1180, tl_1190, tl_1200, tl_1220, tl_m1] at *
    omega)⟩
theorem vc_FMO_balance_mu027_26 (S : hS) (x1 : Int32) (x2 : Int64) (x4 : Int64) (x6 : Int32) (hJ : wfM S ∧ bt x6 40) (c2 : ¬ ((S.2 50 1) ≤ x6.toInt64)) : ((6 - (0 : Int32).toInt).toNat) < 300 := by
    have k0 := hJ.2
    have m0 := hJ.1.1
    have m1 := hJ.1.2.1
    have m3 := hJ.1.2.2.1
    have m4 := hJ.1.2.2.2.1
    have m6 := hJ.1.2.2.2.2.2.2.1
    simp only [rg, bt, lp, vp_rg, Int32.lt_iff_toInt_lt, Int32.le_iff_toInt_le, Int64.lt_iff_toInt_lt, Int64.le_iff_toInt_le, l32, sI_2, tq_0, tq_1, tq_2, tq_6, tq_8, tq_10, tq_20, tq_30, tq_40, tl_0, tl_1, tl_2, tl_3, tl_4, tl_5, tl_6, tl_8, tl_10, tl_14, tl_20, tl_24, tl_30, tl_40, tl_50, tl_60, tl_70, tl_80, tl_100, tl_120, tl_140, tl_180, tl_220, tl_240, tl_260, tl_280, tl_300, tl_540, tl_780, tl_1020, tl_1180, tl_1190, tl_1200, tl_1220, tl_m1] at *
    have t0 : (0 : Int32).toInt = 0 := tl_0
    omega
theorem vc_FMO_balance_inv11_27 (S : hS) (x1 : Int32) (x2 : Int64) (x4 : Int64) (x6 : Int32) (hJ : wfM S ∧ bt x6 40) (c2 : ¬ ((S.2 50 1) ≤ x6.toInt64)) (y24_4 : Int64) (y24_7 : Int32) (hq24 : LMO_balance_27 300 S x1 x2 x4 x6 0 = (y24_4, y24_7)) : wfM S ∧ bt (x6 + 1) 40 := ⟨hJ.1, (by
    have k0 := hJ.2
    have m0 := hJ.1.1
    have m1 := hJ.1.2.1
    have m3 := hJ.1.2.2.1
    have m4 := hJ.1.2.2.2.1
    have m6 := hJ.1.2.2.2.2.2.2.1
    simp only [rg, bt, lp, vp_rg, Int32.lt_iff_toInt_lt, Int32.le_iff_toInt_le, Int64.lt_iff_toInt_lt, Int64.le_iff_toInt_le, l32, sI_2, tq_0, tq_1, tq_2, tq_6, tq_8, tq_10, tq_20, tq_30, tq_40, tl_0, tl_1, tl_2, tl_3, tl_4, tl_5, tl_6, tl_8, tl_10, tl_14, tl_20, tl_24, tl_30, tl_40, tl_50, tl_60, tl_70, tl_80, tl_100, tl_120, tl_140, tl_180, tl_220, tl_240, tl_260, tl_280, tl_300, tl_540, tl_780, tl_1020, tl_1180, tl_1190, tl_1200, tl_1220, tl_m1] at *
    have t0 : (x6 + 1).toInt = ((x6).toInt + 1) := (ti_add (a := (x6)) (b := (1 : Int32)) rfl tl_1 (by omega) (by omega))
    omega)⟩
theorem vc_FMO_balance_mu11_28 (S : hS) (x1 : Int32) (x2 : Int64) (x4 : Int64) (x6 : Int32) (hJ : wfM S ∧ bt x6 40) (c2 : ¬ ((S.2 50 1) ≤ x6.toInt64)) (y24_4 : Int64) (y24_7 : Int32) (hq24 : LMO_balance_27 300 S x1 x2 x4 x6 0 = (y24_4, y24_7)) : ((40 - (x6 + 1).toInt).toNat) < ((40 - x6.toInt).toNat) := by
    have k0 := hJ.2
    have m0 := hJ.1.1
    have m1 := hJ.1.2.1
    have m3 := hJ.1.2.2.1
    have m4 := hJ.1.2.2.2.1
    have m6 := hJ.1.2.2.2.2.2.2.1
    simp only [rg, bt, lp, vp_rg, Int32.lt_iff_toInt_lt, Int32.le_iff_toInt_le, Int64.lt_iff_toInt_lt, Int64.le_iff_toInt_le, l32, sI_2, tq_0, tq_1, tq_2, tq_6, tq_8, tq_10, tq_20, tq_30, tq_40, tl_0, tl_1, tl_2, tl_3, tl_4, tl_5, tl_6, tl_8, tl_10, tl_14, tl_20, tl_24, tl_30, tl_40, tl_50, tl_60, tl_70, tl_80, tl_100, tl_120, tl_140, tl_180, tl_220, tl_240, tl_260, tl_280, tl_300, tl_540, tl_780, tl_1020, tl_1180, tl_1190, tl_1200, tl_1220, tl_m1] at *
    have t0 : (x6 + 1).toInt = ((x6).toInt + 1) := (ti_add (a := (x6)) (b := (1 : Int32)) rfl tl_1 (by omega) (by omega))
    omega
theorem vc_FMO_balance_inv011_30 (S : hS) (x1 : Int32) (x2 : Int64) (hp : wfM S) : wfM (sI S 49 4 0) ∧ bt (0 : Int32) 40 := ⟨(wfM_I hp), (by
    have m0 := hp.1
    have m1 := hp.2.1
    have m3 := hp.2.2.1
    have m4 := hp.2.2.2.1
    have m6 := hp.2.2.2.2.2.2.1
    simp only [rg, bt, lp, vp_rg, Int32.lt_iff_toInt_lt, Int32.le_iff_toInt_le, Int64.lt_iff_toInt_lt, Int64.le_iff_toInt_le, l32, sI_2, tq_0, tq_1, tq_2, tq_6, tq_8, tq_10, tq_20, tq_30, tq_40, tl_0, tl_1, tl_2, tl_3, tl_4, tl_5, tl_6, tl_8, tl_10, tl_14, tl_20, tl_24, tl_30, tl_40, tl_50, tl_60, tl_70, tl_80, tl_100, tl_120, tl_140, tl_180, tl_220, tl_240, tl_260, tl_280, tl_300, tl_540, tl_780, tl_1020, tl_1180, tl_1190, tl_1200, tl_1220, tl_m1] at *
    have t0 : (0 : Int32).toInt = 0 := tl_0
    omega)⟩
theorem vc_FMO_balance_mu011_31 (S : hS) (x1 : Int32) (x2 : Int64) (hp : wfM S) : ((40 - (0 : Int32).toInt).toNat) < 300 := by
    have m0 := hp.1
    have m1 := hp.2.1
    have m3 := hp.2.2.1
    have m4 := hp.2.2.2.1
    have m6 := hp.2.2.2.2.2.2.1
    simp only [rg, bt, lp, vp_rg, Int32.lt_iff_toInt_lt, Int32.le_iff_toInt_le, Int64.lt_iff_toInt_lt, Int64.le_iff_toInt_le, l32, sI_2, tq_0, tq_1, tq_2, tq_6, tq_8, tq_10, tq_20, tq_30, tq_40, tl_0, tl_1, tl_2, tl_3, tl_4, tl_5, tl_6, tl_8, tl_10, tl_14, tl_20, tl_24, tl_30, tl_40, tl_50, tl_60, tl_70, tl_80, tl_100, tl_120, tl_140, tl_180, tl_220, tl_240, tl_260, tl_280, tl_300, tl_540, tl_780, tl_1020, tl_1180, tl_1190, tl_1200, tl_1220, tl_m1] at *
    have t0 : (0 : Int32).toInt = 0 := tl_0
    omega
theorem vc_FMO_isItemOf_pre9_1 (S : hS) (x1 : Int32) (x2 : Int32) (hp : wfM S ∧ rg x1 240) : wfM S ∧ rg (x1 / 6) 40 ∧ rg (x1 - x1 / 6 * 6) 6 := ⟨hp.1, (by
    have k0 := hp.2
    have m0 := hp.1.1
    have m1 := hp.1.2.1
    have m3 := hp.1.2.2.1
    have m4 := hp.1.2.2.2.1
    have m6 := hp.1.2.2.2.2.2.2.1
    simp only [rg, bt, lp, vp_rg, Int32.lt_iff_toInt_lt, Int32.le_iff_toInt_le, Int64.lt_iff_toInt_lt, Int64.le_iff_toInt_le, l32, sI_2, tq_0, tq_1, tq_2, tq_6, tq_8, tq_10, tq_20, tq_30, tq_40, tl_0, tl_1, tl_2, tl_3, tl_4, tl_5, tl_6, tl_8, tl_10, tl_14, tl_20, tl_24, tl_30, tl_40, tl_50, tl_60, tl_70, tl_80, tl_100, tl_120, tl_140, tl_180, tl_220, tl_240, tl_260, tl_280, tl_300, tl_540, tl_780, tl_1020, tl_1180, tl_1190, tl_1200, tl_1220, tl_m1] at *
    have t0 : (x1 / 6).toInt = ((x1).toInt / 6) := (ti_div (a := (x1)) (b := (6 : Int32)) rfl tl_6 (by omega) (by omega))
    omega), (by
    have k0 := hp.2
    have m0 := hp.1.1
    have m1 := hp.1.2.1
    have m3 := hp.1.2.2.1
    have m4 := hp.1.2.2.2.1
    have m6 := hp.1.2.2.2.2.2.2.1
    simp only [rg, bt, lp, vp_rg, Int32.lt_iff_toInt_lt, Int32.le_iff_toInt_le, Int64.lt_iff_toInt_lt, Int64.le_iff_toInt_le, l32, sI_2, tq_0, tq_1, tq_2, tq_6, tq_8, tq_10, tq_20, tq_30, tq_40, tl_0, tl_1, tl_2, tl_3, tl_4, tl_5, tl_6, tl_8, tl_10, tl_14, tl_20, tl_24, tl_30, tl_40, tl_50, tl_60, tl_70, tl_80, tl_100, tl_120, tl_140, tl_180, tl_220, tl_240, tl_260, tl_280, tl_300, tl_540, tl_780, tl_1020, tl_1180, tl_1190, tl_1200, tl_1220, tl_m1] at *
    have t0 : (x1 - x1 / 6 * 6).toInt = ((x1).toInt - (((x1).toInt / 6) * 6)) := (ti_sub (a := (x1)) (b := (x1 / 6 * 6)) rfl (ti_mul (a := (x1 / 6)) (b := (6 : Int32)) (ti_div (a := (x1)) (b := (6 : Int32)) rfl tl_6 (by omega) (by omega)) tl_6 (by omega) (by omega)) (by omega) (by omega))
    omega)⟩
theorem vc_FMO_isItemOf_ix24_3 (S : hS) (x1 : Int32) (x2 : Int32) (hp : wfM S ∧ rg x1 240) (c2 : ¬ ((FMO_isItem S (x1 / 6) (x1 - x1 / 6 * 6)) = 0)) : vp_in (300 + x1) 1220 := by
    have k0 := hp.2
    have m0 := hp.1.1
    have m1 := hp.1.2.1
    have m3 := hp.1.2.2.1
    have m4 := hp.1.2.2.2.1
    have m6 := hp.1.2.2.2.2.2.2.1
    simp only [rg, bt, lp, vp_rg, Int32.lt_iff_toInt_lt, Int32.le_iff_toInt_le, Int64.lt_iff_toInt_lt, Int64.le_iff_toInt_le, l32, sI_2, tq_0, tq_1, tq_2, tq_6, tq_8, tq_10, tq_20, tq_30, tq_40, tl_0, tl_1, tl_2, tl_3, tl_4, tl_5, tl_6, tl_8, tl_10, tl_14, tl_20, tl_24, tl_30, tl_40, tl_50, tl_60, tl_70, tl_80, tl_100, tl_120, tl_140, tl_180, tl_220, tl_240, tl_260, tl_280, tl_300, tl_540, tl_780, tl_1020, tl_1180, tl_1190, tl_1200, tl_1220, tl_m1] at *
    have t0 : (300 + x1).toInt = (300 + (x1).toInt) := (ti_add (a := (300 : Int32)) (b := (x1)) tl_300 rfl (by omega) (by omega))
    omega
theorem vc_FMO_isBefore_ix11_1 (S : hS) (x1 : Int32) (x2 : Int32) (hp : wfM S ∧ rg x1 240 ∧ rg x2 240) : vp_in (100 + (x1 / 6)) 1220 := by
    have k0 := hp.2.1
    have k1 := hp.2.2
    have m0 := hp.1.1
    have m1 := hp.1.2.1
    have m3 := hp.1.2.2.1
    have m4 := hp.1.2.2.2.1
    have m6 := hp.1.2.2.2.2.2.2.1
    simp only [rg, bt, lp, vp_rg, Int32.lt_iff_toInt_lt, Int32.le_iff_toInt_le, Int64.lt_iff_toInt_lt, Int64.le_iff_toInt_le, l32, sI_2, tq_0, tq_1, tq_2, tq_6, tq_8, tq_10, tq_20, tq_30, tq_40, tl_0, tl_1, tl_2, tl_3, tl_4, tl_5, tl_6, tl_8, tl_10, tl_14, tl_20, tl_24, tl_30, tl_40, tl_50, tl_60, tl_70, tl_80, tl_100, tl_120, tl_140, tl_180, tl_220, tl_240, tl_260, tl_280, tl_300, tl_540, tl_780, tl_1020, tl_1180, tl_1190, tl_1200, tl_1220, tl_m1] at *
    have t0 : (100 + (x1 / 6)).toInt = (100 + ((x1).toInt / 6)) := (ti_add (a := (100 : Int32)) (b := (x1 / 6)) tl_100 (ti_div (a := (x1)) (b := (6 : Int32)) rfl tl_6 (by omega) (by omega)) (by omega) (by omega))
    omega
theorem vc_FMO_isBefore_ix24_2 (S : hS) (x1 : Int32) (x2 : Int32) (hp : wfM S ∧ rg x1 240 ∧ rg x2 240) : vp_in (100 + (x2 / 6)) 1220 := by
    have k0 := hp.2.1
    have k1 := hp.2.2
    have m0 := hp.1.1
    have m1 := hp.1.2.1
    have m3 := hp.1.2.2.1
    have m4 := hp.1.2.2.2.1
    have m6 := hp.1.2.2.2.2.2.2.1
    simp only [rg, bt, lp, vp_rg, Int32.lt_iff_toInt_lt, Int32.le_iff_toInt_le, Int64.lt_iff_toInt_lt, Int64.le_iff_toInt_le, l32, sI_2, tq_0, tq_1, tq_2, tq_6, tq_8, tq_10, tq_20, tq_30, tq_40, tl_0, tl_1, tl_2, tl_3, tl_4, tl_5, tl_6, tl_8, tl_10, tl_14, tl_20, tl_24, tl_30, tl_40, tl_50, tl_60, tl_70, tl_80, tl_100, tl_120, tl_140, tl_180, tl_220, tl_240, tl_260, tl_280, tl_300, tl_540, tl_780, tl_1020, tl_1180, tl_1190, tl_1200, tl_1220, tl_m1] at *
    have t0 : (100 + (x2 / 6)).toInt = (100 + ((x2).toInt / 6)) := (ti_add (a := (100 : Int32)) (b := (x2 / 6)) tl_100 (ti_div (a := (x2)) (b := (6 : Int32)) rfl tl_6 (by omega) (by omega)) (by omega) (by omega))
    omega
theorem vc_FMO_itemAt_pre12_2 (S : hS) (x1 : Int32) (x2 : Int32) (x3 : Int32) (hJ : wfM S ∧ bt x3 240) (c1 : ¬ (240 ≤ x3)) : wfM S ∧ rg x3 240 := ⟨hJ.1, (by
    have k0 := hJ.2
    have m0 := hJ.1.1
    have m1 := hJ.1.2.1
    have m3 := hJ.1.2.2.1
    have m4 := hJ.1.2.2.2.1
    have m6 := hJ.1.2.2.2.2.2.2.1
    simp only [rg, bt, lp, vp_rg, Int32.lt_iff_toInt_lt, Int32.le_iff_toInt_le, Int64.lt_iff_toInt_lt, Int64.le_iff_toInt_le, l32, sI_2, tq_0, tq_1, tq_2, tq_6, tq_8, tq_10, tq_20, tq_30, tq_40, tl_0, tl_1, tl_2, tl_3, tl_4, tl_5, tl_6, tl_8, tl_10, tl_14, tl_20, tl_24, tl_30, tl_40, tl_50, tl_60, tl_70, tl_80, tl_100, tl_120, tl_140, tl_180, tl_220, tl_240, tl_260, tl_280, tl_300, tl_540, tl_780, tl_1020, tl_1180, tl_1190, tl_1200, tl_1220, tl_m1] at *
    omega)⟩
theorem vc_FMO_itemAt_inv2_4 (S : hS) (x1 : Int32) (x2 : Int32) (x3 : Int32) (hJ : wfM S ∧ bt x3 240) (c1 : ¬ (240 ≤ x3)) (c3 : (FMO_isItemOf S x3 x1) = 0) : wfM S ∧ bt (x3 + 1) 240 := ⟨hJ.1, (by
    have k0 := hJ.2
    have m0 := hJ.1.1
    have m1 := hJ.1.2.1
    have m3 := hJ.1.2.2.1
    have m4 := hJ.1.2.2.2.1
    have m6 := hJ.1.2.2.2.2.2.2.1
    simp only [rg, bt, lp, vp_rg, Int32.lt_iff_toInt_lt, Int32.le_iff_toInt_le, Int64.lt_iff_toInt_lt, Int64.le_iff_toInt_le, l32, sI_2, tq_0, tq_1, tq_2, tq_6, tq_8, tq_10, tq_20, tq_30, tq_40, tl_0, tl_1, tl_2, tl_3, tl_4, tl_5, tl_6, tl_8, tl_10, tl_14, tl_20, tl_24, tl_30, tl_40, tl_50, tl_60, tl_70, tl_80, tl_100, tl_120, tl_140, tl_180, tl_220, tl_240, tl_260, tl_280, tl_300, tl_540, tl_780, tl_1020, tl_1180, tl_1190, tl_1200, tl_1220, tl_m1] at *
    have t0 : (x3 + 1).toInt = ((x3).toInt + 1) := (ti_add (a := (x3)) (b := (1 : Int32)) rfl tl_1 (by omega) (by omega))
    omega)⟩
theorem vc_FMO_itemAt_mu2_5 (S : hS) (x1 : Int32) (x2 : Int32) (x3 : Int32) (hJ : wfM S ∧ bt x3 240) (c1 : ¬ (240 ≤ x3)) (c3 : (FMO_isItemOf S x3 x1) = 0) : ((240 - (x3 + 1).toInt).toNat) < ((240 - x3.toInt).toNat) := by
    have k0 := hJ.2
    have m0 := hJ.1.1
    have m1 := hJ.1.2.1
    have m3 := hJ.1.2.2.1
    have m4 := hJ.1.2.2.2.1
    have m6 := hJ.1.2.2.2.2.2.2.1
    simp only [rg, bt, lp, vp_rg, Int32.lt_iff_toInt_lt, Int32.le_iff_toInt_le, Int64.lt_iff_toInt_lt, Int64.le_iff_toInt_le, l32, sI_2, tq_0, tq_1, tq_2, tq_6, tq_8, tq_10, tq_20, tq_30, tq_40, tl_0, tl_1, tl_2, tl_3, tl_4, tl_5, tl_6, tl_8, tl_10, tl_14, tl_20, tl_24, tl_30, tl_40, tl_50, tl_60, tl_70, tl_80, tl_100, tl_120, tl_140, tl_180, tl_220, tl_240, tl_260, tl_280, tl_300, tl_540, tl_780, tl_1020, tl_1180, tl_1190, tl_1200, tl_1220, tl_m1] at *
    have t0 : (x3 + 1).toInt = ((x3).toInt + 1) := (ti_add (a := (x3)) (b := (1 : Int32)) rfl tl_1 (by omega) (by omega))
    omega
theorem vc_FMO_itemAt_pre38_7 (S : hS) (x1 : Int32) (x2 : Int32) (x3 : Int32) (x4 : Int32) (x5 : Int32) (hJ : wfM S ∧ bt x5 240 ∧ rg x3 240) (c6 : ¬ (240 ≤ x5)) : wfM S ∧ rg x5 240 := ⟨hJ.1, (by
    have k0 := hJ.2.1
    have k1 := hJ.2.2
    have m0 := hJ.1.1
    have m1 := hJ.1.2.1
    have m3 := hJ.1.2.2.1
    have m4 := hJ.1.2.2.2.1
    have m6 := hJ.1.2.2.2.2.2.2.1
    simp only [rg, bt, lp, vp_rg, Int32.lt_iff_toInt_lt, Int32.le_iff_toInt_le, Int64.lt_iff_toInt_lt, Int64.le_iff_toInt_le, l32, sI_2, tq_0, tq_1, tq_2, tq_6, tq_8, tq_10, tq_20, tq_30, tq_40, tl_0, tl_1, tl_2, tl_3, tl_4, tl_5, tl_6, tl_8, tl_10, tl_14, tl_20, tl_24, tl_30, tl_40, tl_50, tl_60, tl_70, tl_80, tl_100, tl_120, tl_140, tl_180, tl_220, tl_240, tl_260, tl_280, tl_300, tl_540, tl_780, tl_1020, tl_1180, tl_1190, tl_1200, tl_1220, tl_m1] at *
    omega)⟩
theorem vc_FMO_itemAt_inv24_9 (S : hS) (x1 : Int32) (x2 : Int32) (x3 : Int32) (x4 : Int32) (x5 : Int32) (hJ : wfM S ∧ bt x5 240 ∧ rg x3 240) (c6 : ¬ (240 ≤ x5)) (c8 : (FMO_isItemOf S x5 x1) = 0) : wfM S ∧ bt (x5 + 1) 240 ∧ rg x3 240 := ⟨hJ.1, (by
    have k0 := hJ.2.1
    have k1 := hJ.2.2
    have m0 := hJ.1.1
    have m1 := hJ.1.2.1
    have m3 := hJ.1.2.2.1
    have m4 := hJ.1.2.2.2.1
    have m6 := hJ.1.2.2.2.2.2.2.1
    simp only [rg, bt, lp, vp_rg, Int32.lt_iff_toInt_lt, Int32.le_iff_toInt_le, Int64.lt_iff_toInt_lt, Int64.le_iff_toInt_le, l32, sI_2, tq_0, tq_1, tq_2, tq_6, tq_8, tq_10, tq_20, tq_30, tq_40, tl_0, tl_1, tl_2, tl_3, tl_4, tl_5, tl_6, tl_8, tl_10, tl_14, tl_20, tl_24, tl_30, tl_40, tl_50, tl_60, tl_70, tl_80, tl_100, tl_120, tl_140, tl_180, tl_220, tl_240, tl_260, tl_280, tl_300, tl_540, tl_780, tl_1020, tl_1180, tl_1190, tl_1200, tl_1220, tl_m1] at *
    have t0 : (x5 + 1).toInt = ((x5).toInt + 1) := (ti_add (a := (x5)) (b := (1 : Int32)) rfl tl_1 (by omega) (by omega))
    omega), hJ.2.2⟩
theorem vc_FMO_itemAt_mu24_10 (S : hS) (x1 : Int32) (x2 : Int32) (x3 : Int32) (x4 : Int32) (x5 : Int32) (hJ : wfM S ∧ bt x5 240 ∧ rg x3 240) (c6 : ¬ (240 ≤ x5)) (c8 : (FMO_isItemOf S x5 x1) = 0) : ((240 - (x5 + 1).toInt).toNat) < ((240 - x5.toInt).toNat) := by
    have k0 := hJ.2.1
    have k1 := hJ.2.2
    have m0 := hJ.1.1
    have m1 := hJ.1.2.1
    have m3 := hJ.1.2.2.1
    have m4 := hJ.1.2.2.2.1
    have m6 := hJ.1.2.2.2.2.2.2.1
    simp only [rg, bt, lp, vp_rg, Int32.lt_iff_toInt_lt, Int32.le_iff_toInt_le, Int64.lt_iff_toInt_lt, Int64.le_iff_toInt_le, l32, sI_2, tq_0, tq_1, tq_2, tq_6, tq_8, tq_10, tq_20, tq_30, tq_40, tl_0, tl_1, tl_2, tl_3, tl_4, tl_5, tl_6, tl_8, tl_10, tl_14, tl_20, tl_24, tl_30, tl_40, tl_50, tl_60, tl_70, tl_80, tl_100, tl_120, tl_140, tl_180, tl_220, tl_240, tl_260, tl_280, tl_300, tl_540, tl_780, tl_1020, tl_1180, tl_1190, tl_1200, tl_1220, tl_m1] at *
    have t0 : (x5 + 1).toInt = ((x5).toInt + 1) := (ti_add (a := (x5)) (b := (1 : Int32)) rfl tl_1 (by omega) (by omega))
    omega
theorem vc_FMO_itemAt_pre48_11 (S : hS) (x1 : Int32) (x2 : Int32) (x3 : Int32) (x4 : Int32) (x5 : Int32) (hJ : wfM S ∧ bt x5 240 ∧ rg x3 240) (c6 : ¬ (240 ≤ x5)) (c8 : ¬ ((FMO_isItemOf S x5 x1) = 0)) : wfM S ∧ rg x5 240 ∧ rg x3 240 := ⟨hJ.1, (by
    have k0 := hJ.2.1
    have k1 := hJ.2.2
    have m0 := hJ.1.1
    have m1 := hJ.1.2.1
    have m3 := hJ.1.2.2.1
    have m4 := hJ.1.2.2.2.1
    have m6 := hJ.1.2.2.2.2.2.2.1
    simp only [rg, bt, lp, vp_rg, Int32.lt_iff_toInt_lt, Int32.le_iff_toInt_le, Int64.lt_iff_toInt_lt, Int64.le_iff_toInt_le, l32, sI_2, tq_0, tq_1, tq_2, tq_6, tq_8, tq_10, tq_20, tq_30, tq_40, tl_0, tl_1, tl_2, tl_3, tl_4, tl_5, tl_6, tl_8, tl_10, tl_14, tl_20, tl_24, tl_30, tl_40, tl_50, tl_60, tl_70, tl_80, tl_100, tl_120, tl_140, tl_180, tl_220, tl_240, tl_260, tl_280, tl_300, tl_540, tl_780, tl_1020, tl_1180, tl_1190, tl_1200, tl_1220, tl_m1] at *
    omega), hJ.2.2⟩
theorem vc_FMO_itemAt_inv24_13 (S : hS) (x1 : Int32) (x2 : Int32) (x3 : Int32) (x4 : Int32) (x5 : Int32) (hJ : wfM S ∧ bt x5 240 ∧ rg x3 240) (c6 : ¬ (240 ≤ x5)) (c8 : ¬ ((FMO_isItemOf S x5 x1) = 0)) (c12 : (FMO_isBefore S x5 x3) = 0) : wfM S ∧ bt (x5 + 1) 240 ∧ rg x3 240 := ⟨hJ.1, (by
    have k0 := hJ.2.1
    have k1 := hJ.2.2
    have m0 := hJ.1.1
    have m1 := hJ.1.2.1
    have m3 := hJ.1.2.2.1
    have m4 := hJ.1.2.2.2.1
    have m6 := hJ.1.2.2.2.2.2.2.1
    simp only [rg, bt, lp, vp_rg, Int32.lt_iff_toInt_lt, Int32.le_iff_toInt_le, Int64.lt_iff_toInt_lt, Int64.le_iff_toInt_le, l32, sI_2, tq_0, tq_1, tq_2, tq_6, tq_8, tq_10, tq_20, tq_30, tq_40, tl_0, tl_1, tl_2, tl_3, tl_4, tl_5, tl_6, tl_8, tl_10, tl_14, tl_20, tl_24, tl_30, tl_40, tl_50, tl_60, tl_70, tl_80, tl_100, tl_120, tl_140, tl_180, tl_220, tl_240, tl_260, tl_280, tl_300, tl_540, tl_780, tl_1020, tl_1180, tl_1190, tl_1200, tl_1220, tl_m1] at *
    have t0 : (x5 + 1).toInt = ((x5).toInt + 1) := (ti_add (a := (x5)) (b := (1 : Int32)) rfl tl_1 (by omega) (by omega))
    omega), hJ.2.2⟩
theorem vc_FMO_itemAt_mu24_14 (S : hS) (x1 : Int32) (x2 : Int32) (x3 : Int32) (x4 : Int32) (x5 : Int32) (hJ : wfM S ∧ bt x5 240 ∧ rg x3 240) (c6 : ¬ (240 ≤ x5)) (c8 : ¬ ((FMO_isItemOf S x5 x1) = 0)) (c12 : (FMO_isBefore S x5 x3) = 0) : ((240 - (x5 + 1).toInt).toNat) < ((240 - x5.toInt).toNat) := by
    have k0 := hJ.2.1
    have k1 := hJ.2.2
    have m0 := hJ.1.1
    have m1 := hJ.1.2.1
    have m3 := hJ.1.2.2.1
    have m4 := hJ.1.2.2.2.1
    have m6 := hJ.1.2.2.2.2.2.2.1
    simp only [rg, bt, lp, vp_rg, Int32.lt_iff_toInt_lt, Int32.le_iff_toInt_le, Int64.lt_iff_toInt_lt, Int64.le_iff_toInt_le, l32, sI_2, tq_0, tq_1, tq_2, tq_6, tq_8, tq_10, tq_20, tq_30, tq_40, tl_0, tl_1, tl_2, tl_3, tl_4, tl_5, tl_6, tl_8, tl_10, tl_14, tl_20, tl_24, tl_30, tl_40, tl_50, tl_60, tl_70, tl_80, tl_100, tl_120, tl_140, tl_180, tl_220, tl_240, tl_260, tl_280, tl_300, tl_540, tl_780, tl_1020, tl_1180, tl_1190, tl_1200, tl_1220, tl_m1] at *
    have t0 : (x5 + 1).toInt = ((x5).toInt + 1) := (ti_add (a := (x5)) (b := (1 : Int32)) rfl tl_1 (by omega) (by omega))
    omega
theorem vc_FMO_itemAt_inv24_15 (S : hS) (x1 : Int32) (x2 : Int32) (x3 : Int32) (x4 : Int32) (x5 : Int32) (hJ : wfM S ∧ bt x5 240 ∧ rg x3 240) (c6 : ¬ (240 ≤ x5)) (c8 : ¬ ((FMO_isItemOf S x5 x1) = 0)) (c12 : ¬ ((FMO_isBefore S x5 x3) = 0)) : wfM S ∧ bt (x5 + 1) 240 ∧ rg x3 240 := ⟨hJ.1, (by
    have k0 := hJ.2.1
    have k1 := hJ.2.2
    have m0 := hJ.1.1
    have m1 := hJ.1.2.1
    have m3 := hJ.1.2.2.1
    have m4 := hJ.1.2.2.2.1
    have m6 := hJ.1.2.2.2.2.2.2.1
    simp only [rg, bt, lp, vp_rg, Int32.lt_iff_toInt_lt, Int32.le_iff_toInt_le, Int64.lt_iff_toInt_lt, Int64.le_iff_toInt_le, l32, sI_2, tq_0, tq_1, tq_2, tq_6, tq_8, tq_10, tq_20, tq_30, tq_40, tl_0, tl_1, tl_2, tl_3, tl_4, tl_5, tl_6, tl_8, tl_10, tl_14, tl_20, tl_24, tl_30, tl_40, tl_50, tl_60, tl_70, tl_80, tl_100, tl_120, tl_140, tl_180, tl_220, tl_240, tl_260, tl_280, tl_300, tl_540, tl_780, tl_1020, tl_1180, tl_1190, tl_1200, tl_1220, tl_m1] at *
    have t0 : (x5 + 1).toInt = ((x5).toInt + 1) := (ti_add (a := (x5)) (b := (1 : Int32)) rfl tl_1 (by omega) (by omega))
    omega), hJ.2.2⟩
theorem vc_FMO_itemAt_mu24_16 (S : hS) (x1 : Int32) (x2 : Int32) (x3 : Int32) (x4 : Int32) (x5 : Int32) (hJ : wfM S ∧ bt x5 240 ∧ rg x3 240) (c6 : ¬ (240 ≤ x5)) (c8 : ¬ ((FMO_isItemOf S x5 x1) = 0)) (c12 : ¬ ((FMO_isBefore S x5 x3) = 0)) : ((240 - (x5 + 1).toInt).toNat) < ((240 - x5.toInt).toNat) := by
    have k0 := hJ.2.1
    have k1 := hJ.2.2
    have m0 := hJ.1.1
    have m1 := hJ.1.2.1
    have m3 := hJ.1.2.2.1
    have m4 := hJ.1.2.2.2.1
    have m6 := hJ.1.2.2.2.2.2.2.1
    simp only [rg, bt, lp, vp_rg, Int32.lt_iff_toInt_lt, Int32.le_iff_toInt_le, Int64.lt_iff_toInt_lt, Int64.le_iff_toInt_le, l32, sI_2, tq_0, tq_1, tq_2, tq_6, tq_8, tq_10, tq_20, tq_30, tq_40, tl_0, tl_1, tl_2, tl_3, tl_4, tl_5, tl_6, tl_8, tl_10, tl_14, tl_20, tl_24, tl_30, tl_40, tl_50, tl_60, tl_70, tl_80, tl_100, tl_120, tl_140, tl_180, tl_220, tl_240, tl_260, tl_280, tl_300, tl_540, tl_780, tl_1020, tl_1180, tl_1190, tl_1200, tl_1220, tl_m1] at *
    have t0 : (x5 + 1).toInt = ((x5).toInt + 1) := (ti_add (a := (x5)) (b := (1 : Int32)) rfl tl_1 (by omega) (by omega))
    omega
theorem vc_FMO_itemAt_inv024_18 (S : hS) (x1 : Int32) (x2 : Int32) (x3 : Int32) (hJ : wfM S ∧ bt x3 240) (c1 : ¬ (240 ≤ x3)) (c3 : ¬ ((FMO_isItemOf S x3 x1) = 0)) : wfM S ∧ bt (0 : Int32) 240 ∧ rg x3 240 := ⟨hJ.1, (by
    have k0 := hJ.2
    have m0 := hJ.1.1
    have m1 := hJ.1.2.1
    have m3 := hJ.1.2.2.1
    have m4 := hJ.1.2.2.2.1
    have m6 := hJ.1.2.2.2.2.2.2.1
    simp only [rg, bt, lp, vp_rg, Int32.lt_iff_toInt_lt, Int32.le_iff_toInt_le, Int64.lt_iff_toInt_lt, Int64.le_iff_toInt_le, l32, sI_2, tq_0, tq_1, tq_2, tq_6, tq_8, tq_10, tq_20, tq_30, tq_40, tl_0, tl_1, tl_2, tl_3, tl_4, tl_5, tl_6, tl_8, tl_10, tl_14, tl_20, tl_24, tl_30, tl_40, tl_50, tl_60, tl_70, tl_80, tl_100, tl_120, tl_140, tl_180, tl_220, tl_240, tl_260, tl_280, tl_300, tl_540, tl_780, tl_1020, tl_1180, tl_1190, tl_1200, tl_1220, tl_m1] at *
    have t0 : (0 : Int32).toInt = 0 := tl_0
    omega), (by
    have k0 := hJ.2
    have m0 := hJ.1.1
    have m1 := hJ.1.2.1
    have m3 := hJ.1.2.2.1
    have m4 := hJ.1.2.2.2.1
    have m6 := hJ.1.2.2.2.2.2.2.1
    simp only [rg, bt, lp, vp_rg, Int32.lt_iff_toInt_lt, Int32.le_iff_toInt_le, Int64.lt_iff_toInt_lt, Int64.le_iff_toInt_le, l32, sI_2, tq_0, tq_1, tq_2, tq_6, tq_8, tq_10, tq_20, tq_30, tq_40, tl_0, tl_1, tl_2, tl_3, tl_4, tl_5, tl_6, tl_8, tl_10, tl_14, tl_20, tl_24, tl_30, tl_40, tl_50, tl_60, tl_70, tl_80, tl_100, tl_120, tl_140, tl_180, tl_220, tl_240, tl_260, tl_280, tl_300, tl_540, tl_780, tl_1020, tl_1180, tl_1190, tl_1200, tl_1220, tl_m1] at *
    omega)⟩
theorem vc_FMO_itemAt_mu024_19 (S : hS) (x1 : Int32) (x2 : Int32) (x3 : Int32) (hJ : wfM S ∧ bt x3 240) (c1 : ¬ (240 ≤ x3)) (c3 : ¬ ((FMO_isItemOf S x3 x1) = 0)) : ((240 - (0 : Int32).toInt).toNat) < 300 := by
    have k0 := hJ.2
    have m0 := hJ.1.1
    have m1 := hJ.1.2.1
    have m3 := hJ.1.2.2.1
    have m4 := hJ.1.2.2.2.1
    have m6 := hJ.1.2.2.2.2.2.2.1
    simp only [rg, bt, lp, vp_rg, Int32.lt_iff_toInt_lt, Int32.le_iff_toInt_le, Int64.lt_iff_toInt_lt, Int64.le_iff_toInt_le, l32, sI_2, tq_0, tq_1, tq_2, tq_6, tq_8, tq_10, tq_20, tq_30, tq_40, tl_0, tl_1, tl_2, tl_3, tl_4, tl_5, tl_6, tl_8, tl_10, tl_14, tl_20, tl_24, tl_30, tl_40, tl_50, tl_60, tl_70, tl_80, tl_100, tl_120, tl_140, tl_180, tl_220, tl_240, tl_260, tl_280, tl_300, tl_540, tl_780, tl_1020, tl_1180, tl_1190, tl_1200, tl_1220, tl_m1] at *
    have t0 : (0 : Int32).toInt = 0 := tl_0
    omega
theorem vc_FMO_itemAt_inv2_21 (S : hS) (x1 : Int32) (x2 : Int32) (x3 : Int32) (hJ : wfM S ∧ bt x3 240) (c1 : ¬ (240 ≤ x3)) (c3 : ¬ ((FMO_isItemOf S x3 x1) = 0)) (y17_4 : Int32) (y17_5 : Int32) (hq17 : LMO_itemAt_24 300 S x1 x2 x3 0 0 = (y17_4, y17_5)) (c20 : ¬ (y17_4 = x2)) : wfM S ∧ bt (x3 + 1) 240 := ⟨hJ.1, (by
    have k0 := hJ.2
    have m0 := hJ.1.1
    have m1 := hJ.1.2.1
    have m3 := hJ.1.2.2.1
    have m4 := hJ.1.2.2.2.1
    have m6 := hJ.1.2.2.2.2.2.2.1
    simp only [rg, bt, lp, vp_rg, Int32.lt_iff_toInt_lt, Int32.le_iff_toInt_le, Int64.lt_iff_toInt_lt, Int64.le_iff_toInt_le, l32, sI_2, tq_0, tq_1, tq_2, tq_6, tq_8, tq_10, tq_20, tq_30, tq_40, tl_0, tl_1, tl_2, tl_3, tl_4, tl_5, tl_6, tl_8, tl_10, tl_14, tl_20, tl_24, tl_30, tl_40, tl_50, tl_60, tl_70, tl_80, tl_100, tl_120, tl_140, tl_180, tl_220, tl_240, tl_260, tl_280, tl_300, tl_540, tl_780, tl_1020, tl_1180, tl_1190, tl_1200, tl_1220, tl_m1] at *
    have t0 : (x3 + 1).toInt = ((x3).toInt + 1) := (ti_add (a := (x3)) (b := (1 : Int32)) rfl tl_1 (by omega) (by omega))
    omega)⟩
theorem vc_FMO_itemAt_mu2_22 (S : hS) (x1 : Int32) (x2 : Int32) (x3 : Int32) (hJ : wfM S ∧ bt x3 240) (c1 : ¬ (240 ≤ x3)) (c3 : ¬ ((FMO_isItemOf S x3 x1) = 0)) (y17_4 : Int32) (y17_5 : Int32) (hq17 : LMO_itemAt_24 300 S x1 x2 x3 0 0 = (y17_4, y17_5)) (c20 : ¬ (y17_4 = x2)) : ((240 - (x3 + 1).toInt).toNat) < ((240 - x3.toInt).toNat) := by
    have k0 := hJ.2
    have m0 := hJ.1.1
    have m1 := hJ.1.2.1
    have m3 := hJ.1.2.2.1
    have m4 := hJ.1.2.2.2.1
    have m6 := hJ.1.2.2.2.2.2.2.1
    simp only [rg, bt, lp, vp_rg, Int32.lt_iff_toInt_lt, Int32.le_iff_toInt_le, Int64.lt_iff_toInt_lt, Int64.le_iff_toInt_le, l32, sI_2, tq_0, tq_1, tq_2, tq_6, tq_8, tq_10, tq_20, tq_30, tq_40, tl_0, tl_1, tl_2, tl_3, tl_4, tl_5, tl_6, tl_8, tl_10, tl_14, tl_20, tl_24, tl_30, tl_40, tl_50, tl_60, tl_70, tl_80, tl_100, tl_120, tl_140, tl_180, tl_220, tl_240, tl_260, tl_280, tl_300, tl_540, tl_780, tl_1020, tl_1180, tl_1190, tl_1200, tl_1220, tl_m1] at *
    have t0 : (x3 + 1).toInt = ((x3).toInt + 1) := (ti_add (a := (x3)) (b := (1 : Int32)) rfl tl_1 (by omega) (by omega))
    omega
theorem vc_FMO_itemAt_inv02_24 (S : hS) (x1 : Int32) (x2 : Int32) (hp : wfM S) : wfM S ∧ bt (0 : Int32) 240 := ⟨hp, (by
    have m0 := hp.1
    have m1 := hp.2.1
    have m3 := hp.2.2.1
    have m4 := hp.2.2.2.1
    have m6 := hp.2.2.2.2.2.2.1
    simp only [rg, bt, lp, vp_rg, Int32.lt_iff_toInt_lt, Int32.le_iff_toInt_le, Int64.lt_iff_toInt_lt, Int64.le_iff_toInt_le, l32, sI_2, tq_0, tq_1, tq_2, tq_6, tq_8, tq_10, tq_20, tq_30, tq_40, tl_0, tl_1, tl_2, tl_3, tl_4, tl_5, tl_6, tl_8, tl_10, tl_14, tl_20, tl_24, tl_30, tl_40, tl_50, tl_60, tl_70, tl_80, tl_100, tl_120, tl_140, tl_180, tl_220, tl_240, tl_260, tl_280, tl_300, tl_540, tl_780, tl_1020, tl_1180, tl_1190, tl_1200, tl_1220, tl_m1] at *
    have t0 : (0 : Int32).toInt = 0 := tl_0
    omega)⟩
theorem vc_FMO_itemAt_mu02_25 (S : hS) (x1 : Int32) (x2 : Int32) (hp : wfM S) : ((240 - (0 : Int32).toInt).toNat) < 300 := by
    have m0 := hp.1
    have m1 := hp.2.1
    have m3 := hp.2.2.1
    have m4 := hp.2.2.2.1
    have m6 := hp.2.2.2.2.2.2.1
    simp only [rg, bt, lp, vp_rg, Int32.lt_iff_toInt_lt, Int32.le_iff_toInt_le, Int64.lt_iff_toInt_lt, Int64.le_iff_toInt_le, l32, sI_2, tq_0, tq_1, tq_2, tq_6, tq_8, tq_10, tq_20, tq_30, tq_40, tl_0, tl_1, tl_2, tl_3, tl_4, tl_5, tl_6, tl_8, tl_10, tl_14, tl_20, tl_24, tl_30, tl_40, tl_50, tl_60, tl_70, tl_80, tl_100, tl_120, tl_140, tl_180, tl_220, tl_240, tl_260, tl_280, tl_300, tl_540, tl_780, tl_1020, tl_1180, tl_1190, tl_1200, tl_1220, tl_m1] at *
    have t0 : (0 : Int32).toInt = 0 := tl_0
    omega
theorem vc_FMO_payment_pre11_1 (S : hS) (x1 : Int32) (x2 : Int64) (x4 : Int64) (x6 : Int32) (hJ : wfM S ∧ bt x6 8) : wfM S := hJ.1
theorem vc_FMO_payment_ix26_3 (S : hS) (x1 : Int32) (x2 : Int64) (x4 : Int64) (x6 : Int32) (hJ : wfM S ∧ bt x6 8) (c2 : ¬ ((FMO_isAccount S x6) = 0)) : vp_in (10 + x6) 1220 := by
    have k0 := hJ.2
    have m0 := hJ.1.1
    have m1 := hJ.1.2.1
    have m3 := hJ.1.2.2.1
    have m4 := hJ.1.2.2.2.1
    have m6 := hJ.1.2.2.2.2.2.2.1
    have k1 := acM hJ.1 c2
    simp only [rg, bt, lp, vp_rg, Int32.lt_iff_toInt_lt, Int32.le_iff_toInt_le, Int64.lt_iff_toInt_lt, Int64.le_iff_toInt_le, l32, sI_2, tq_0, tq_1, tq_2, tq_6, tq_8, tq_10, tq_20, tq_30, tq_40, tl_0, tl_1, tl_2, tl_3, tl_4, tl_5, tl_6, tl_8, tl_10, tl_14, tl_20, tl_24, tl_30, tl_40, tl_50, tl_60, tl_70, tl_80, tl_100, tl_120, tl_140, tl_180, tl_220, tl_240, tl_260, tl_280, tl_300, tl_540, tl_780, tl_1020, tl_1180, tl_1190, tl_1200, tl_1220, tl_m1] at *
    have t0 : (10 + x6).toInt = (10 + (x6).toInt) := (ti_add (a := (10 : Int32)) (b := (x6)) tl_10 rfl (by omega) (by omega))
    omega
theorem vc_FMO_payment_inv8_5 (S : hS) (x1 : Int32) (x2 : Int64) (x4 : Int64) (x6 : Int32) (hJ : wfM S ∧ bt x6 8) (c2 : ¬ ((FMO_isAccount S x6) = 0)) (c4 : ¬ ((S.2 50 ((10 + x6).toNatClampNeg)) = 0)) : wfM S ∧ bt (x6 + 1) 8 := ⟨hJ.1, (by
    have k0 := hJ.2
    have m0 := hJ.1.1
    have m1 := hJ.1.2.1
    have m3 := hJ.1.2.2.1
    have m4 := hJ.1.2.2.2.1
    have m6 := hJ.1.2.2.2.2.2.2.1
    have k1 := acM hJ.1 c2
    have k2 := ne64 c4
    simp only [rg, bt, lp, vp_rg, Int32.lt_iff_toInt_lt, Int32.le_iff_toInt_le, Int64.lt_iff_toInt_lt, Int64.le_iff_toInt_le, l32, sI_2, tq_0, tq_1, tq_2, tq_6, tq_8, tq_10, tq_20, tq_30, tq_40, tl_0, tl_1, tl_2, tl_3, tl_4, tl_5, tl_6, tl_8, tl_10, tl_14, tl_20, tl_24, tl_30, tl_40, tl_50, tl_60, tl_70, tl_80, tl_100, tl_120, tl_140, tl_180, tl_220, tl_240, tl_260, tl_280, tl_300, tl_540, tl_780, tl_1020, tl_1180, tl_1190, tl_1200, tl_1220, tl_m1] at *
    have t0 : (x6 + 1).toInt = ((x6).toInt + 1) := (ti_add (a := (x6)) (b := (1 : Int32)) rfl tl_1 (by omega) (by omega))
    omega)⟩
theorem vc_FMO_payment_mu8_6 (S : hS) (x1 : Int32) (x2 : Int64) (x4 : Int64) (x6 : Int32) (hJ : wfM S ∧ bt x6 8) (c2 : ¬ ((FMO_isAccount S x6) = 0)) (c4 : ¬ ((S.2 50 ((10 + x6).toNatClampNeg)) = 0)) : ((8 - (x6 + 1).toInt).toNat) < ((8 - x6.toInt).toNat) := by
    have k0 := hJ.2
    have m0 := hJ.1.1
    have m1 := hJ.1.2.1
    have m3 := hJ.1.2.2.1
    have m4 := hJ.1.2.2.2.1
    have m6 := hJ.1.2.2.2.2.2.2.1
    have k1 := acM hJ.1 c2
    have k2 := ne64 c4
    simp only [rg, bt, lp, vp_rg, Int32.lt_iff_toInt_lt, Int32.le_iff_toInt_le, Int64.lt_iff_toInt_lt, Int64.le_iff_toInt_le, l32, sI_2, tq_0, tq_1, tq_2, tq_6, tq_8, tq_10, tq_20, tq_30, tq_40, tl_0, tl_1, tl_2, tl_3, tl_4, tl_5, tl_6, tl_8, tl_10, tl_14, tl_20, tl_24, tl_30, tl_40, tl_50, tl_60, tl_70, tl_80, tl_100, tl_120, tl_140, tl_180, tl_220, tl_240, tl_260, tl_280, tl_300, tl_540, tl_780, tl_1020, tl_1180, tl_1190, tl_1200, tl_1220, tl_m1] at *
    have t0 : (x6 + 1).toInt = ((x6).toInt + 1) := (ti_add (a := (x6)) (b := (1 : Int32)) rfl tl_1 (by omega) (by omega))
    omega
theorem vc_FMO_payment_inv08_8 (S : hS) (x1 : Int32) (x2 : Int64) (x4 : Int64) (hp : wfM S) : wfM (sI S 49 4 0) ∧ bt (0 : Int32) 8 := ⟨(wfM_I hp), (by
    have m0 := hp.1
    have m1 := hp.2.1
    have m3 := hp.2.2.1
    have m4 := hp.2.2.2.1
    have m6 := hp.2.2.2.2.2.2.1
    simp only [rg, bt, lp, vp_rg, Int32.lt_iff_toInt_lt, Int32.le_iff_toInt_le, Int64.lt_iff_toInt_lt, Int64.le_iff_toInt_le, l32, sI_2, tq_0, tq_1, tq_2, tq_6, tq_8, tq_10, tq_20, tq_30, tq_40, tl_0, tl_1, tl_2, tl_3, tl_4, tl_5, tl_6, tl_8, tl_10, tl_14, tl_20, tl_24, tl_30, tl_40, tl_50, tl_60, tl_70, tl_80, tl_100, tl_120, tl_140, tl_180, tl_220, tl_240, tl_260, tl_280, tl_300, tl_540, tl_780, tl_1020, tl_1180, tl_1190, tl_1200, tl_1220, tl_m1] at *
    have t0 : (0 : Int32).toInt = 0 := tl_0
    omega)⟩
theorem vc_FMO_payment_mu08_9 (S : hS) (x1 : Int32) (x2 : Int64) (x4 : Int64) (hp : wfM S) : ((8 - (0 : Int32).toInt).toNat) < 300 := by
    have m0 := hp.1
    have m1 := hp.2.1
    have m3 := hp.2.2.1
    have m4 := hp.2.2.2.1
    have m6 := hp.2.2.2.2.2.2.1
    simp only [rg, bt, lp, vp_rg, Int32.lt_iff_toInt_lt, Int32.le_iff_toInt_le, Int64.lt_iff_toInt_lt, Int64.le_iff_toInt_le, l32, sI_2, tq_0, tq_1, tq_2, tq_6, tq_8, tq_10, tq_20, tq_30, tq_40, tl_0, tl_1, tl_2, tl_3, tl_4, tl_5, tl_6, tl_8, tl_10, tl_14, tl_20, tl_24, tl_30, tl_40, tl_50, tl_60, tl_70, tl_80, tl_100, tl_120, tl_140, tl_180, tl_220, tl_240, tl_260, tl_280, tl_300, tl_540, tl_780, tl_1020, tl_1180, tl_1190, tl_1200, tl_1220, tl_m1] at *
    have t0 : (0 : Int32).toInt = 0 := tl_0
    omega
theorem vc_FMO_payment_pre60_12 (S : hS) (x1 : Int32) (x2 : Int64) (x4 : Int64) (hp : wfM S) (y7_6 : Int32) (hq7 : LMO_payment_8 300 (sI S 49 4 0) x1 x2 x4 0 = y7_6) (c10 : ¬ ((FMO_isIn (sI S 49 4 0) x2 1 100000000) = 0)) (c11 : ¬ ((FMO_isDay (sI S 49 4 0) x4) = 0)) : wfM (sI S 49 4 0) := (wfM_I hp)
theorem vc_FMO_payment_pre69_14 (S : hS) (x1 : Int32) (x2 : Int64) (x4 : Int64) (hp : wfM S) (y7_6 : Int32) (hq7 : LMO_payment_8 300 (sI S 49 4 0) x1 x2 x4 0 = y7_6) (c10 : ¬ ((FMO_isIn (sI S 49 4 0) x2 1 100000000) = 0)) (c11 : ¬ ((FMO_isDay (sI S 49 4 0) x4) = 0)) (c13 : (FMO_isLate (sI S 49 4 0) x4) = 0) : wfM (sI S 49 4 0) := (wfM_I hp)
theorem vc_FMO_payment_ix80_16 (S : hS) (x1 : Int32) (x2 : Int64) (x4 : Int64) (hp : wfM S) (y7_6 : Int32) (hq7 : LMO_payment_8 300 (sI S 49 4 0) x1 x2 x4 0 = y7_6) (c10 : ¬ ((FMO_isIn (sI S 49 4 0) x2 1 100000000) = 0)) (c11 : ¬ ((FMO_isDay (sI S 49 4 0) x4) = 0)) (c13 : (FMO_isLate (sI S 49 4 0) x4) = 0) (c15 : ¬ ((FMO_isAccount (sI S 49 4 0) y7_6) = 0)) : vp_in 1 1220 := by
    have m0 := hp.1
    have m1 := hp.2.1
    have m3 := hp.2.2.1
    have m4 := hp.2.2.2.1
    have m6 := hp.2.2.2.2.2.2.1
    have k0 := acM (wfM_I hp) c15
    simp only [rg, bt, lp, vp_rg, Int32.lt_iff_toInt_lt, Int32.le_iff_toInt_le, Int64.lt_iff_toInt_lt, Int64.le_iff_toInt_le, l32, sI_2, tq_0, tq_1, tq_2, tq_6, tq_8, tq_10, tq_20, tq_30, tq_40, tl_0, tl_1, tl_2, tl_3, tl_4, tl_5, tl_6, tl_8, tl_10, tl_14, tl_20, tl_24, tl_30, tl_40, tl_50, tl_60, tl_70, tl_80, tl_100, tl_120, tl_140, tl_180, tl_220, tl_240, tl_260, tl_280, tl_300, tl_540, tl_780, tl_1020, tl_1180, tl_1190, tl_1200, tl_1220, tl_m1] at *
    have t0 : (1 : Int32).toInt = 1 := tl_1
    omega
theorem vc_FMO_payment_pre92_18 (S : hS) (x1 : Int32) (x2 : Int64) (x4 : Int64) (hp : wfM S) (y7_6 : Int32) (hq7 : LMO_payment_8 300 (sI S 49 4 0) x1 x2 x4 0 = y7_6) (c10 : ¬ ((FMO_isIn (sI S 49 4 0) x2 1 100000000) = 0)) (c11 : ¬ ((FMO_isDay (sI S 49 4 0) x4) = 0)) (c13 : (FMO_isLate (sI S 49 4 0) x4) = 0) (c15 : ¬ ((FMO_isAccount (sI S 49 4 0) y7_6) = 0)) (c17 : ¬ ((S.2 50 1) = 40)) : wfM (sI S 49 4 0) := (wfM_I hp)
theorem vc_FMO_payment_pre144_20 (S : hS) (x1 : Int32) (x2 : Int64) (x4 : Int64) (hp : wfM S) (y7_6 : Int32) (hq7 : LMO_payment_8 300 (sI S 49 4 0) x1 x2 x4 0 = y7_6) (c10 : ¬ ((FMO_isIn (sI S 49 4 0) x2 1 100000000) = 0)) (c11 : ¬ ((FMO_isDay (sI S 49 4 0) x4) = 0)) (c13 : (FMO_isLate (sI S 49 4 0) x4) = 0) (c15 : ¬ ((FMO_isAccount (sI S 49 4 0) y7_6) = 0)) (c17 : ¬ ((S.2 50 1) = 40)) (c19 : ¬ ((FMO_isHousehold (sI S 49 4 0) x1) = 0)) : wfM (sI S 49 4 0) ∧ ((sI S 49 4 0).2 50 1).toInt < 40 := ⟨(wfM_I hp), (by
    have m0 := hp.1
    have m1 := hp.2.1
    have m3 := hp.2.2.1
    have m4 := hp.2.2.2.1
    have m6 := hp.2.2.2.2.2.2.1
    have k0 := acM (wfM_I hp) c15
    have k1 := hhM (wfM_I hp) c19
    have k2 := ne64 c17
    simp only [rg, bt, lp, vp_rg, Int32.lt_iff_toInt_lt, Int32.le_iff_toInt_le, Int64.lt_iff_toInt_lt, Int64.le_iff_toInt_le, l32, sI_2, tq_0, tq_1, tq_2, tq_6, tq_8, tq_10, tq_20, tq_30, tq_40, tl_0, tl_1, tl_2, tl_3, tl_4, tl_5, tl_6, tl_8, tl_10, tl_14, tl_20, tl_24, tl_30, tl_40, tl_50, tl_60, tl_70, tl_80, tl_100, tl_120, tl_140, tl_180, tl_220, tl_240, tl_260, tl_280, tl_300, tl_540, tl_780, tl_1020, tl_1180, tl_1190, tl_1200, tl_1220, tl_m1] at *
    omega)⟩
theorem vc_FMO_payment_pre155_22 (S : hS) (x1 : Int32) (x2 : Int64) (x4 : Int64) (hp : wfM S) (y7_6 : Int32) (hq7 : LMO_payment_8 300 (sI S 49 4 0) x1 x2 x4 0 = y7_6) (c10 : ¬ ((FMO_isIn (sI S 49 4 0) x2 1 100000000) = 0)) (c11 : ¬ ((FMO_isDay (sI S 49 4 0) x4) = 0)) (c13 : (FMO_isLate (sI S 49 4 0) x4) = 0) (c15 : ¬ ((FMO_isAccount (sI S 49 4 0) y7_6) = 0)) (c17 : ¬ ((S.2 50 1) = 40)) (c19 : ¬ ((FMO_isHousehold (sI S 49 4 0) x1) = 0)) (v21 : Int32) (S21 : hS) (hq21 : FMO_addEntry (sI S 49 4 0) x4 1 = (v21, S21)) : wfM S21 ∧ rg v21 40 ∧ (S21.2 50 (260 + v21).toNatClampNeg).toInt < 6 := (payM (wfM_I hp) (by
    have m0 := hp.1
    have m1 := hp.2.1
    have m3 := hp.2.2.1
    have m4 := hp.2.2.2.1
    have m6 := hp.2.2.2.2.2.2.1
    have k0 := acM (wfM_I hp) c15
    have k1 := hhM (wfM_I hp) c19
    have k2 := ne64 c17
    simp only [rg, bt, lp, vp_rg, Int32.lt_iff_toInt_lt, Int32.le_iff_toInt_le, Int64.lt_iff_toInt_lt, Int64.le_iff_toInt_le, l32, sI_2, tq_0, tq_1, tq_2, tq_6, tq_8, tq_10, tq_20, tq_30, tq_40, tl_0, tl_1, tl_2, tl_3, tl_4, tl_5, tl_6, tl_8, tl_10, tl_14, tl_20, tl_24, tl_30, tl_40, tl_50, tl_60, tl_70, tl_80, tl_100, tl_120, tl_140, tl_180, tl_220, tl_240, tl_260, tl_280, tl_300, tl_540, tl_780, tl_1020, tl_1180, tl_1190, tl_1200, tl_1220, tl_m1] at *
    omega) (c := x2) hq21 (acM (wfM_I hp) c15) (hhM (wfM_I hp) c19)).1
theorem vc_FMO_payment_pre164_23 (S : hS) (x1 : Int32) (x2 : Int64) (x4 : Int64) (hp : wfM S) (y7_6 : Int32) (hq7 : LMO_payment_8 300 (sI S 49 4 0) x1 x2 x4 0 = y7_6) (c10 : ¬ ((FMO_isIn (sI S 49 4 0) x2 1 100000000) = 0)) (c11 : ¬ ((FMO_isDay (sI S 49 4 0) x4) = 0)) (c13 : (FMO_isLate (sI S 49 4 0) x4) = 0) (c15 : ¬ ((FMO_isAccount (sI S 49 4 0) y7_6) = 0)) (c17 : ¬ ((S.2 50 1) = 40)) (c19 : ¬ ((FMO_isHousehold (sI S 49 4 0) x1) = 0)) (v21 : Int32) (S21 : hS) (hq21 : FMO_addEntry (sI S 49 4 0) x4 1 = (v21, S21)) : wfM (FMO_addRow S21 v21 y7_6 x2) ∧ rg v21 40 ∧ ((FMO_addRow S21 v21 y7_6 x2).2 50 (260 + v21).toNatClampNeg).toInt < 6 := (payM (wfM_I hp) (by
    have m0 := hp.1
    have m1 := hp.2.1
    have m3 := hp.2.2.1
    have m4 := hp.2.2.2.1
    have m6 := hp.2.2.2.2.2.2.1
    have k0 := acM (wfM_I hp) c15
    have k1 := hhM (wfM_I hp) c19
    have k2 := ne64 c17
    simp only [rg, bt, lp, vp_rg, Int32.lt_iff_toInt_lt, Int32.le_iff_toInt_le, Int64.lt_iff_toInt_lt, Int64.le_iff_toInt_le, l32, sI_2, tq_0, tq_1, tq_2, tq_6, tq_8, tq_10, tq_20, tq_30, tq_40, tl_0, tl_1, tl_2, tl_3, tl_4, tl_5, tl_6, tl_8, tl_10, tl_14, tl_20, tl_24, tl_30, tl_40, tl_50, tl_60, tl_70, tl_80, tl_100, tl_120, tl_140, tl_180, tl_220, tl_240, tl_260, tl_280, tl_300, tl_540, tl_780, tl_1020, tl_1180, tl_1190, tl_1200, tl_1220, tl_m1] at *
    omega) (c := x2) hq21 (acM (wfM_I hp) c15) (hhM (wfM_I hp) c19)).2.1
theorem vc_FMO_payment_ix178_24 (S : hS) (x1 : Int32) (x2 : Int64) (x4 : Int64) (hp : wfM S) (y7_6 : Int32) (hq7 : LMO_payment_8 300 (sI S 49 4 0) x1 x2 x4 0 = y7_6) (c10 : ¬ ((FMO_isIn (sI S 49 4 0) x2 1 100000000) = 0)) (c11 : ¬ ((FMO_isDay (sI S 49 4 0) x4) = 0)) (c13 : (FMO_isLate (sI S 49 4 0) x4) = 0) (c15 : ¬ ((FMO_isAccount (sI S 49 4 0) y7_6) = 0)) (c17 : ¬ ((S.2 50 1) = 40)) (c19 : ¬ ((FMO_isHousehold (sI S 49 4 0) x1) = 0)) (v21 : Int32) (S21 : hS) (hq21 : FMO_addEntry (sI S 49 4 0) x4 1 = (v21, S21)) : vp_in (140 + v21) 1220 := in140 (payM (wfM_I hp) (by
    have m0 := hp.1
    have m1 := hp.2.1
    have m3 := hp.2.2.1
    have m4 := hp.2.2.2.1
    have m6 := hp.2.2.2.2.2.2.1
    have k0 := acM (wfM_I hp) c15
    have k1 := hhM (wfM_I hp) c19
    have k2 := ne64 c17
    simp only [rg, bt, lp, vp_rg, Int32.lt_iff_toInt_lt, Int32.le_iff_toInt_le, Int64.lt_iff_toInt_lt, Int64.le_iff_toInt_le, l32, sI_2, tq_0, tq_1, tq_2, tq_6, tq_8, tq_10, tq_20, tq_30, tq_40, tl_0, tl_1, tl_2, tl_3, tl_4, tl_5, tl_6, tl_8, tl_10, tl_14, tl_20, tl_24, tl_30, tl_40, tl_50, tl_60, tl_70, tl_80, tl_100, tl_120, tl_140, tl_180, tl_220, tl_240, tl_260, tl_280, tl_300, tl_540, tl_780, tl_1020, tl_1180, tl_1190, tl_1200, tl_1220, tl_m1] at *
    omega) (c := x2) hq21 (acM (wfM_I hp) c15) (hhM (wfM_I hp) c19)).1.2.1
theorem vc_FMO_payment_pre189_25 (S : hS) (x1 : Int32) (x2 : Int64) (x4 : Int64) (x6 : Int32) (x7 : Int32) (x8 : Int64) (x10 : Int32) (hJ : wfM S ∧ bt x10 241 ∧ rg x7 40) : wfM S := hJ.1
theorem vc_FMO_payment_pre199_27 (S : hS) (x1 : Int32) (x2 : Int64) (x4 : Int64) (x6 : Int32) (x7 : Int32) (x8 : Int64) (x10 : Int32) (hJ : wfM S ∧ bt x10 241 ∧ rg x7 40) (c26 : ¬ ((FMO_itemAt S x1 x10) < 0)) : wfM S := hJ.1
theorem vc_FMO_payment_ix216_28 (S : hS) (x1 : Int32) (x2 : Int64) (x4 : Int64) (x6 : Int32) (x7 : Int32) (x8 : Int64) (x10 : Int32) (hJ : wfM S ∧ bt x10 241 ∧ rg x7 40) (c26 : ¬ ((FMO_itemAt S x1 x10) < 0)) : vp_in (780 + (FMO_itemAt S x1 x10)) 1220 := by
    have k0 := hJ.2.1
    have k1 := hJ.2.2
    have m0 := hJ.1.1
    have m1 := hJ.1.2.1
    have m3 := hJ.1.2.2.1
    have m4 := hJ.1.2.2.2.1
    have m6 := hJ.1.2.2.2.2.2.2.1
    have k2 := itM hJ.1 c26
    simp only [rg, bt, lp, vp_rg, Int32.lt_iff_toInt_lt, Int32.le_iff_toInt_le, Int64.lt_iff_toInt_lt, Int64.le_iff_toInt_le, l32, sI_2, tq_0, tq_1, tq_2, tq_6, tq_8, tq_10, tq_20, tq_30, tq_40, tl_0, tl_1, tl_2, tl_3, tl_4, tl_5, tl_6, tl_8, tl_10, tl_14, tl_20, tl_24, tl_30, tl_40, tl_50, tl_60, tl_70, tl_80, tl_100, tl_120, tl_140, tl_180, tl_220, tl_240, tl_260, tl_280, tl_300, tl_540, tl_780, tl_1020, tl_1180, tl_1190, tl_1200, tl_1220, tl_m1] at *
    have t0 : (780 + (FMO_itemAt S x1 x10)).toInt = (780 + (FMO_itemAt S x1 x10).toInt) := (ti_add (a := (780 : Int32)) (b := (FMO_itemAt S x1 x10)) tl_780 rfl (by omega) (by omega))
    omega
theorem vc_FMO_payment_ix236_30 (S : hS) (x1 : Int32) (x2 : Int64) (x4 : Int64) (x6 : Int32) (x7 : Int32) (x8 : Int64) (x10 : Int32) (hJ : wfM S ∧ bt x10 241 ∧ rg x7 40) (c26 : ¬ ((FMO_itemAt S x1 x10) < 0)) (c29 : (S.2 50 ((780 + (FMO_itemAt S x1 x10)).toNatClampNeg)) ≤ x8) : vp_in (780 + (FMO_itemAt S x1 x10)) 1220 := by
    have k0 := hJ.2.1
    have k1 := hJ.2.2
    have m0 := hJ.1.1
    have m1 := hJ.1.2.1
    have m3 := hJ.1.2.2.1
    have m4 := hJ.1.2.2.2.1
    have m6 := hJ.1.2.2.2.2.2.2.1
    have k2 := itM hJ.1 c26
    simp only [rg, bt, lp, vp_rg, Int32.lt_iff_toInt_lt, Int32.le_iff_toInt_le, Int64.lt_iff_toInt_lt, Int64.le_iff_toInt_le, l32, sI_2, tq_0, tq_1, tq_2, tq_6, tq_8, tq_10, tq_20, tq_30, tq_40, tl_0, tl_1, tl_2, tl_3, tl_4, tl_5, tl_6, tl_8, tl_10, tl_14, tl_20, tl_24, tl_30, tl_40, tl_50, tl_60, tl_70, tl_80, tl_100, tl_120, tl_140, tl_180, tl_220, tl_240, tl_260, tl_280, tl_300, tl_540, tl_780, tl_1020, tl_1180, tl_1190, tl_1200, tl_1220, tl_m1] at *
    have t0 : (780 + (FMO_itemAt S x1 x10)).toInt = (780 + (FMO_itemAt S x1 x10).toInt) := (ti_add (a := (780 : Int32)) (b := (FMO_itemAt S x1 x10)) tl_780 rfl (by omega) (by omega))
    omega
theorem vc_FMO_payment_inv185_32 (S : hS) (x1 : Int32) (x2 : Int64) (x4 : Int64) (x6 : Int32) (x7 : Int32) (x8 : Int64) (x10 : Int32) (hJ : wfM S ∧ bt x10 241 ∧ rg x7 40) (c26 : ¬ ((FMO_itemAt S x1 x10) < 0)) (c29 : (S.2 50 ((780 + (FMO_itemAt S x1 x10)).toNatClampNeg)) ≤ x8) (c31 : (S.2 50 ((780 + (FMO_itemAt S x1 x10)).toNatClampNeg)) ≤ 0) : wfM S ∧ bt (x10 + 1) 241 ∧ rg x7 40 := ⟨hJ.1, (by
    have k0 := hJ.2.1
    have k1 := hJ.2.2
    have m0 := hJ.1.1
    have m1 := hJ.1.2.1
    have m3 := hJ.1.2.2.1
    have m4 := hJ.1.2.2.2.1
    have m6 := hJ.1.2.2.2.2.2.2.1
    have k2 := itM hJ.1 c26
    simp only [rg, bt, lp, vp_rg, Int32.lt_iff_toInt_lt, Int32.le_iff_toInt_le, Int64.lt_iff_toInt_lt, Int64.le_iff_toInt_le, l32, sI_2, tq_0, tq_1, tq_2, tq_6, tq_8, tq_10, tq_20, tq_30, tq_40, tl_0, tl_1, tl_2, tl_3, tl_4, tl_5, tl_6, tl_8, tl_10, tl_14, tl_20, tl_24, tl_30, tl_40, tl_50, tl_60, tl_70, tl_80, tl_100, tl_120, tl_140, tl_180, tl_220, tl_240, tl_260, tl_280, tl_300, tl_540, tl_780, tl_1020, tl_1180, tl_1190, tl_1200, tl_1220, tl_m1] at *
    have t0 : (x10 + 1).toInt = ((x10).toInt + 1) := (ti_add (a := (x10)) (b := (1 : Int32)) rfl tl_1 (by omega) (by omega))
    omega), hJ.2.2⟩
theorem vc_FMO_payment_mu185_33 (S : hS) (x1 : Int32) (x2 : Int64) (x4 : Int64) (x6 : Int32) (x7 : Int32) (x8 : Int64) (x10 : Int32) (hJ : wfM S ∧ bt x10 241 ∧ rg x7 40) (c26 : ¬ ((FMO_itemAt S x1 x10) < 0)) (c29 : (S.2 50 ((780 + (FMO_itemAt S x1 x10)).toNatClampNeg)) ≤ x8) (c31 : (S.2 50 ((780 + (FMO_itemAt S x1 x10)).toNatClampNeg)) ≤ 0) : ((241 - (x10 + 1).toInt).toNat) < ((241 - x10.toInt).toNat) := by
    have k0 := hJ.2.1
    have k1 := hJ.2.2
    have m0 := hJ.1.1
    have m1 := hJ.1.2.1
    have m3 := hJ.1.2.2.1
    have m4 := hJ.1.2.2.2.1
    have m6 := hJ.1.2.2.2.2.2.2.1
    have k2 := itM hJ.1 c26
    simp only [rg, bt, lp, vp_rg, Int32.lt_iff_toInt_lt, Int32.le_iff_toInt_le, Int64.lt_iff_toInt_lt, Int64.le_iff_toInt_le, l32, sI_2, tq_0, tq_1, tq_2, tq_6, tq_8, tq_10, tq_20, tq_30, tq_40, tl_0, tl_1, tl_2, tl_3, tl_4, tl_5, tl_6, tl_8, tl_10, tl_14, tl_20, tl_24, tl_30, tl_40, tl_50, tl_60, tl_70, tl_80, tl_100, tl_120, tl_140, tl_180, tl_220, tl_240, tl_260, tl_280, tl_300, tl_540, tl_780, tl_1020, tl_1180, tl_1190, tl_1200, tl_1220, tl_m1] at *
    have t0 : (x10 + 1).toInt = ((x10).toInt + 1) := (ti_add (a := (x10)) (b := (1 : Int32)) rfl tl_1 (by omega) (by omega))
    omega
theorem vc_FMO_payment_ix257_34 (S : hS) (x1 : Int32) (x2 : Int64) (x4 : Int64) (x6 : Int32) (x7 : Int32) (x8 : Int64) (x10 : Int32) (hJ : wfM S ∧ bt x10 241 ∧ rg x7 40) (c26 : ¬ ((FMO_itemAt S x1 x10) < 0)) (c29 : (S.2 50 ((780 + (FMO_itemAt S x1 x10)).toNatClampNeg)) ≤ x8) (c31 : ¬ ((S.2 50 ((780 + (FMO_itemAt S x1 x10)).toNatClampNeg)) ≤ 0)) : vp_in (780 + (FMO_itemAt S x1 x10)) 1220 := by
    have k0 := hJ.2.1
    have k1 := hJ.2.2
    have m0 := hJ.1.1
    have m1 := hJ.1.2.1
    have m3 := hJ.1.2.2.1
    have m4 := hJ.1.2.2.2.1
    have m6 := hJ.1.2.2.2.2.2.2.1
    have k2 := itM hJ.1 c26
    simp only [rg, bt, lp, vp_rg, Int32.lt_iff_toInt_lt, Int32.le_iff_toInt_le, Int64.lt_iff_toInt_lt, Int64.le_iff_toInt_le, l32, sI_2, tq_0, tq_1, tq_2, tq_6, tq_8, tq_10, tq_20, tq_30, tq_40, tl_0, tl_1, tl_2, tl_3, tl_4, tl_5, tl_6, tl_8, tl_10, tl_14, tl_20, tl_24, tl_30, tl_40, tl_50, tl_60, tl_70, tl_80, tl_100, tl_120, tl_140, tl_180, tl_220, tl_240, tl_260, tl_280, tl_300, tl_540, tl_780, tl_1020, tl_1180, tl_1190, tl_1200, tl_1220, tl_m1] at *
    have t0 : (780 + (FMO_itemAt S x1 x10)).toInt = (780 + (FMO_itemAt S x1 x10).toInt) := (ti_add (a := (780 : Int32)) (b := (FMO_itemAt S x1 x10)) tl_780 rfl (by omega) (by omega))
    omega
theorem vc_FMO_payment_ix261_35 (S : hS) (x1 : Int32) (x2 : Int64) (x4 : Int64) (x6 : Int32) (x7 : Int32) (x8 : Int64) (x10 : Int32) (hJ : wfM S ∧ bt x10 241 ∧ rg x7 40) (c26 : ¬ ((FMO_itemAt S x1 x10) < 0)) (c29 : (S.2 50 ((780 + (FMO_itemAt S x1 x10)).toNatClampNeg)) ≤ x8) (c31 : ¬ ((S.2 50 ((780 + (FMO_itemAt S x1 x10)).toNatClampNeg)) ≤ 0)) : vp_in (780 + (FMO_itemAt S x1 x10)) 1220 := by
    have k0 := hJ.2.1
    have k1 := hJ.2.2
    have m0 := hJ.1.1
    have m1 := hJ.1.2.1
    have m3 := hJ.1.2.2.1
    have m4 := hJ.1.2.2.2.1
    have m6 := hJ.1.2.2.2.2.2.2.1
    have k2 := itM hJ.1 c26
    simp only [rg, bt, lp, vp_rg, Int32.lt_iff_toInt_lt, Int32.le_iff_toInt_le, Int64.lt_iff_toInt_lt, Int64.le_iff_toInt_le, l32, sI_2, tq_0, tq_1, tq_2, tq_6, tq_8, tq_10, tq_20, tq_30, tq_40, tl_0, tl_1, tl_2, tl_3, tl_4, tl_5, tl_6, tl_8, tl_10, tl_14, tl_20, tl_24, tl_30, tl_40, tl_50, tl_60, tl_70, tl_80, tl_100, tl_120, tl_140, tl_180, tl_220, tl_240, tl_260, tl_280, tl_300, tl_540, tl_780, tl_1020, tl_1180, tl_1190, tl_1200, tl_1220, tl_m1] at *
    have t0 : (780 + (FMO_itemAt S x1 x10)).toInt = (780 + (FMO_itemAt S x1 x10).toInt) := (ti_add (a := (780 : Int32)) (b := (FMO_itemAt S x1 x10)) tl_780 rfl (by omega) (by omega))
    omega
theorem vc_FMO_payment_ix288_36 (S : hS) (x1 : Int32) (x2 : Int64) (x4 : Int64) (x6 : Int32) (x7 : Int32) (x8 : Int64) (x10 : Int32) (hJ : wfM S ∧ bt x10 241 ∧ rg x7 40) (c26 : ¬ ((FMO_itemAt S x1 x10) < 0)) (c29 : (S.2 50 ((780 + (FMO_itemAt S x1 x10)).toNatClampNeg)) ≤ x8) (c31 : ¬ ((S.2 50 ((780 + (FMO_itemAt S x1 x10)).toNatClampNeg)) ≤ 0)) : vp_in ((1020 + (4 * x7)) + ((FMO_itemAt S x1 x10) / 60)) 1220 := by
    have k0 := hJ.2.1
    have k1 := hJ.2.2
    have m0 := hJ.1.1
    have m1 := hJ.1.2.1
    have m3 := hJ.1.2.2.1
    have m4 := hJ.1.2.2.2.1
    have m6 := hJ.1.2.2.2.2.2.2.1
    have k2 := itM hJ.1 c26
    simp only [rg, bt, lp, vp_rg, Int32.lt_iff_toInt_lt, Int32.le_iff_toInt_le, Int64.lt_iff_toInt_lt, Int64.le_iff_toInt_le, l32, sI_2, tq_0, tq_1, tq_2, tq_6, tq_8, tq_10, tq_20, tq_30, tq_40, tl_0, tl_1, tl_2, tl_3, tl_4, tl_5, tl_6, tl_8, tl_10, tl_14, tl_20, tl_24, tl_30, tl_40, tl_50, tl_60, tl_70, tl_80, tl_100, tl_120, tl_140, tl_180, tl_220, tl_240, tl_260, tl_280, tl_300, tl_540, tl_780, tl_1020, tl_1180, tl_1190, tl_1200, tl_1220, tl_m1] at *
    have t0 : ((1020 + (4 * x7)) + ((FMO_itemAt S x1 x10) / 60)).toInt = ((1020 + (4 * (x7).toInt)) + ((FMO_itemAt S x1 x10).toInt / 60)) := (ti_add (a := (1020 + (4 * x7))) (b := ((FMO_itemAt S x1 x10) / 60)) (ti_add (a := (1020 : Int32)) (b := (4 * x7)) tl_1020 (ti_mul (a := (4 : Int32)) (b := (x7)) tl_4 rfl (by omega) (by omega)) (by omega) (by omega)) (ti_div (a := (FMO_itemAt S x1 x10)) (b := (60 : Int32)) rfl tl_60 (by omega) (by omega)) (by omega) (by omega))
    omega
theorem vc_FMO_payment_ix297_37 (S : hS) (x1 : Int32) (x2 : Int64) (x4 : Int64) (x6 : Int32) (x7 : Int32) (x8 : Int64) (x10 : Int32) (hJ : wfM S ∧ bt x10 241 ∧ rg x7 40) (c26 : ¬ ((FMO_itemAt S x1 x10) < 0)) (c29 : (S.2 50 ((780 + (FMO_itemAt S x1 x10)).toNatClampNeg)) ≤ x8) (c31 : ¬ ((S.2 50 ((780 + (FMO_itemAt S x1 x10)).toNatClampNeg)) ≤ 0)) : vp_in ((1020 + (4 * x7)) + ((FMO_itemAt S x1 x10) / 60)) 1220 := by
    have k0 := hJ.2.1
    have k1 := hJ.2.2
    have m0 := hJ.1.1
    have m1 := hJ.1.2.1
    have m3 := hJ.1.2.2.1
    have m4 := hJ.1.2.2.2.1
    have m6 := hJ.1.2.2.2.2.2.2.1
    have k2 := itM hJ.1 c26
    simp only [rg, bt, lp, vp_rg, Int32.lt_iff_toInt_lt, Int32.le_iff_toInt_le, Int64.lt_iff_toInt_lt, Int64.le_iff_toInt_le, l32, sI_2, tq_0, tq_1, tq_2, tq_6, tq_8, tq_10, tq_20, tq_30, tq_40, tl_0, tl_1, tl_2, tl_3, tl_4, tl_5, tl_6, tl_8, tl_10, tl_14, tl_20, tl_24, tl_30, tl_40, tl_50, tl_60, tl_70, tl_80, tl_100, tl_120, tl_140, tl_180, tl_220, tl_240, tl_260, tl_280, tl_300, tl_540, tl_780, tl_1020, tl_1180, tl_1190, tl_1200, tl_1220, tl_m1] at *
    have t0 : ((1020 + (4 * x7)) + ((FMO_itemAt S x1 x10) / 60)).toInt = ((1020 + (4 * (x7).toInt)) + ((FMO_itemAt S x1 x10).toInt / 60)) := (ti_add (a := (1020 + (4 * x7))) (b := ((FMO_itemAt S x1 x10) / 60)) (ti_add (a := (1020 : Int32)) (b := (4 * x7)) tl_1020 (ti_mul (a := (4 : Int32)) (b := (x7)) tl_4 rfl (by omega) (by omega)) (by omega) (by omega)) (ti_div (a := (FMO_itemAt S x1 x10)) (b := (60 : Int32)) rfl tl_60 (by omega) (by omega)) (by omega) (by omega))
    omega
theorem vc_FMO_payment_inv185_38 (S : hS) (x1 : Int32) (x2 : Int64) (x4 : Int64) (x6 : Int32) (x7 : Int32) (x8 : Int64) (x10 : Int32) (hJ : wfM S ∧ bt x10 241 ∧ rg x7 40) (c26 : ¬ ((FMO_itemAt S x1 x10) < 0)) (c29 : (S.2 50 ((780 + (FMO_itemAt S x1 x10)).toNatClampNeg)) ≤ x8) (c31 : ¬ ((S.2 50 ((780 + (FMO_itemAt S x1 x10)).toNatClampNeg)) ≤ 0)) : wfM (sL (sL S 50 ((780 + (FMO_itemAt S x1 x10)).toNatClampNeg) ((S.2 50 ((780 + (FMO_itemAt S x1 x10)).toNatClampNeg)) - (S.2 50 ((780 + (FMO_itemAt S x1 x10)).toNatClampNeg)))) 50 (((1020 + (4 * x7)) + ((FMO_itemAt S x1 x10) / 60)).toNatClampNeg) (((sL S 50 ((780 + (FMO_itemAt S x1 x10)).toNatClampNeg) ((S.2 50 ((780 + (FMO_itemAt S x1 x10)).toNatClampNeg)) - (S.2 50 ((780 + (FMO_itemAt S x1 x10)).toNatClampNeg)))).2 50 (((1020 + (4 * x7)) + ((FMO_itemAt S x1 x10) / 60)).toNatClampNeg)) ||| (1 <<< (((FMO_itemAt S x1 x10) - (FMO_itemAt S x1 x10) / 60 * 60).toInt64 &&& 63)))) ∧ bt (x10 + 1) 241 ∧ rg x7 40 := ⟨(wfM_L (wfM_L hJ.1 (by
    have k0 := hJ.2.1
    have k1 := hJ.2.2
    have m0 := hJ.1.1
    have m1 := hJ.1.2.1
    have m3 := hJ.1.2.2.1
    have m4 := hJ.1.2.2.2.1
    have m6 := hJ.1.2.2.2.2.2.2.1
    have k2 := itM hJ.1 c26
    simp only [rg, bt, lp, vp_rg, Int32.lt_iff_toInt_lt, Int32.le_iff_toInt_le, Int64.lt_iff_toInt_lt, Int64.le_iff_toInt_le, l32, sI_2, tq_0, tq_1, tq_2, tq_6, tq_8, tq_10, tq_20, tq_30, tq_40, tl_0, tl_1, tl_2, tl_3, tl_4, tl_5, tl_6, tl_8, tl_10, tl_14, tl_20, tl_24, tl_30, tl_40, tl_50, tl_60, tl_70, tl_80, tl_100, tl_120, tl_140, tl_180, tl_220, tl_240, tl_260, tl_280, tl_300, tl_540, tl_780, tl_1020, tl_1180, tl_1190, tl_1200, tl_1220, tl_m1] at *
    have t : (780 + (FMO_itemAt S x1 x10)).toInt = (780 + (FMO_itemAt S x1 x10).toInt) := (ti_add (a := (780 : Int32)) (b := (FMO_itemAt S x1 x10)) tl_780 rfl (by omega) (by omega))
    have u := cl_toInt (x := (780 + (FMO_itemAt S x1 x10))) (by omega)
    omega)) (by
    have k0 := hJ.2.1
    have k1 := hJ.2.2
    have m0 := hJ.1.1
    have m1 := hJ.1.2.1
    have m3 := hJ.1.2.2.1
    have m4 := hJ.1.2.2.2.1
    have m6 := hJ.1.2.2.2.2.2.2.1
    have k2 := itM hJ.1 c26
    simp only [rg, bt, lp, vp_rg, Int32.lt_iff_toInt_lt, Int32.le_iff_toInt_le, Int64.lt_iff_toInt_lt, Int64.le_iff_toInt_le, l32, sI_2, tq_0, tq_1, tq_2, tq_6, tq_8, tq_10, tq_20, tq_30, tq_40, tl_0, tl_1, tl_2, tl_3, tl_4, tl_5, tl_6, tl_8, tl_10, tl_14, tl_20, tl_24, tl_30, tl_40, tl_50, tl_60, tl_70, tl_80, tl_100, tl_120, tl_140, tl_180, tl_220, tl_240, tl_260, tl_280, tl_300, tl_540, tl_780, tl_1020, tl_1180, tl_1190, tl_1200, tl_1220, tl_m1] at *
    have t : ((1020 + (4 * x7)) + ((FMO_itemAt S x1 x10) / 60)).toInt = ((1020 + (4 * (x7).toInt)) + ((FMO_itemAt S x1 x10).toInt / 60)) := (ti_add (a := (1020 + (4 * x7))) (b := ((FMO_itemAt S x1 x10) / 60)) (ti_add (a := (1020 : Int32)) (b := (4 * x7)) tl_1020 (ti_mul (a := (4 : Int32)) (b := (x7)) tl_4 rfl (by omega) (by omega)) (by omega) (by omega)) (ti_div (a := (FMO_itemAt S x1 x10)) (b := (60 : Int32)) rfl tl_60 (by omega) (by omega)) (by omega) (by omega))
    have u := cl_toInt (x := ((1020 + (4 * x7)) + ((FMO_itemAt S x1 x10) / 60))) (by omega)
    omega)), (by
    have k0 := hJ.2.1
    have k1 := hJ.2.2
    have m0 := hJ.1.1
    have m1 := hJ.1.2.1
    have m3 := hJ.1.2.2.1
    have m4 := hJ.1.2.2.2.1
    have m6 := hJ.1.2.2.2.2.2.2.1
    have k2 := itM hJ.1 c26
    simp only [rg, bt, lp, vp_rg, Int32.lt_iff_toInt_lt, Int32.le_iff_toInt_le, Int64.lt_iff_toInt_lt, Int64.le_iff_toInt_le, l32, sI_2, tq_0, tq_1, tq_2, tq_6, tq_8, tq_10, tq_20, tq_30, tq_40, tl_0, tl_1, tl_2, tl_3, tl_4, tl_5, tl_6, tl_8, tl_10, tl_14, tl_20, tl_24, tl_30, tl_40, tl_50, tl_60, tl_70, tl_80, tl_100, tl_120, tl_140, tl_180, tl_220, tl_240, tl_260, tl_280, tl_300, tl_540, tl_780, tl_1020, tl_1180, tl_1190, tl_1200, tl_1220, tl_m1] at *
    have t0 : (x10 + 1).toInt = ((x10).toInt + 1) := (ti_add (a := (x10)) (b := (1 : Int32)) rfl tl_1 (by omega) (by omega))
    omega), hJ.2.2⟩
theorem vc_FMO_payment_mu185_39 (S : hS) (x1 : Int32) (x2 : Int64) (x4 : Int64) (x6 : Int32) (x7 : Int32) (x8 : Int64) (x10 : Int32) (hJ : wfM S ∧ bt x10 241 ∧ rg x7 40) (c26 : ¬ ((FMO_itemAt S x1 x10) < 0)) (c29 : (S.2 50 ((780 + (FMO_itemAt S x1 x10)).toNatClampNeg)) ≤ x8) (c31 : ¬ ((S.2 50 ((780 + (FMO_itemAt S x1 x10)).toNatClampNeg)) ≤ 0)) : ((241 - (x10 + 1).toInt).toNat) < ((241 - x10.toInt).toNat) := by
    have k0 := hJ.2.1
    have k1 := hJ.2.2
    have m0 := hJ.1.1
    have m1 := hJ.1.2.1
    have m3 := hJ.1.2.2.1
    have m4 := hJ.1.2.2.2.1
    have m6 := hJ.1.2.2.2.2.2.2.1
    have k2 := itM hJ.1 c26
    simp only [rg, bt, lp, vp_rg, Int32.lt_iff_toInt_lt, Int32.le_iff_toInt_le, Int64.lt_iff_toInt_lt, Int64.le_iff_toInt_le, l32, sI_2, tq_0, tq_1, tq_2, tq_6, tq_8, tq_10, tq_20, tq_30, tq_40, tl_0, tl_1, tl_2, tl_3, tl_4, tl_5, tl_6, tl_8, tl_10, tl_14, tl_20, tl_24, tl_30, tl_40, tl_50, tl_60, tl_70, tl_80, tl_100, tl_120, tl_140, tl_180, tl_220, tl_240, tl_260, tl_280, tl_300, tl_540, tl_780, tl_1020, tl_1180, tl_1190, tl_1200, tl_1220, tl_m1] at *
    have t0 : (x10 + 1).toInt = ((x10).toInt + 1) := (ti_add (a := (x10)) (b := (1 : Int32)) rfl tl_1 (by omega) (by omega))
    omega
theorem vc_FMO_payment_inv185_41 (S : hS) (x1 : Int32) (x2 : Int64) (x4 : Int64) (x6 : Int32) (x7 : Int32) (x8 : Int64) (x10 : Int32) (hJ : wfM S ∧ bt x10 241 ∧ rg x7 40) (c26 : ¬ ((FMO_itemAt S x1 x10) < 0)) (c29 : ¬ ((S.2 50 ((780 + (FMO_itemAt S x1 x10)).toNatClampNeg)) ≤ x8)) (c40 : x8 ≤ 0) : wfM S ∧ bt (x10 + 1) 241 ∧ rg x7 40 := ⟨hJ.1, (by
    have k0 := hJ.2.1
    have k1 := hJ.2.2
    have m0 := hJ.1.1
    have m1 := hJ.1.2.1
    have m3 := hJ.1.2.2.1
    have m4 := hJ.1.2.2.2.1
    have m6 := hJ.1.2.2.2.2.2.2.1
    have k2 := itM hJ.1 c26
    simp only [rg, bt, lp, vp_rg, Int32.lt_iff_toInt_lt, Int32.le_iff_toInt_le, Int64.lt_iff_toInt_lt, Int64.le_iff_toInt_le, l32, sI_2, tq_0, tq_1, tq_2, tq_6, tq_8, tq_10, tq_20, tq_30, tq_40, tl_0, tl_1, tl_2, tl_3, tl_4, tl_5, tl_6, tl_8, tl_10, tl_14, tl_20, tl_24, tl_30, tl_40, tl_50, tl_60, tl_70, tl_80, tl_100, tl_120, tl_140, tl_180, tl_220, tl_240, tl_260, tl_280, tl_300, tl_540, tl_780, tl_1020, tl_1180, tl_1190, tl_1200, tl_1220, tl_m1] at *
    have t0 : (x10 + 1).toInt = ((x10).toInt + 1) := (ti_add (a := (x10)) (b := (1 : Int32)) rfl tl_1 (by omega) (by omega))
    omega), hJ.2.2⟩
theorem vc_FMO_payment_mu185_42 (S : hS) (x1 : Int32) (x2 : Int64) (x4 : Int64) (x6 : Int32) (x7 : Int32) (x8 : Int64) (x10 : Int32) (hJ : wfM S ∧ bt x10 241 ∧ rg x7 40) (c26 : ¬ ((FMO_itemAt S x1 x10) < 0)) (c29 : ¬ ((S.2 50 ((780 + (FMO_itemAt S x1 x10)).toNatClampNeg)) ≤ x8)) (c40 : x8 ≤ 0) : ((241 - (x10 + 1).toInt).toNat) < ((241 - x10.toInt).toNat) := by
    have k0 := hJ.2.1
    have k1 := hJ.2.2
    have m0 := hJ.1.1
    have m1 := hJ.1.2.1
    have m3 := hJ.1.2.2.1
    have m4 := hJ.1.2.2.2.1
    have m6 := hJ.1.2.2.2.2.2.2.1
    have k2 := itM hJ.1 c26
    simp only [rg, bt, lp, vp_rg, Int32.lt_iff_toInt_lt, Int32.le_iff_toInt_le, Int64.lt_iff_toInt_lt, Int64.le_iff_toInt_le, l32, sI_2, tq_0, tq_1, tq_2, tq_6, tq_8, tq_10, tq_20, tq_30, tq_40, tl_0, tl_1, tl_2, tl_3, tl_4, tl_5, tl_6, tl_8, tl_10, tl_14, tl_20, tl_24, tl_30, tl_40, tl_50, tl_60, tl_70, tl_80, tl_100, tl_120, tl_140, tl_180, tl_220, tl_240, tl_260, tl_280, tl_300, tl_540, tl_780, tl_1020, tl_1180, tl_1190, tl_1200, tl_1220, tl_m1] at *
    have t0 : (x10 + 1).toInt = ((x10).toInt + 1) := (ti_add (a := (x10)) (b := (1 : Int32)) rfl tl_1 (by omega) (by omega))
    omega
theorem vc_FMO_payment_ix257_43 (S : hS) (x1 : Int32) (x2 : Int64) (x4 : Int64) (x6 : Int32) (x7 : Int32) (x8 : Int64) (x10 : Int32) (hJ : wfM S ∧ bt x10 241 ∧ rg x7 40) (c26 : ¬ ((FMO_itemAt S x1 x10) < 0)) (c29 : ¬ ((S.2 50 ((780 + (FMO_itemAt S x1 x10)).toNatClampNeg)) ≤ x8)) (c40 : ¬ (x8 ≤ 0)) : vp_in (780 + (FMO_itemAt S x1 x10)) 1220 := by
    have k0 := hJ.2.1
    have k1 := hJ.2.2
    have m0 := hJ.1.1
    have m1 := hJ.1.2.1
    have m3 := hJ.1.2.2.1
    have m4 := hJ.1.2.2.2.1
    have m6 := hJ.1.2.2.2.2.2.2.1
    have k2 := itM hJ.1 c26
    simp only [rg, bt, lp, vp_rg, Int32.lt_iff_toInt_lt, Int32.le_iff_toInt_le, Int64.lt_iff_toInt_lt, Int64.le_iff_toInt_le, l32, sI_2, tq_0, tq_1, tq_2, tq_6, tq_8, tq_10, tq_20, tq_30, tq_40, tl_0, tl_1, tl_2, tl_3, tl_4, tl_5, tl_6, tl_8, tl_10, tl_14, tl_20, tl_24, tl_30, tl_40, tl_50, tl_60, tl_70, tl_80, tl_100, tl_120, tl_140, tl_180, tl_220, tl_240, tl_260, tl_280, tl_300, tl_540, tl_780, tl_1020, tl_1180, tl_1190, tl_1200, tl_1220, tl_m1] at *
    have t0 : (780 + (FMO_itemAt S x1 x10)).toInt = (780 + (FMO_itemAt S x1 x10).toInt) := (ti_add (a := (780 : Int32)) (b := (FMO_itemAt S x1 x10)) tl_780 rfl (by omega) (by omega))
    omega
theorem vc_FMO_payment_ix261_44 (S : hS) (x1 : Int32) (x2 : Int64) (x4 : Int64) (x6 : Int32) (x7 : Int32) (x8 : Int64) (x10 : Int32) (hJ : wfM S ∧ bt x10 241 ∧ rg x7 40) (c26 : ¬ ((FMO_itemAt S x1 x10) < 0)) (c29 : ¬ ((S.2 50 ((780 + (FMO_itemAt S x1 x10)).toNatClampNeg)) ≤ x8)) (c40 : ¬ (x8 ≤ 0)) : vp_in (780 + (FMO_itemAt S x1 x10)) 1220 := by
    have k0 := hJ.2.1
    have k1 := hJ.2.2
    have m0 := hJ.1.1
    have m1 := hJ.1.2.1
    have m3 := hJ.1.2.2.1
    have m4 := hJ.1.2.2.2.1
    have m6 := hJ.1.2.2.2.2.2.2.1
    have k2 := itM hJ.1 c26
    simp only [rg, bt, lp, vp_rg, Int32.lt_iff_toInt_lt, Int32.le_iff_toInt_le, Int64.lt_iff_toInt_lt, Int64.le_iff_toInt_le, l32, sI_2, tq_0, tq_1, tq_2, tq_6, tq_8, tq_10, tq_20, tq_30, tq_40, tl_0, tl_1, tl_2, tl_3, tl_4, tl_5, tl_6, tl_8, tl_10, tl_14, tl_20, tl_24, tl_30, tl_40, tl_50, tl_60, tl_70, tl_80, tl_100, tl_120, tl_140, tl_180, tl_220, tl_240, tl_260, tl_280, tl_300, tl_540, tl_780, tl_1020, tl_1180, tl_1190, tl_1200, tl_1220, tl_m1] at *
    have t0 : (780 + (FMO_itemAt S x1 x10)).toInt = (780 + (FMO_itemAt S x1 x10).toInt) := (ti_add (a := (780 : Int32)) (b := (FMO_itemAt S x1 x10)) tl_780 rfl (by omega) (by omega))
    omega
theorem vc_FMO_payment_ix288_45 (S : hS) (x1 : Int32) (x2 : Int64) (x4 : Int64) (x6 : Int32) (x7 : Int32) (x8 : Int64) (x10 : Int32) (hJ : wfM S ∧ bt x10 241 ∧ rg x7 40) (c26 : ¬ ((FMO_itemAt S x1 x10) < 0)) (c29 : ¬ ((S.2 50 ((780 + (FMO_itemAt S x1 x10)).toNatClampNeg)) ≤ x8)) (c40 : ¬ (x8 ≤ 0)) : vp_in ((1020 + (4 * x7)) + ((FMO_itemAt S x1 x10) / 60)) 1220 := by
    have k0 := hJ.2.1
    have k1 := hJ.2.2
    have m0 := hJ.1.1
    have m1 := hJ.1.2.1
    have m3 := hJ.1.2.2.1
    have m4 := hJ.1.2.2.2.1
    have m6 := hJ.1.2.2.2.2.2.2.1
    have k2 := itM hJ.1 c26
    simp only [rg, bt, lp, vp_rg, Int32.lt_iff_toInt_lt, Int32.le_iff_toInt_le, Int64.lt_iff_toInt_lt, Int64.le_iff_toInt_le, l32, sI_2, tq_0, tq_1, tq_2, tq_6, tq_8, tq_10, tq_20, tq_30, tq_40, tl_0, tl_1, tl_2, tl_3, tl_4, tl_5, tl_6, tl_8, tl_10, tl_14, tl_20, tl_24, tl_30, tl_40, tl_50, tl_60, tl_70, tl_80, tl_100, tl_120, tl_140, tl_180, tl_220, tl_240, tl_260, tl_280, tl_300, tl_540, tl_780, tl_1020, tl_1180, tl_1190, tl_1200, tl_1220, tl_m1] at *
    have t0 : ((1020 + (4 * x7)) + ((FMO_itemAt S x1 x10) / 60)).toInt = ((1020 + (4 * (x7).toInt)) + ((FMO_itemAt S x1 x10).toInt / 60)) := (ti_add (a := (1020 + (4 * x7))) (b := ((FMO_itemAt S x1 x10) / 60)) (ti_add (a := (1020 : Int32)) (b := (4 * x7)) tl_1020 (ti_mul (a := (4 : Int32)) (b := (x7)) tl_4 rfl (by omega) (by omega)) (by omega) (by omega)) (ti_div (a := (FMO_itemAt S x1 x10)) (b := (60 : Int32)) rfl tl_60 (by omega) (by omega)) (by omega) (by omega))
    omega
theorem vc_FMO_payment_ix297_46 (S : hS) (x1 : Int32) (x2 : Int64) (x4 : Int64) (x6 : Int32) (x7 : Int32) (x8 : Int64) (x10 : Int32) (hJ : wfM S ∧ bt x10 241 ∧ rg x7 40) (c26 : ¬ ((FMO_itemAt S x1 x10) < 0)) (c29 : ¬ ((S.2 50 ((780 + (FMO_itemAt S x1 x10)).toNatClampNeg)) ≤ x8)) (c40 : ¬ (x8 ≤ 0)) : vp_in ((1020 + (4 * x7)) + ((FMO_itemAt S x1 x10) / 60)) 1220 := by
    have k0 := hJ.2.1
    have k1 := hJ.2.2
    have m0 := hJ.1.1
    have m1 := hJ.1.2.1
    have m3 := hJ.1.2.2.1
    have m4 := hJ.1.2.2.2.1
    have m6 := hJ.1.2.2.2.2.2.2.1
    have k2 := itM hJ.1 c26
    simp only [rg, bt, lp, vp_rg, Int32.lt_iff_toInt_lt, Int32.le_iff_toInt_le, Int64.lt_iff_toInt_lt, Int64.le_iff_toInt_le, l32, sI_2, tq_0, tq_1, tq_2, tq_6, tq_8, tq_10, tq_20, tq_30, tq_40, tl_0, tl_1, tl_2, tl_3, tl_4, tl_5, tl_6, tl_8, tl_10, tl_14, tl_20, tl_24, tl_30, tl_40, tl_50, tl_60, tl_70, tl_80, tl_100, tl_120, tl_140, tl_180, tl_220, tl_240, tl_260, tl_280, tl_300, tl_540, tl_780, tl_1020, tl_1180, tl_1190, tl_1200, tl_1220, tl_m1] at *
    have t0 : ((1020 + (4 * x7)) + ((FMO_itemAt S x1 x10) / 60)).toInt = ((1020 + (4 * (x7).toInt)) + ((FMO_itemAt S x1 x10).toInt / 60)) := (ti_add (a := (1020 + (4 * x7))) (b := ((FMO_itemAt S x1 x10) / 60)) (ti_add (a := (1020 : Int32)) (b := (4 * x7)) tl_1020 (ti_mul (a := (4 : Int32)) (b := (x7)) tl_4 rfl (by omega) (by omega)) (by omega) (by omega)) (ti_div (a := (FMO_itemAt S x1 x10)) (b := (60 : Int32)) rfl tl_60 (by omega) (by omega)) (by omega) (by omega))
    omega
theorem vc_FMO_payment_inv185_47 (S : hS) (x1 : Int32) (x2 : Int64) (x4 : Int64) (x6 : Int32) (x7 : Int32) (x8 : Int64) (x10 : Int32) (hJ : wfM S ∧ bt x10 241 ∧ rg x7 40) (c26 : ¬ ((FMO_itemAt S x1 x10) < 0)) (c29 : ¬ ((S.2 50 ((780 + (FMO_itemAt S x1 x10)).toNatClampNeg)) ≤ x8)) (c40 : ¬ (x8 ≤ 0)) : wfM (sL (sL S 50 ((780 + (FMO_itemAt S x1 x10)).toNatClampNeg) ((S.2 50 ((780 + (FMO_itemAt S x1 x10)).toNatClampNeg)) - x8)) 50 (((1020 + (4 * x7)) + ((FMO_itemAt S x1 x10) / 60)).toNatClampNeg) (((sL S 50 ((780 + (FMO_itemAt S x1 x10)).toNatClampNeg) ((S.2 50 ((780 + (FMO_itemAt S x1 x10)).toNatClampNeg)) - x8)).2 50 (((1020 + (4 * x7)) + ((FMO_itemAt S x1 x10) / 60)).toNatClampNeg)) ||| (1 <<< (((FMO_itemAt S x1 x10) - (FMO_itemAt S x1 x10) / 60 * 60).toInt64 &&& 63)))) ∧ bt (x10 + 1) 241 ∧ rg x7 40 := ⟨(wfM_L (wfM_L hJ.1 (by
    have k0 := hJ.2.1
    have k1 := hJ.2.2
    have m0 := hJ.1.1
    have m1 := hJ.1.2.1
    have m3 := hJ.1.2.2.1
    have m4 := hJ.1.2.2.2.1
    have m6 := hJ.1.2.2.2.2.2.2.1
    have k2 := itM hJ.1 c26
    simp only [rg, bt, lp, vp_rg, Int32.lt_iff_toInt_lt, Int32.le_iff_toInt_le, Int64.lt_iff_toInt_lt, Int64.le_iff_toInt_le, l32, sI_2, tq_0, tq_1, tq_2, tq_6, tq_8, tq_10, tq_20, tq_30, tq_40, tl_0, tl_1, tl_2, tl_3, tl_4, tl_5, tl_6, tl_8, tl_10, tl_14, tl_20, tl_24, tl_30, tl_40, tl_50, tl_60, tl_70, tl_80, tl_100, tl_120, tl_140, tl_180, tl_220, tl_240, tl_260, tl_280, tl_300, tl_540, tl_780, tl_1020, tl_1180, tl_1190, tl_1200, tl_1220, tl_m1] at *
    have t : (780 + (FMO_itemAt S x1 x10)).toInt = (780 + (FMO_itemAt S x1 x10).toInt) := (ti_add (a := (780 : Int32)) (b := (FMO_itemAt S x1 x10)) tl_780 rfl (by omega) (by omega))
    have u := cl_toInt (x := (780 + (FMO_itemAt S x1 x10))) (by omega)
    omega)) (by
    have k0 := hJ.2.1
    have k1 := hJ.2.2
    have m0 := hJ.1.1
    have m1 := hJ.1.2.1
    have m3 := hJ.1.2.2.1
    have m4 := hJ.1.2.2.2.1
    have m6 := hJ.1.2.2.2.2.2.2.1
    have k2 := itM hJ.1 c26
    simp only [rg, bt, lp, vp_rg, Int32.lt_iff_toInt_lt, Int32.le_iff_toInt_le, Int64.lt_iff_toInt_lt, Int64.le_iff_toInt_le, l32, sI_2, tq_0, tq_1, tq_2, tq_6, tq_8, tq_10, tq_20, tq_30, tq_40, tl_0, tl_1, tl_2, tl_3, tl_4, tl_5, tl_6, tl_8, tl_10, tl_14, tl_20, tl_24, tl_30, tl_40, tl_50, tl_60, tl_70, tl_80, tl_100, tl_120, tl_140, tl_180, tl_220, tl_240, tl_260, tl_280, tl_300, tl_540, tl_780, tl_1020, tl_1180, tl_1190, tl_1200, tl_1220, tl_m1] at *
    have t : ((1020 + (4 * x7)) + ((FMO_itemAt S x1 x10) / 60)).toInt = ((1020 + (4 * (x7).toInt)) + ((FMO_itemAt S x1 x10).toInt / 60)) := (ti_add (a := (1020 + (4 * x7))) (b := ((FMO_itemAt S x1 x10) / 60)) (ti_add (a := (1020 : Int32)) (b := (4 * x7)) tl_1020 (ti_mul (a := (4 : Int32)) (b := (x7)) tl_4 rfl (by omega) (by omega)) (by omega) (by omega)) (ti_div (a := (FMO_itemAt S x1 x10)) (b := (60 : Int32)) rfl tl_60 (by omega) (by omega)) (by omega) (by omega))
    have u := cl_toInt (x := ((1020 + (4 * x7)) + ((FMO_itemAt S x1 x10) / 60))) (by omega)
    omega)), (by
    have k0 := hJ.2.1
    have k1 := hJ.2.2
    have m0 := hJ.1.1
    have m1 := hJ.1.2.1
    have m3 := hJ.1.2.2.1
    have m4 := hJ.1.2.2.2.1
    have m6 := hJ.1.2.2.2.2.2.2.1
    have k2 := itM hJ.1 c26
    simp only [rg, bt, lp, vp_rg, Int32.lt_iff_toInt_lt, Int32.le_iff_toInt_le, Int64.lt_iff_toInt_lt, Int64.le_iff_toInt_le, l32, sI_2, tq_0, tq_1, tq_2, tq_6, tq_8, tq_10, tq_20, tq_30, tq_40, tl_0, tl_1, tl_2, tl_3, tl_4, tl_5, tl_6, tl_8, tl_10, tl_14, tl_20, tl_24, tl_30, tl_40, tl_50, tl_60, tl_70, tl_80, tl_100, tl_120, tl_140, tl_180, tl_220, tl_240, tl_260, tl_280, tl_300, tl_540, tl_780, tl_1020, tl_1180, tl_1190, tl_1200, tl_1220, tl_m1] at *
    have t0 : (x10 + 1).toInt = ((x10).toInt + 1) := (ti_add (a := (x10)) (b := (1 : Int32)) rfl tl_1 (by omega) (by omega))
    omega), hJ.2.2⟩
theorem vc_FMO_payment_mu185_48 (S : hS) (x1 : Int32) (x2 : Int64) (x4 : Int64) (x6 : Int32) (x7 : Int32) (x8 : Int64) (x10 : Int32) (hJ : wfM S ∧ bt x10 241 ∧ rg x7 40) (c26 : ¬ ((FMO_itemAt S x1 x10) < 0)) (c29 : ¬ ((S.2 50 ((780 + (FMO_itemAt S x1 x10)).toNatClampNeg)) ≤ x8)) (c40 : ¬ (x8 ≤ 0)) : ((241 - (x10 + 1).toInt).toNat) < ((241 - x10.toInt).toNat) := by
    have k0 := hJ.2.1
    have k1 := hJ.2.2
    have m0 := hJ.1.1
    have m1 := hJ.1.2.1
    have m3 := hJ.1.2.2.1
    have m4 := hJ.1.2.2.2.1
    have m6 := hJ.1.2.2.2.2.2.2.1
    have k2 := itM hJ.1 c26
    simp only [rg, bt, lp, vp_rg, Int32.lt_iff_toInt_lt, Int32.le_iff_toInt_le, Int64.lt_iff_toInt_lt, Int64.le_iff_toInt_le, l32, sI_2, tq_0, tq_1, tq_2, tq_6, tq_8, tq_10, tq_20, tq_30, tq_40, tl_0, tl_1, tl_2, tl_3, tl_4, tl_5, tl_6, tl_8, tl_10, tl_14, tl_20, tl_24, tl_30, tl_40, tl_50, tl_60, tl_70, tl_80, tl_100, tl_120, tl_140, tl_180, tl_220, tl_240, tl_260, tl_280, tl_300, tl_540, tl_780, tl_1020, tl_1180, tl_1190, tl_1200, tl_1220, tl_m1] at *
    have t0 : (x10 + 1).toInt = ((x10).toInt + 1) := (ti_add (a := (x10)) (b := (1 : Int32)) rfl tl_1 (by omega) (by omega))
    omega
theorem vc_FMO_payment_inv0185_50 (S : hS) (x1 : Int32) (x2 : Int64) (x4 : Int64) (hp : wfM S) (y7_6 : Int32) (hq7 : LMO_payment_8 300 (sI S 49 4 0) x1 x2 x4 0 = y7_6) (c10 : ¬ ((FMO_isIn (sI S 49 4 0) x2 1 100000000) = 0)) (c11 : ¬ ((FMO_isDay (sI S 49 4 0) x4) = 0)) (c13 : (FMO_isLate (sI S 49 4 0) x4) = 0) (c15 : ¬ ((FMO_isAccount (sI S 49 4 0) y7_6) = 0)) (c17 : ¬ ((S.2 50 1) = 40)) (c19 : ¬ ((FMO_isHousehold (sI S 49 4 0) x1) = 0)) (v21 : Int32) (S21 : hS) (hq21 : FMO_addEntry (sI S 49 4 0) x4 1 = (v21, S21)) : wfM (sL (FMO_addRow (FMO_addRow S21 v21 y7_6 x2) v21 x1 (-x2)) 50 ((140 + v21).toNatClampNeg) 1) ∧ bt (0 : Int32) 241 ∧ rg v21 40 := ⟨(payM (wfM_I hp) (by
    have m0 := hp.1
    have m1 := hp.2.1
    have m3 := hp.2.2.1
    have m4 := hp.2.2.2.1
    have m6 := hp.2.2.2.2.2.2.1
    have k0 := acM (wfM_I hp) c15
    have k1 := hhM (wfM_I hp) c19
    have k2 := ne64 c17
    simp only [rg, bt, lp, vp_rg, Int32.lt_iff_toInt_lt, Int32.le_iff_toInt_le, Int64.lt_iff_toInt_lt, Int64.le_iff_toInt_le, l32, sI_2, tq_0, tq_1, tq_2, tq_6, tq_8, tq_10, tq_20, tq_30, tq_40, tl_0, tl_1, tl_2, tl_3, tl_4, tl_5, tl_6, tl_8, tl_10, tl_14, tl_20, tl_24, tl_30, tl_40, tl_50, tl_60, tl_70, tl_80, tl_100, tl_120, tl_140, tl_180, tl_220, tl_240, tl_260, tl_280, tl_300, tl_540, tl_780, tl_1020, tl_1180, tl_1190, tl_1200, tl_1220, tl_m1] at *
    omega) (c := x2) hq21 (acM (wfM_I hp) c15) (hhM (wfM_I hp) c19)).2.2, by unfold bt; rw [tl_0]; omega, (payM (wfM_I hp) (by
    have m0 := hp.1
    have m1 := hp.2.1
    have m3 := hp.2.2.1
    have m4 := hp.2.2.2.1
    have m6 := hp.2.2.2.2.2.2.1
    have k0 := acM (wfM_I hp) c15
    have k1 := hhM (wfM_I hp) c19
    have k2 := ne64 c17
    simp only [rg, bt, lp, vp_rg, Int32.lt_iff_toInt_lt, Int32.le_iff_toInt_le, Int64.lt_iff_toInt_lt, Int64.le_iff_toInt_le, l32, sI_2, tq_0, tq_1, tq_2, tq_6, tq_8, tq_10, tq_20, tq_30, tq_40, tl_0, tl_1, tl_2, tl_3, tl_4, tl_5, tl_6, tl_8, tl_10, tl_14, tl_20, tl_24, tl_30, tl_40, tl_50, tl_60, tl_70, tl_80, tl_100, tl_120, tl_140, tl_180, tl_220, tl_240, tl_260, tl_280, tl_300, tl_540, tl_780, tl_1020, tl_1180, tl_1190, tl_1200, tl_1220, tl_m1] at *
    omega) (c := x2) hq21 (acM (wfM_I hp) c15) (hhM (wfM_I hp) c19)).1.2.1⟩
theorem vc_FMO_payment_mu0185_51 (S : hS) (x1 : Int32) (x2 : Int64) (x4 : Int64) (hp : wfM S) (y7_6 : Int32) (hq7 : LMO_payment_8 300 (sI S 49 4 0) x1 x2 x4 0 = y7_6) (c10 : ¬ ((FMO_isIn (sI S 49 4 0) x2 1 100000000) = 0)) (c11 : ¬ ((FMO_isDay (sI S 49 4 0) x4) = 0)) (c13 : (FMO_isLate (sI S 49 4 0) x4) = 0) (c15 : ¬ ((FMO_isAccount (sI S 49 4 0) y7_6) = 0)) (c17 : ¬ ((S.2 50 1) = 40)) (c19 : ¬ ((FMO_isHousehold (sI S 49 4 0) x1) = 0)) (v21 : Int32) (S21 : hS) (hq21 : FMO_addEntry (sI S 49 4 0) x4 1 = (v21, S21)) : ((241 - (0 : Int32).toInt).toNat) < 300 := by
    have m0 := hp.1
    have m1 := hp.2.1
    have m3 := hp.2.2.1
    have m4 := hp.2.2.2.1
    have m6 := hp.2.2.2.2.2.2.1
    have k0 := acM (wfM_I hp) c15
    have k1 := hhM (wfM_I hp) c19
    have k2 := ne64 c17
    simp only [rg, bt, lp, vp_rg, Int32.lt_iff_toInt_lt, Int32.le_iff_toInt_le, Int64.lt_iff_toInt_lt, Int64.le_iff_toInt_le, l32, sI_2, tq_0, tq_1, tq_2, tq_6, tq_8, tq_10, tq_20, tq_30, tq_40, tl_0, tl_1, tl_2, tl_3, tl_4, tl_5, tl_6, tl_8, tl_10, tl_14, tl_20, tl_24, tl_30, tl_40, tl_50, tl_60, tl_70, tl_80, tl_100, tl_120, tl_140, tl_180, tl_220, tl_240, tl_260, tl_280, tl_300, tl_540, tl_780, tl_1020, tl_1180, tl_1190, tl_1200, tl_1220, tl_m1] at *
    have t0 : (0 : Int32).toInt = 0 := tl_0
    omega
theorem vc_FMO_payment_ix103_52 (S : hS) (x1 : Int32) (x2 : Int64) (x4 : Int64) (hp : wfM S) (y7_6 : Int32) (hq7 : LMO_payment_8 300 (sI S 49 4 0) x1 x2 x4 0 = y7_6) (c10 : ¬ ((FMO_isIn (sI S 49 4 0) x2 1 100000000) = 0)) (c11 : ¬ ((FMO_isDay (sI S 49 4 0) x4) = 0)) (c13 : (FMO_isLate (sI S 49 4 0) x4) = 0) (c15 : ¬ ((FMO_isAccount (sI S 49 4 0) y7_6) = 0)) (c17 : ¬ ((S.2 50 1) = 40)) (c19 : (FMO_isHousehold (sI S 49 4 0) x1) = 0) : vp_in 4 1220 := by
    have m0 := hp.1
    have m1 := hp.2.1
    have m3 := hp.2.2.1
    have m4 := hp.2.2.2.1
    have m6 := hp.2.2.2.2.2.2.1
    have k0 := acM (wfM_I hp) c15
    have k1 := ne64 c17
    simp only [rg, bt, lp, vp_rg, Int32.lt_iff_toInt_lt, Int32.le_iff_toInt_le, Int64.lt_iff_toInt_lt, Int64.le_iff_toInt_le, l32, sI_2, tq_0, tq_1, tq_2, tq_6, tq_8, tq_10, tq_20, tq_30, tq_40, tl_0, tl_1, tl_2, tl_3, tl_4, tl_5, tl_6, tl_8, tl_10, tl_14, tl_20, tl_24, tl_30, tl_40, tl_50, tl_60, tl_70, tl_80, tl_100, tl_120, tl_140, tl_180, tl_220, tl_240, tl_260, tl_280, tl_300, tl_540, tl_780, tl_1020, tl_1180, tl_1190, tl_1200, tl_1220, tl_m1] at *
    have t0 : (4 : Int32).toInt = 4 := tl_4
    omega
theorem vc_FMO_payment_ix123_54 (S : hS) (x1 : Int32) (x2 : Int64) (x4 : Int64) (hp : wfM S) (y7_6 : Int32) (hq7 : LMO_payment_8 300 (sI S 49 4 0) x1 x2 x4 0 = y7_6) (c10 : ¬ ((FMO_isIn (sI S 49 4 0) x2 1 100000000) = 0)) (c11 : ¬ ((FMO_isDay (sI S 49 4 0) x4) = 0)) (c13 : (FMO_isLate (sI S 49 4 0) x4) = 0) (c15 : ¬ ((FMO_isAccount (sI S 49 4 0) y7_6) = 0)) (c17 : ¬ ((S.2 50 1) = 40)) (c19 : (FMO_isHousehold (sI S 49 4 0) x1) = 0) (c53 : ¬ (20 ≤ (S.2 50 4))) : vp_in 4 1220 := by
    have m0 := hp.1
    have m1 := hp.2.1
    have m3 := hp.2.2.1
    have m4 := hp.2.2.2.1
    have m6 := hp.2.2.2.2.2.2.1
    have k0 := acM (wfM_I hp) c15
    have k1 := ne64 c17
    simp only [rg, bt, lp, vp_rg, Int32.lt_iff_toInt_lt, Int32.le_iff_toInt_le, Int64.lt_iff_toInt_lt, Int64.le_iff_toInt_le, l32, sI_2, tq_0, tq_1, tq_2, tq_6, tq_8, tq_10, tq_20, tq_30, tq_40, tl_0, tl_1, tl_2, tl_3, tl_4, tl_5, tl_6, tl_8, tl_10, tl_14, tl_20, tl_24, tl_30, tl_40, tl_50, tl_60, tl_70, tl_80, tl_100, tl_120, tl_140, tl_180, tl_220, tl_240, tl_260, tl_280, tl_300, tl_540, tl_780, tl_1020, tl_1180, tl_1190, tl_1200, tl_1220, tl_m1] at *
    have t0 : (4 : Int32).toInt = 4 := tl_4
    omega
theorem vc_FMO_payment_ix127_55 (S : hS) (x1 : Int32) (x2 : Int64) (x4 : Int64) (hp : wfM S) (y7_6 : Int32) (hq7 : LMO_payment_8 300 (sI S 49 4 0) x1 x2 x4 0 = y7_6) (c10 : ¬ ((FMO_isIn (sI S 49 4 0) x2 1 100000000) = 0)) (c11 : ¬ ((FMO_isDay (sI S 49 4 0) x4) = 0)) (c13 : (FMO_isLate (sI S 49 4 0) x4) = 0) (c15 : ¬ ((FMO_isAccount (sI S 49 4 0) y7_6) = 0)) (c17 : ¬ ((S.2 50 1) = 40)) (c19 : (FMO_isHousehold (sI S 49 4 0) x1) = 0) (c53 : ¬ (20 ≤ (S.2 50 4))) : vp_in (1200 + ((S.2 50 4).toInt32)) 1220 := by
    have m0 := hp.1
    have m1 := hp.2.1
    have m3 := hp.2.2.1
    have m4 := hp.2.2.2.1
    have m6 := hp.2.2.2.2.2.2.1
    have k0 := acM (wfM_I hp) c15
    have k1 := ne64 c17
    simp only [rg, bt, lp, vp_rg, Int32.lt_iff_toInt_lt, Int32.le_iff_toInt_le, Int64.lt_iff_toInt_lt, Int64.le_iff_toInt_le, l32, sI_2, tq_0, tq_1, tq_2, tq_6, tq_8, tq_10, tq_20, tq_30, tq_40, tl_0, tl_1, tl_2, tl_3, tl_4, tl_5, tl_6, tl_8, tl_10, tl_14, tl_20, tl_24, tl_30, tl_40, tl_50, tl_60, tl_70, tl_80, tl_100, tl_120, tl_140, tl_180, tl_220, tl_240, tl_260, tl_280, tl_300, tl_540, tl_780, tl_1020, tl_1180, tl_1190, tl_1200, tl_1220, tl_m1] at *
    have t0 : (1200 + ((S.2 50 4).toInt32)).toInt = (1200 + (S.2 50 4).toInt) := (ti_add (a := (1200 : Int32)) (b := ((S.2 50 4).toInt32)) tl_1200 (ti_32 (a := (S.2 50 4)) rfl (by omega) (by omega)) (by omega) (by omega))
    omega
theorem vc_FMO_payment_ix134_56 (S : hS) (x1 : Int32) (x2 : Int64) (x4 : Int64) (hp : wfM S) (y7_6 : Int32) (hq7 : LMO_payment_8 300 (sI S 49 4 0) x1 x2 x4 0 = y7_6) (c10 : ¬ ((FMO_isIn (sI S 49 4 0) x2 1 100000000) = 0)) (c11 : ¬ ((FMO_isDay (sI S 49 4 0) x4) = 0)) (c13 : (FMO_isLate (sI S 49 4 0) x4) = 0) (c15 : ¬ ((FMO_isAccount (sI S 49 4 0) y7_6) = 0)) (c17 : ¬ ((S.2 50 1) = 40)) (c19 : (FMO_isHousehold (sI S 49 4 0) x1) = 0) (c53 : ¬ (20 ≤ (S.2 50 4))) : vp_in 4 1220 := by
    have m0 := hp.1
    have m1 := hp.2.1
    have m3 := hp.2.2.1
    have m4 := hp.2.2.2.1
    have m6 := hp.2.2.2.2.2.2.1
    have k0 := acM (wfM_I hp) c15
    have k1 := ne64 c17
    simp only [rg, bt, lp, vp_rg, Int32.lt_iff_toInt_lt, Int32.le_iff_toInt_le, Int64.lt_iff_toInt_lt, Int64.le_iff_toInt_le, l32, sI_2, tq_0, tq_1, tq_2, tq_6, tq_8, tq_10, tq_20, tq_30, tq_40, tl_0, tl_1, tl_2, tl_3, tl_4, tl_5, tl_6, tl_8, tl_10, tl_14, tl_20, tl_24, tl_30, tl_40, tl_50, tl_60, tl_70, tl_80, tl_100, tl_120, tl_140, tl_180, tl_220, tl_240, tl_260, tl_280, tl_300, tl_540, tl_780, tl_1020, tl_1180, tl_1190, tl_1200, tl_1220, tl_m1] at *
    have t0 : (4 : Int32).toInt = 4 := tl_4
    omega
theorem vc_FMO_payment_ix137_57 (S : hS) (x1 : Int32) (x2 : Int64) (x4 : Int64) (hp : wfM S) (y7_6 : Int32) (hq7 : LMO_payment_8 300 (sI S 49 4 0) x1 x2 x4 0 = y7_6) (c10 : ¬ ((FMO_isIn (sI S 49 4 0) x2 1 100000000) = 0)) (c11 : ¬ ((FMO_isDay (sI S 49 4 0) x4) = 0)) (c13 : (FMO_isLate (sI S 49 4 0) x4) = 0) (c15 : ¬ ((FMO_isAccount (sI S 49 4 0) y7_6) = 0)) (c17 : ¬ ((S.2 50 1) = 40)) (c19 : (FMO_isHousehold (sI S 49 4 0) x1) = 0) (c53 : ¬ (20 ≤ (S.2 50 4))) : vp_in 4 1220 := by
    have m0 := hp.1
    have m1 := hp.2.1
    have m3 := hp.2.2.1
    have m4 := hp.2.2.2.1
    have m6 := hp.2.2.2.2.2.2.1
    have k0 := acM (wfM_I hp) c15
    have k1 := ne64 c17
    simp only [rg, bt, lp, vp_rg, Int32.lt_iff_toInt_lt, Int32.le_iff_toInt_le, Int64.lt_iff_toInt_lt, Int64.le_iff_toInt_le, l32, sI_2, tq_0, tq_1, tq_2, tq_6, tq_8, tq_10, tq_20, tq_30, tq_40, tl_0, tl_1, tl_2, tl_3, tl_4, tl_5, tl_6, tl_8, tl_10, tl_14, tl_20, tl_24, tl_30, tl_40, tl_50, tl_60, tl_70, tl_80, tl_100, tl_120, tl_140, tl_180, tl_220, tl_240, tl_260, tl_280, tl_300, tl_540, tl_780, tl_1020, tl_1180, tl_1190, tl_1200, tl_1220, tl_m1] at *
    have t0 : (4 : Int32).toInt = 4 := tl_4
    omega
theorem vc_FMO_item_pre7_1 (S : hS) (x1 : Int32) (x2 : Int32) (hp : wfM S) : wfM (sI S 49 4 0) := (wfM_I hp)
theorem vc_FMO_item_pre20_4 (S : hS) (x1 : Int32) (x2 : Int32) (hp : wfM S) (c2 : ¬ ((FMO_isHousehold (sI S 49 4 0) x1) = 0)) (c3 : ¬ (x2 < 0)) : wfM (sI S 49 4 0) := (wfM_I hp)
theorem vc_FMO_item_ix47_6 (S : hS) (x1 : Int32) (x2 : Int32) (hp : wfM S) (c2 : ¬ ((FMO_isHousehold (sI S 49 4 0) x1) = 0)) (c3 : ¬ (x2 < 0)) (c5 : 0 ≤ (FMO_itemAt (sI S 49 4 0) x1 x2)) : vp_in (780 + (FMO_itemAt (sI S 49 4 0) x1 x2)) 1220 := by
    have m0 := hp.1
    have m1 := hp.2.1
    have m3 := hp.2.2.1
    have m4 := hp.2.2.2.1
    have m6 := hp.2.2.2.2.2.2.1
    have k0 := hhM (wfM_I hp) c2
    have k1 := itM2 (wfM_I hp) c5
    simp only [rg, bt, lp, vp_rg, Int32.lt_iff_toInt_lt, Int32.le_iff_toInt_le, Int64.lt_iff_toInt_lt, Int64.le_iff_toInt_le, l32, sI_2, tq_0, tq_1, tq_2, tq_6, tq_8, tq_10, tq_20, tq_30, tq_40, tl_0, tl_1, tl_2, tl_3, tl_4, tl_5, tl_6, tl_8, tl_10, tl_14, tl_20, tl_24, tl_30, tl_40, tl_50, tl_60, tl_70, tl_80, tl_100, tl_120, tl_140, tl_180, tl_220, tl_240, tl_260, tl_280, tl_300, tl_540, tl_780, tl_1020, tl_1180, tl_1190, tl_1200, tl_1220, tl_m1] at *
    have t0 : (780 + (FMO_itemAt (sI S 49 4 0) x1 x2)).toInt = (780 + (FMO_itemAt (sI S 49 4 0) x1 x2).toInt) := (ti_add (a := (780 : Int32)) (b := (FMO_itemAt (sI S 49 4 0) x1 x2)) tl_780 rfl (by omega) (by omega))
    omega
theorem vc_FMO_gave_ix16_1 (S : hS) (x1 : Int32) (x2 : Int32) (hp : wfM S ∧ rg x1 40 ∧ rg x2 240) : vp_in ((1020 + (4 * x1)) + (x2 / 60)) 1220 := by
    have k0 := hp.2.1
    have k1 := hp.2.2
    have m0 := hp.1.1
    have m1 := hp.1.2.1
    have m3 := hp.1.2.2.1
    have m4 := hp.1.2.2.2.1
    have m6 := hp.1.2.2.2.2.2.2.1
    simp only [rg, bt, lp, vp_rg, Int32.lt_iff_toInt_lt, Int32.le_iff_toInt_le, Int64.lt_iff_toInt_lt, Int64.le_iff_toInt_le, l32, sI_2, tq_0, tq_1, tq_2, tq_6, tq_8, tq_10, tq_20, tq_30, tq_40, tl_0, tl_1, tl_2, tl_3, tl_4, tl_5, tl_6, tl_8, tl_10, tl_14, tl_20, tl_24, tl_30, tl_40, tl_50, tl_60, tl_70, tl_80, tl_100, tl_120, tl_140, tl_180, tl_220, tl_240, tl_260, tl_280, tl_300, tl_540, tl_780, tl_1020, tl_1180, tl_1190, tl_1200, tl_1220, tl_m1] at *
    have t0 : ((1020 + (4 * x1)) + (x2 / 60)).toInt = ((1020 + (4 * (x1).toInt)) + ((x2).toInt / 60)) := (ti_add (a := (1020 + (4 * x1))) (b := (x2 / 60)) (ti_add (a := (1020 : Int32)) (b := (4 * x1)) tl_1020 (ti_mul (a := (4 : Int32)) (b := (x1)) tl_4 rfl (by omega) (by omega)) (by omega) (by omega)) (ti_div (a := (x2)) (b := (60 : Int32)) rfl tl_60 (by omega) (by omega)) (by omega) (by omega))
    omega
theorem vc_FMO_opened_pre16_2 (S : hS) (x1 : Int32) (x2 : Int32) (x3 : Int32) (hJ : wfM S ∧ bt x3 240) (c1 : ¬ (240 ≤ x3)) : wfM S := hJ.1
theorem vc_FMO_opened_pre25_4 (S : hS) (x1 : Int32) (x2 : Int32) (x3 : Int32) (hJ : wfM S ∧ bt x3 240) (c1 : ¬ (240 ≤ x3)) (c3 : ¬ ((FMO_isEntry S x1) = 0)) : wfM S ∧ rg x1 40 ∧ rg x3 240 := ⟨hJ.1, (by
    have k0 := hJ.2
    have m0 := hJ.1.1
    have m1 := hJ.1.2.1
    have m3 := hJ.1.2.2.1
    have m4 := hJ.1.2.2.2.1
    have m6 := hJ.1.2.2.2.2.2.2.1
    have k1 := enM hJ.1 c3
    simp only [rg, bt, lp, vp_rg, Int32.lt_iff_toInt_lt, Int32.le_iff_toInt_le, Int64.lt_iff_toInt_lt, Int64.le_iff_toInt_le, l32, sI_2, tq_0, tq_1, tq_2, tq_6, tq_8, tq_10, tq_20, tq_30, tq_40, tl_0, tl_1, tl_2, tl_3, tl_4, tl_5, tl_6, tl_8, tl_10, tl_14, tl_20, tl_24, tl_30, tl_40, tl_50, tl_60, tl_70, tl_80, tl_100, tl_120, tl_140, tl_180, tl_220, tl_240, tl_260, tl_280, tl_300, tl_540, tl_780, tl_1020, tl_1180, tl_1190, tl_1200, tl_1220, tl_m1] at *
    omega), (by
    have k0 := hJ.2
    have m0 := hJ.1.1
    have m1 := hJ.1.2.1
    have m3 := hJ.1.2.2.1
    have m4 := hJ.1.2.2.2.1
    have m6 := hJ.1.2.2.2.2.2.2.1
    have k1 := enM hJ.1 c3
    simp only [rg, bt, lp, vp_rg, Int32.lt_iff_toInt_lt, Int32.le_iff_toInt_le, Int64.lt_iff_toInt_lt, Int64.le_iff_toInt_le, l32, sI_2, tq_0, tq_1, tq_2, tq_6, tq_8, tq_10, tq_20, tq_30, tq_40, tl_0, tl_1, tl_2, tl_3, tl_4, tl_5, tl_6, tl_8, tl_10, tl_14, tl_20, tl_24, tl_30, tl_40, tl_50, tl_60, tl_70, tl_80, tl_100, tl_120, tl_140, tl_180, tl_220, tl_240, tl_260, tl_280, tl_300, tl_540, tl_780, tl_1020, tl_1180, tl_1190, tl_1200, tl_1220, tl_m1] at *
    omega)⟩
theorem vc_FMO_opened_inv7_6 (S : hS) (x1 : Int32) (x2 : Int32) (x3 : Int32) (hJ : wfM S ∧ bt x3 240) (c1 : ¬ (240 ≤ x3)) (c3 : ¬ ((FMO_isEntry S x1) = 0)) (c5 : (FMO_gave S x1 x3) = 0) : wfM S ∧ bt (x3 + 1) 240 := ⟨hJ.1, (by
    have k0 := hJ.2
    have m0 := hJ.1.1
    have m1 := hJ.1.2.1
    have m3 := hJ.1.2.2.1
    have m4 := hJ.1.2.2.2.1
    have m6 := hJ.1.2.2.2.2.2.2.1
    have k1 := enM hJ.1 c3
    simp only [rg, bt, lp, vp_rg, Int32.lt_iff_toInt_lt, Int32.le_iff_toInt_le, Int64.lt_iff_toInt_lt, Int64.le_iff_toInt_le, l32, sI_2, tq_0, tq_1, tq_2, tq_6, tq_8, tq_10, tq_20, tq_30, tq_40, tl_0, tl_1, tl_2, tl_3, tl_4, tl_5, tl_6, tl_8, tl_10, tl_14, tl_20, tl_24, tl_30, tl_40, tl_50, tl_60, tl_70, tl_80, tl_100, tl_120, tl_140, tl_180, tl_220, tl_240, tl_260, tl_280, tl_300, tl_540, tl_780, tl_1020, tl_1180, tl_1190, tl_1200, tl_1220, tl_m1] at *
    have t0 : (x3 + 1).toInt = ((x3).toInt + 1) := (ti_add (a := (x3)) (b := (1 : Int32)) rfl tl_1 (by omega) (by omega))
    omega)⟩
theorem vc_FMO_opened_mu7_7 (S : hS) (x1 : Int32) (x2 : Int32) (x3 : Int32) (hJ : wfM S ∧ bt x3 240) (c1 : ¬ (240 ≤ x3)) (c3 : ¬ ((FMO_isEntry S x1) = 0)) (c5 : (FMO_gave S x1 x3) = 0) : ((240 - (x3 + 1).toInt).toNat) < ((240 - x3.toInt).toNat) := by
    have k0 := hJ.2
    have m0 := hJ.1.1
    have m1 := hJ.1.2.1
    have m3 := hJ.1.2.2.1
    have m4 := hJ.1.2.2.2.1
    have m6 := hJ.1.2.2.2.2.2.2.1
    have k1 := enM hJ.1 c3
    simp only [rg, bt, lp, vp_rg, Int32.lt_iff_toInt_lt, Int32.le_iff_toInt_le, Int64.lt_iff_toInt_lt, Int64.le_iff_toInt_le, l32, sI_2, tq_0, tq_1, tq_2, tq_6, tq_8, tq_10, tq_20, tq_30, tq_40, tl_0, tl_1, tl_2, tl_3, tl_4, tl_5, tl_6, tl_8, tl_10, tl_14, tl_20, tl_24, tl_30, tl_40, tl_50, tl_60, tl_70, tl_80, tl_100, tl_120, tl_140, tl_180, tl_220, tl_240, tl_260, tl_280, tl_300, tl_540, tl_780, tl_1020, tl_1180, tl_1190, tl_1200, tl_1220, tl_m1] at *
    have t0 : (x3 + 1).toInt = ((x3).toInt + 1) := (ti_add (a := (x3)) (b := (1 : Int32)) rfl tl_1 (by omega) (by omega))
    omega
theorem vc_FMO_opened_pre51_9 (S : hS) (x1 : Int32) (x2 : Int32) (x3 : Int32) (x4 : Int32) (x5 : Int32) (hJ : wfM S ∧ bt x5 240 ∧ rg x1 40 ∧ rg x3 240) (c8 : ¬ (240 ≤ x5)) : wfM S ∧ rg x1 40 ∧ rg x5 240 := ⟨hJ.1, hJ.2.2.1, (by
    have k0 := hJ.2.1
    have k1 := hJ.2.2.1
    have k2 := hJ.2.2.2
    have m0 := hJ.1.1
    have m1 := hJ.1.2.1
    have m3 := hJ.1.2.2.1
    have m4 := hJ.1.2.2.2.1
    have m6 := hJ.1.2.2.2.2.2.2.1
    simp only [rg, bt, lp, vp_rg, Int32.lt_iff_toInt_lt, Int32.le_iff_toInt_le, Int64.lt_iff_toInt_lt, Int64.le_iff_toInt_le, l32, sI_2, tq_0, tq_1, tq_2, tq_6, tq_8, tq_10, tq_20, tq_30, tq_40, tl_0, tl_1, tl_2, tl_3, tl_4, tl_5, tl_6, tl_8, tl_10, tl_14, tl_20, tl_24, tl_30, tl_40, tl_50, tl_60, tl_70, tl_80, tl_100, tl_120, tl_140, tl_180, tl_220, tl_240, tl_260, tl_280, tl_300, tl_540, tl_780, tl_1020, tl_1180, tl_1190, tl_1200, tl_1220, tl_m1] at *
    omega)⟩
theorem vc_FMO_opened_inv37_11 (S : hS) (x1 : Int32) (x2 : Int32) (x3 : Int32) (x4 : Int32) (x5 : Int32) (hJ : wfM S ∧ bt x5 240 ∧ rg x1 40 ∧ rg x3 240) (c8 : ¬ (240 ≤ x5)) (c10 : (FMO_gave S x1 x5) = 0) : wfM S ∧ bt (x5 + 1) 240 ∧ rg x1 40 ∧ rg x3 240 := ⟨hJ.1, (by
    have k0 := hJ.2.1
    have k1 := hJ.2.2.1
    have k2 := hJ.2.2.2
    have m0 := hJ.1.1
    have m1 := hJ.1.2.1
    have m3 := hJ.1.2.2.1
    have m4 := hJ.1.2.2.2.1
    have m6 := hJ.1.2.2.2.2.2.2.1
    simp only [rg, bt, lp, vp_rg, Int32.lt_iff_toInt_lt, Int32.le_iff_toInt_le, Int64.lt_iff_toInt_lt, Int64.le_iff_toInt_le, l32, sI_2, tq_0, tq_1, tq_2, tq_6, tq_8, tq_10, tq_20, tq_30, tq_40, tl_0, tl_1, tl_2, tl_3, tl_4, tl_5, tl_6, tl_8, tl_10, tl_14, tl_20, tl_24, tl_30, tl_40, tl_50, tl_60, tl_70, tl_80, tl_100, tl_120, tl_140, tl_180, tl_220, tl_240, tl_260, tl_280, tl_300, tl_540, tl_780, tl_1020, tl_1180, tl_1190, tl_1200, tl_1220, tl_m1] at *
    have t0 : (x5 + 1).toInt = ((x5).toInt + 1) := (ti_add (a := (x5)) (b := (1 : Int32)) rfl tl_1 (by omega) (by omega))
    omega), hJ.2.2.1, hJ.2.2.2⟩
theorem vc_FMO_opened_mu37_12 (S : hS) (x1 : Int32) (x2 : Int32) (x3 : Int32) (x4 : Int32) (x5 : Int32) (hJ : wfM S ∧ bt x5 240 ∧ rg x1 40 ∧ rg x3 240) (c8 : ¬ (240 ≤ x5)) (c10 : (FMO_gave S x1 x5) = 0) : ((240 - (x5 + 1).toInt).toNat) < ((240 - x5.toInt).toNat) := by
    have k0 := hJ.2.1
    have k1 := hJ.2.2.1
    have k2 := hJ.2.2.2
    have m0 := hJ.1.1
    have m1 := hJ.1.2.1
    have m3 := hJ.1.2.2.1
    have m4 := hJ.1.2.2.2.1
    have m6 := hJ.1.2.2.2.2.2.2.1
    simp only [rg, bt, lp, vp_rg, Int32.lt_iff_toInt_lt, Int32.le_iff_toInt_le, Int64.lt_iff_toInt_lt, Int64.le_iff_toInt_le, l32, sI_2, tq_0, tq_1, tq_2, tq_6, tq_8, tq_10, tq_20, tq_30, tq_40, tl_0, tl_1, tl_2, tl_3, tl_4, tl_5, tl_6, tl_8, tl_10, tl_14, tl_20, tl_24, tl_30, tl_40, tl_50, tl_60, tl_70, tl_80, tl_100, tl_120, tl_140, tl_180, tl_220, tl_240, tl_260, tl_280, tl_300, tl_540, tl_780, tl_1020, tl_1180, tl_1190, tl_1200, tl_1220, tl_m1] at *
    have t0 : (x5 + 1).toInt = ((x5).toInt + 1) := (ti_add (a := (x5)) (b := (1 : Int32)) rfl tl_1 (by omega) (by omega))
    omega
theorem vc_FMO_opened_pre61_13 (S : hS) (x1 : Int32) (x2 : Int32) (x3 : Int32) (x4 : Int32) (x5 : Int32) (hJ : wfM S ∧ bt x5 240 ∧ rg x1 40 ∧ rg x3 240) (c8 : ¬ (240 ≤ x5)) (c10 : ¬ ((FMO_gave S x1 x5) = 0)) : wfM S ∧ rg x5 240 ∧ rg x3 240 := ⟨hJ.1, (by
    have k0 := hJ.2.1
    have k1 := hJ.2.2.1
    have k2 := hJ.2.2.2
    have m0 := hJ.1.1
    have m1 := hJ.1.2.1
    have m3 := hJ.1.2.2.1
    have m4 := hJ.1.2.2.2.1
    have m6 := hJ.1.2.2.2.2.2.2.1
    simp only [rg, bt, lp, vp_rg, Int32.lt_iff_toInt_lt, Int32.le_iff_toInt_le, Int64.lt_iff_toInt_lt, Int64.le_iff_toInt_le, l32, sI_2, tq_0, tq_1, tq_2, tq_6, tq_8, tq_10, tq_20, tq_30, tq_40, tl_0, tl_1, tl_2, tl_3, tl_4, tl_5, tl_6, tl_8, tl_10, tl_14, tl_20, tl_24, tl_30, tl_40, tl_50, tl_60, tl_70, tl_80, tl_100, tl_120, tl_140, tl_180, tl_220, tl_240, tl_260, tl_280, tl_300, tl_540, tl_780, tl_1020, tl_1180, tl_1190, tl_1200, tl_1220, tl_m1] at *
    omega), hJ.2.2.2⟩
theorem vc_FMO_opened_inv37_15 (S : hS) (x1 : Int32) (x2 : Int32) (x3 : Int32) (x4 : Int32) (x5 : Int32) (hJ : wfM S ∧ bt x5 240 ∧ rg x1 40 ∧ rg x3 240) (c8 : ¬ (240 ≤ x5)) (c10 : ¬ ((FMO_gave S x1 x5) = 0)) (c14 : (FMO_isBefore S x5 x3) = 0) : wfM S ∧ bt (x5 + 1) 240 ∧ rg x1 40 ∧ rg x3 240 := ⟨hJ.1, (by
    have k0 := hJ.2.1
    have k1 := hJ.2.2.1
    have k2 := hJ.2.2.2
    have m0 := hJ.1.1
    have m1 := hJ.1.2.1
    have m3 := hJ.1.2.2.1
    have m4 := hJ.1.2.2.2.1
    have m6 := hJ.1.2.2.2.2.2.2.1
    simp only [rg, bt, lp, vp_rg, Int32.lt_iff_toInt_lt, Int32.le_iff_toInt_le, Int64.lt_iff_toInt_lt, Int64.le_iff_toInt_le, l32, sI_2, tq_0, tq_1, tq_2, tq_6, tq_8, tq_10, tq_20, tq_30, tq_40, tl_0, tl_1, tl_2, tl_3, tl_4, tl_5, tl_6, tl_8, tl_10, tl_14, tl_20, tl_24, tl_30, tl_40, tl_50, tl_60, tl_70, tl_80, tl_100, tl_120, tl_140, tl_180, tl_220, tl_240, tl_260, tl_280, tl_300, tl_540, tl_780, tl_1020, tl_1180, tl_1190, tl_1200, tl_1220, tl_m1] at *
    have t0 : (x5 + 1).toInt = ((x5).toInt + 1) := (ti_add (a := (x5)) (b := (1 : Int32)) rfl tl_1 (by omega) (by omega))
    omega), hJ.2.2.1, hJ.2.2.2⟩
theorem vc_FMO_opened_mu37_16 (S : hS) (x1 : Int32) (x2 : Int32) (x3 : Int32) (x4 : Int32) (x5 : Int32) (hJ : wfM S ∧ bt x5 240 ∧ rg x1 40 ∧ rg x3 240) (c8 : ¬ (240 ≤ x5)) (c10 : ¬ ((FMO_gave S x1 x5) = 0)) (c14 : (FMO_isBefore S x5 x3) = 0) : ((240 - (x5 + 1).toInt).toNat) < ((240 - x5.toInt).toNat) := by
    have k0 := hJ.2.1
    have k1 := hJ.2.2.1
    have k2 := hJ.2.2.2
    have m0 := hJ.1.1
    have m1 := hJ.1.2.1
    have m3 := hJ.1.2.2.1
    have m4 := hJ.1.2.2.2.1
    have m6 := hJ.1.2.2.2.2.2.2.1
    simp only [rg, bt, lp, vp_rg, Int32.lt_iff_toInt_lt, Int32.le_iff_toInt_le, Int64.lt_iff_toInt_lt, Int64.le_iff_toInt_le, l32, sI_2, tq_0, tq_1, tq_2, tq_6, tq_8, tq_10, tq_20, tq_30, tq_40, tl_0, tl_1, tl_2, tl_3, tl_4, tl_5, tl_6, tl_8, tl_10, tl_14, tl_20, tl_24, tl_30, tl_40, tl_50, tl_60, tl_70, tl_80, tl_100, tl_120, tl_140, tl_180, tl_220, tl_240, tl_260, tl_280, tl_300, tl_540, tl_780, tl_1020, tl_1180, tl_1190, tl_1200, tl_1220, tl_m1] at *
    have t0 : (x5 + 1).toInt = ((x5).toInt + 1) := (ti_add (a := (x5)) (b := (1 : Int32)) rfl tl_1 (by omega) (by omega))
    omega
theorem vc_FMO_opened_inv37_17 (S : hS) (x1 : Int32) (x2 : Int32) (x3 : Int32) (x4 : Int32) (x5 : Int32) (hJ : wfM S ∧ bt x5 240 ∧ rg x1 40 ∧ rg x3 240) (c8 : ¬ (240 ≤ x5)) (c10 : ¬ ((FMO_gave S x1 x5) = 0)) (c14 : ¬ ((FMO_isBefore S x5 x3) = 0)) : wfM S ∧ bt (x5 + 1) 240 ∧ rg x1 40 ∧ rg x3 240 := ⟨hJ.1, (by
    have k0 := hJ.2.1
    have k1 := hJ.2.2.1
    have k2 := hJ.2.2.2
    have m0 := hJ.1.1
    have m1 := hJ.1.2.1
    have m3 := hJ.1.2.2.1
    have m4 := hJ.1.2.2.2.1
    have m6 := hJ.1.2.2.2.2.2.2.1
    simp only [rg, bt, lp, vp_rg, Int32.lt_iff_toInt_lt, Int32.le_iff_toInt_le, Int64.lt_iff_toInt_lt, Int64.le_iff_toInt_le, l32, sI_2, tq_0, tq_1, tq_2, tq_6, tq_8, tq_10, tq_20, tq_30, tq_40, tl_0, tl_1, tl_2, tl_3, tl_4, tl_5, tl_6, tl_8, tl_10, tl_14, tl_20, tl_24, tl_30, tl_40, tl_50, tl_60, tl_70, tl_80, tl_100, tl_120, tl_140, tl_180, tl_220, tl_240, tl_260, tl_280, tl_300, tl_540, tl_780, tl_1020, tl_1180, tl_1190, tl_1200, tl_1220, tl_m1] at *
    have t0 : (x5 + 1).toInt = ((x5).toInt + 1) := (ti_add (a := (x5)) (b := (1 : Int32)) rfl tl_1 (by omega) (by omega))
    omega), hJ.2.2.1, hJ.2.2.2⟩
theorem vc_FMO_opened_mu37_18 (S : hS) (x1 : Int32) (x2 : Int32) (x3 : Int32) (x4 : Int32) (x5 : Int32) (hJ : wfM S ∧ bt x5 240 ∧ rg x1 40 ∧ rg x3 240) (c8 : ¬ (240 ≤ x5)) (c10 : ¬ ((FMO_gave S x1 x5) = 0)) (c14 : ¬ ((FMO_isBefore S x5 x3) = 0)) : ((240 - (x5 + 1).toInt).toNat) < ((240 - x5.toInt).toNat) := by
    have k0 := hJ.2.1
    have k1 := hJ.2.2.1
    have k2 := hJ.2.2.2
    have m0 := hJ.1.1
    have m1 := hJ.1.2.1
    have m3 := hJ.1.2.2.1
    have m4 := hJ.1.2.2.2.1
    have m6 := hJ.1.2.2.2.2.2.2.1
    simp only [rg, bt, lp, vp_rg, Int32.lt_iff_toInt_lt, Int32.le_iff_toInt_le, Int64.lt_iff_toInt_lt, Int64.le_iff_toInt_le, l32, sI_2, tq_0, tq_1, tq_2, tq_6, tq_8, tq_10, tq_20, tq_30, tq_40, tl_0, tl_1, tl_2, tl_3, tl_4, tl_5, tl_6, tl_8, tl_10, tl_14, tl_20, tl_24, tl_30, tl_40, tl_50, tl_60, tl_70, tl_80, tl_100, tl_120, tl_140, tl_180, tl_220, tl_240, tl_260, tl_280, tl_300, tl_540, tl_780, tl_1020, tl_1180, tl_1190, tl_1200, tl_1220, tl_m1] at *
    have t0 : (x5 + 1).toInt = ((x5).toInt + 1) := (ti_add (a := (x5)) (b := (1 : Int32)) rfl tl_1 (by omega) (by omega))
    omega
theorem vc_FMO_opened_inv037_20 (S : hS) (x1 : Int32) (x2 : Int32) (x3 : Int32) (hJ : wfM S ∧ bt x3 240) (c1 : ¬ (240 ≤ x3)) (c3 : ¬ ((FMO_isEntry S x1) = 0)) (c5 : ¬ ((FMO_gave S x1 x3) = 0)) : wfM S ∧ bt (0 : Int32) 240 ∧ rg x1 40 ∧ rg x3 240 := ⟨hJ.1, (by
    have k0 := hJ.2
    have m0 := hJ.1.1
    have m1 := hJ.1.2.1
    have m3 := hJ.1.2.2.1
    have m4 := hJ.1.2.2.2.1
    have m6 := hJ.1.2.2.2.2.2.2.1
    have k1 := enM hJ.1 c3
    simp only [rg, bt, lp, vp_rg, Int32.lt_iff_toInt_lt, Int32.le_iff_toInt_le, Int64.lt_iff_toInt_lt, Int64.le_iff_toInt_le, l32, sI_2, tq_0, tq_1, tq_2, tq_6, tq_8, tq_10, tq_20, tq_30, tq_40, tl_0, tl_1, tl_2, tl_3, tl_4, tl_5, tl_6, tl_8, tl_10, tl_14, tl_20, tl_24, tl_30, tl_40, tl_50, tl_60, tl_70, tl_80, tl_100, tl_120, tl_140, tl_180, tl_220, tl_240, tl_260, tl_280, tl_300, tl_540, tl_780, tl_1020, tl_1180, tl_1190, tl_1200, tl_1220, tl_m1] at *
    have t0 : (0 : Int32).toInt = 0 := tl_0
    omega), (by
    have k0 := hJ.2
    have m0 := hJ.1.1
    have m1 := hJ.1.2.1
    have m3 := hJ.1.2.2.1
    have m4 := hJ.1.2.2.2.1
    have m6 := hJ.1.2.2.2.2.2.2.1
    have k1 := enM hJ.1 c3
    simp only [rg, bt, lp, vp_rg, Int32.lt_iff_toInt_lt, Int32.le_iff_toInt_le, Int64.lt_iff_toInt_lt, Int64.le_iff_toInt_le, l32, sI_2, tq_0, tq_1, tq_2, tq_6, tq_8, tq_10, tq_20, tq_30, tq_40, tl_0, tl_1, tl_2, tl_3, tl_4, tl_5, tl_6, tl_8, tl_10, tl_14, tl_20, tl_24, tl_30, tl_40, tl_50, tl_60, tl_70, tl_80, tl_100, tl_120, tl_140, tl_180, tl_220, tl_240, tl_260, tl_280, tl_300, tl_540, tl_780, tl_1020, tl_1180, tl_1190, tl_1200, tl_1220, tl_m1] at *
    omega), (by
    have k0 := hJ.2
    have m0 := hJ.1.1
    have m1 := hJ.1.2.1
    have m3 := hJ.1.2.2.1
    have m4 := hJ.1.2.2.2.1
    have m6 := hJ.1.2.2.2.2.2.2.1
    have k1 := enM hJ.1 c3
    simp only [rg, bt, lp, vp_rg, Int32.lt_iff_toInt_lt, Int32.le_iff_toInt_le, Int64.lt_iff_toInt_lt, Int64.le_iff_toInt_le, l32, sI_2, tq_0, tq_1, tq_2, tq_6, tq_8, tq_10, tq_20, tq_30, tq_40, tl_0, tl_1, tl_2, tl_3, tl_4, tl_5, tl_6, tl_8, tl_10, tl_14, tl_20, tl_24, tl_30, tl_40, tl_50, tl_60, tl_70, tl_80, tl_100, tl_120, tl_140, tl_180, tl_220, tl_240, tl_260, tl_280, tl_300, tl_540, tl_780, tl_1020, tl_1180, tl_1190, tl_1200, tl_1220, tl_m1] at *
    omega)⟩
theorem vc_FMO_opened_mu037_21 (S : hS) (x1 : Int32) (x2 : Int32) (x3 : Int32) (hJ : wfM S ∧ bt x3 240) (c1 : ¬ (240 ≤ x3)) (c3 : ¬ ((FMO_isEntry S x1) = 0)) (c5 : ¬ ((FMO_gave S x1 x3) = 0)) : ((240 - (0 : Int32).toInt).toNat) < 300 := by
    have k0 := hJ.2
    have m0 := hJ.1.1
    have m1 := hJ.1.2.1
    have m3 := hJ.1.2.2.1
    have m4 := hJ.1.2.2.2.1
    have m6 := hJ.1.2.2.2.2.2.2.1
    have k1 := enM hJ.1 c3
    simp only [rg, bt, lp, vp_rg, Int32.lt_iff_toInt_lt, Int32.le_iff_toInt_le, Int64.lt_iff_toInt_lt, Int64.le_iff_toInt_le, l32, sI_2, tq_0, tq_1, tq_2, tq_6, tq_8, tq_10, tq_20, tq_30, tq_40, tl_0, tl_1, tl_2, tl_3, tl_4, tl_5, tl_6, tl_8, tl_10, tl_14, tl_20, tl_24, tl_30, tl_40, tl_50, tl_60, tl_70, tl_80, tl_100, tl_120, tl_140, tl_180, tl_220, tl_240, tl_260, tl_280, tl_300, tl_540, tl_780, tl_1020, tl_1180, tl_1190, tl_1200, tl_1220, tl_m1] at *
    have t0 : (0 : Int32).toInt = 0 := tl_0
    omega
theorem vc_FMO_opened_inv7_23 (S : hS) (x1 : Int32) (x2 : Int32) (x3 : Int32) (hJ : wfM S ∧ bt x3 240) (c1 : ¬ (240 ≤ x3)) (c3 : ¬ ((FMO_isEntry S x1) = 0)) (c5 : ¬ ((FMO_gave S x1 x3) = 0)) (y19_4 : Int32) (y19_5 : Int32) (hq19 : LMO_opened_37 300 S x1 x2 x3 0 0 = (y19_4, y19_5)) (c22 : ¬ (y19_4 = x2)) : wfM S ∧ bt (x3 + 1) 240 := ⟨hJ.1, (by
    have k0 := hJ.2
    have m0 := hJ.1.1
    have m1 := hJ.1.2.1
    have m3 := hJ.1.2.2.1
    have m4 := hJ.1.2.2.2.1
    have m6 := hJ.1.2.2.2.2.2.2.1
    have k1 := enM hJ.1 c3
    simp only [rg, bt, lp, vp_rg, Int32.lt_iff_toInt_lt, Int32.le_iff_toInt_le, Int64.lt_iff_toInt_lt, Int64.le_iff_toInt_le, l32, sI_2, tq_0, tq_1, tq_2, tq_6, tq_8, tq_10, tq_20, tq_30, tq_40, tl_0, tl_1, tl_2, tl_3, tl_4, tl_5, tl_6, tl_8, tl_10, tl_14, tl_20, tl_24, tl_30, tl_40, tl_50, tl_60, tl_70, tl_80, tl_100, tl_120, tl_140, tl_180, tl_220, tl_240, tl_260, tl_280, tl_300, tl_540, tl_780, tl_1020, tl_1180, tl_1190, tl_1200, tl_1220, tl_m1] at *
    have t0 : (x3 + 1).toInt = ((x3).toInt + 1) := (ti_add (a := (x3)) (b := (1 : Int32)) rfl tl_1 (by omega) (by omega))
    omega)⟩
theorem vc_FMO_opened_mu7_24 (S : hS) (x1 : Int32) (x2 : Int32) (x3 : Int32) (hJ : wfM S ∧ bt x3 240) (c1 : ¬ (240 ≤ x3)) (c3 : ¬ ((FMO_isEntry S x1) = 0)) (c5 : ¬ ((FMO_gave S x1 x3) = 0)) (y19_4 : Int32) (y19_5 : Int32) (hq19 : LMO_opened_37 300 S x1 x2 x3 0 0 = (y19_4, y19_5)) (c22 : ¬ (y19_4 = x2)) : ((240 - (x3 + 1).toInt).toNat) < ((240 - x3.toInt).toNat) := by
    have k0 := hJ.2
    have m0 := hJ.1.1
    have m1 := hJ.1.2.1
    have m3 := hJ.1.2.2.1
    have m4 := hJ.1.2.2.2.1
    have m6 := hJ.1.2.2.2.2.2.2.1
    have k1 := enM hJ.1 c3
    simp only [rg, bt, lp, vp_rg, Int32.lt_iff_toInt_lt, Int32.le_iff_toInt_le, Int64.lt_iff_toInt_lt, Int64.le_iff_toInt_le, l32, sI_2, tq_0, tq_1, tq_2, tq_6, tq_8, tq_10, tq_20, tq_30, tq_40, tl_0, tl_1, tl_2, tl_3, tl_4, tl_5, tl_6, tl_8, tl_10, tl_14, tl_20, tl_24, tl_30, tl_40, tl_50, tl_60, tl_70, tl_80, tl_100, tl_120, tl_140, tl_180, tl_220, tl_240, tl_260, tl_280, tl_300, tl_540, tl_780, tl_1020, tl_1180, tl_1190, tl_1200, tl_1220, tl_m1] at *
    have t0 : (x3 + 1).toInt = ((x3).toInt + 1) := (ti_add (a := (x3)) (b := (1 : Int32)) rfl tl_1 (by omega) (by omega))
    omega
theorem vc_FMO_opened_inv07_26 (S : hS) (x1 : Int32) (x2 : Int32) (hp : wfM S) : wfM (sI S 49 4 0) ∧ bt (0 : Int32) 240 := ⟨(wfM_I hp), (by
    have m0 := hp.1
    have m1 := hp.2.1
    have m3 := hp.2.2.1
    have m4 := hp.2.2.2.1
    have m6 := hp.2.2.2.2.2.2.1
    simp only [rg, bt, lp, vp_rg, Int32.lt_iff_toInt_lt, Int32.le_iff_toInt_le, Int64.lt_iff_toInt_lt, Int64.le_iff_toInt_le, l32, sI_2, tq_0, tq_1, tq_2, tq_6, tq_8, tq_10, tq_20, tq_30, tq_40, tl_0, tl_1, tl_2, tl_3, tl_4, tl_5, tl_6, tl_8, tl_10, tl_14, tl_20, tl_24, tl_30, tl_40, tl_50, tl_60, tl_70, tl_80, tl_100, tl_120, tl_140, tl_180, tl_220, tl_240, tl_260, tl_280, tl_300, tl_540, tl_780, tl_1020, tl_1180, tl_1190, tl_1200, tl_1220, tl_m1] at *
    have t0 : (0 : Int32).toInt = 0 := tl_0
    omega)⟩
theorem vc_FMO_opened_mu07_27 (S : hS) (x1 : Int32) (x2 : Int32) (hp : wfM S) : ((240 - (0 : Int32).toInt).toNat) < 300 := by
    have m0 := hp.1
    have m1 := hp.2.1
    have m3 := hp.2.2.1
    have m4 := hp.2.2.2.1
    have m6 := hp.2.2.2.2.2.2.1
    simp only [rg, bt, lp, vp_rg, Int32.lt_iff_toInt_lt, Int32.le_iff_toInt_le, Int64.lt_iff_toInt_lt, Int64.le_iff_toInt_le, l32, sI_2, tq_0, tq_1, tq_2, tq_6, tq_8, tq_10, tq_20, tq_30, tq_40, tl_0, tl_1, tl_2, tl_3, tl_4, tl_5, tl_6, tl_8, tl_10, tl_14, tl_20, tl_24, tl_30, tl_40, tl_50, tl_60, tl_70, tl_80, tl_100, tl_120, tl_140, tl_180, tl_220, tl_240, tl_260, tl_280, tl_300, tl_540, tl_780, tl_1020, tl_1180, tl_1190, tl_1200, tl_1220, tl_m1] at *
    have t0 : (0 : Int32).toInt = 0 := tl_0
    omega
theorem vc_FMO_hasOld_inv6_3 (S : hS) (x1 : Int32) (x2 : Int64) (x4 : Int32) (x5 : Int32) (hJ : wfM S ∧ bt x5 240) (c1 : ¬ (240 ≤ x5)) (c2 : ¬ (x4 = 0)) : wfM S ∧ bt (x5 + 1) 240 := ⟨hJ.1, (by
    have k0 := hJ.2
    have m0 := hJ.1.1
    have m1 := hJ.1.2.1
    have m3 := hJ.1.2.2.1
    have m4 := hJ.1.2.2.2.1
    have m6 := hJ.1.2.2.2.2.2.2.1
    simp only [rg, bt, lp, vp_rg, Int32.lt_iff_toInt_lt, Int32.le_iff_toInt_le, Int64.lt_iff_toInt_lt, Int64.le_iff_toInt_le, l32, sI_2, tq_0, tq_1, tq_2, tq_6, tq_8, tq_10, tq_20, tq_30, tq_40, tl_0, tl_1, tl_2, tl_3, tl_4, tl_5, tl_6, tl_8, tl_10, tl_14, tl_20, tl_24, tl_30, tl_40, tl_50, tl_60, tl_70, tl_80, tl_100, tl_120, tl_140, tl_180, tl_220, tl_240, tl_260, tl_280, tl_300, tl_540, tl_780, tl_1020, tl_1180, tl_1190, tl_1200, tl_1220, tl_m1] at *
    have t0 : (x5 + 1).toInt = ((x5).toInt + 1) := (ti_add (a := (x5)) (b := (1 : Int32)) rfl tl_1 (by omega) (by omega))
    omega)⟩
theorem vc_FMO_hasOld_mu6_4 (S : hS) (x1 : Int32) (x2 : Int64) (x4 : Int32) (x5 : Int32) (hJ : wfM S ∧ bt x5 240) (c1 : ¬ (240 ≤ x5)) (c2 : ¬ (x4 = 0)) : ((240 - (x5 + 1).toInt).toNat) < ((240 - x5.toInt).toNat) := by
    have k0 := hJ.2
    have m0 := hJ.1.1
    have m1 := hJ.1.2.1
    have m3 := hJ.1.2.2.1
    have m4 := hJ.1.2.2.2.1
    have m6 := hJ.1.2.2.2.2.2.2.1
    simp only [rg, bt, lp, vp_rg, Int32.lt_iff_toInt_lt, Int32.le_iff_toInt_le, Int64.lt_iff_toInt_lt, Int64.le_iff_toInt_le, l32, sI_2, tq_0, tq_1, tq_2, tq_6, tq_8, tq_10, tq_20, tq_30, tq_40, tl_0, tl_1, tl_2, tl_3, tl_4, tl_5, tl_6, tl_8, tl_10, tl_14, tl_20, tl_24, tl_30, tl_40, tl_50, tl_60, tl_70, tl_80, tl_100, tl_120, tl_140, tl_180, tl_220, tl_240, tl_260, tl_280, tl_300, tl_540, tl_780, tl_1020, tl_1180, tl_1190, tl_1200, tl_1220, tl_m1] at *
    have t0 : (x5 + 1).toInt = ((x5).toInt + 1) := (ti_add (a := (x5)) (b := (1 : Int32)) rfl tl_1 (by omega) (by omega))
    omega
theorem vc_FMO_hasOld_pre23_5 (S : hS) (x1 : Int32) (x2 : Int64) (x4 : Int32) (x5 : Int32) (hJ : wfM S ∧ bt x5 240) (c1 : ¬ (240 ≤ x5)) (c2 : x4 = 0) : wfM S ∧ rg x5 240 := ⟨hJ.1, (by
    have k0 := hJ.2
    have m0 := hJ.1.1
    have m1 := hJ.1.2.1
    have m3 := hJ.1.2.2.1
    have m4 := hJ.1.2.2.2.1
    have m6 := hJ.1.2.2.2.2.2.2.1
    simp only [rg, bt, lp, vp_rg, Int32.lt_iff_toInt_lt, Int32.le_iff_toInt_le, Int64.lt_iff_toInt_lt, Int64.le_iff_toInt_le, l32, sI_2, tq_0, tq_1, tq_2, tq_6, tq_8, tq_10, tq_20, tq_30, tq_40, tl_0, tl_1, tl_2, tl_3, tl_4, tl_5, tl_6, tl_8, tl_10, tl_14, tl_20, tl_24, tl_30, tl_40, tl_50, tl_60, tl_70, tl_80, tl_100, tl_120, tl_140, tl_180, tl_220, tl_240, tl_260, tl_280, tl_300, tl_540, tl_780, tl_1020, tl_1180, tl_1190, tl_1200, tl_1220, tl_m1] at *
    omega)⟩
theorem vc_FMO_hasOld_inv6_7 (S : hS) (x1 : Int32) (x2 : Int64) (x4 : Int32) (x5 : Int32) (hJ : wfM S ∧ bt x5 240) (c1 : ¬ (240 ≤ x5)) (c2 : x4 = 0) (c6 : (FMO_isItemOf S x5 x1) = 0) : wfM S ∧ bt (x5 + 1) 240 := ⟨hJ.1, (by
    have k0 := hJ.2
    have m0 := hJ.1.1
    have m1 := hJ.1.2.1
    have m3 := hJ.1.2.2.1
    have m4 := hJ.1.2.2.2.1
    have m6 := hJ.1.2.2.2.2.2.2.1
    simp only [rg, bt, lp, vp_rg, Int32.lt_iff_toInt_lt, Int32.le_iff_toInt_le, Int64.lt_iff_toInt_lt, Int64.le_iff_toInt_le, l32, sI_2, tq_0, tq_1, tq_2, tq_6, tq_8, tq_10, tq_20, tq_30, tq_40, tl_0, tl_1, tl_2, tl_3, tl_4, tl_5, tl_6, tl_8, tl_10, tl_14, tl_20, tl_24, tl_30, tl_40, tl_50, tl_60, tl_70, tl_80, tl_100, tl_120, tl_140, tl_180, tl_220, tl_240, tl_260, tl_280, tl_300, tl_540, tl_780, tl_1020, tl_1180, tl_1190, tl_1200, tl_1220, tl_m1] at *
    have t0 : (x5 + 1).toInt = ((x5).toInt + 1) := (ti_add (a := (x5)) (b := (1 : Int32)) rfl tl_1 (by omega) (by omega))
    omega)⟩
theorem vc_FMO_hasOld_mu6_8 (S : hS) (x1 : Int32) (x2 : Int64) (x4 : Int32) (x5 : Int32) (hJ : wfM S ∧ bt x5 240) (c1 : ¬ (240 ≤ x5)) (c2 : x4 = 0) (c6 : (FMO_isItemOf S x5 x1) = 0) : ((240 - (x5 + 1).toInt).toNat) < ((240 - x5.toInt).toNat) := by
    have k0 := hJ.2
    have m0 := hJ.1.1
    have m1 := hJ.1.2.1
    have m3 := hJ.1.2.2.1
    have m4 := hJ.1.2.2.2.1
    have m6 := hJ.1.2.2.2.2.2.2.1
    simp only [rg, bt, lp, vp_rg, Int32.lt_iff_toInt_lt, Int32.le_iff_toInt_le, Int64.lt_iff_toInt_lt, Int64.le_iff_toInt_le, l32, sI_2, tq_0, tq_1, tq_2, tq_6, tq_8, tq_10, tq_20, tq_30, tq_40, tl_0, tl_1, tl_2, tl_3, tl_4, tl_5, tl_6, tl_8, tl_10, tl_14, tl_20, tl_24, tl_30, tl_40, tl_50, tl_60, tl_70, tl_80, tl_100, tl_120, tl_140, tl_180, tl_220, tl_240, tl_260, tl_280, tl_300, tl_540, tl_780, tl_1020, tl_1180, tl_1190, tl_1200, tl_1220, tl_m1] at *
    have t0 : (x5 + 1).toInt = ((x5).toInt + 1) := (ti_add (a := (x5)) (b := (1 : Int32)) rfl tl_1 (by omega) (by omega))
    omega
theorem vc_FMO_hasOld_ix41_9 (S : hS) (x1 : Int32) (x2 : Int64) (x4 : Int32) (x5 : Int32) (hJ : wfM S ∧ bt x5 240) (c1 : ¬ (240 ≤ x5)) (c2 : x4 = 0) (c6 : ¬ ((FMO_isItemOf S x5 x1) = 0)) : vp_in (100 + (x5 / 6)) 1220 := by
    have k0 := hJ.2
    have m0 := hJ.1.1
    have m1 := hJ.1.2.1
    have m3 := hJ.1.2.2.1
    have m4 := hJ.1.2.2.2.1
    have m6 := hJ.1.2.2.2.2.2.2.1
    simp only [rg, bt, lp, vp_rg, Int32.lt_iff_toInt_lt, Int32.le_iff_toInt_le, Int64.lt_iff_toInt_lt, Int64.le_iff_toInt_le, l32, sI_2, tq_0, tq_1, tq_2, tq_6, tq_8, tq_10, tq_20, tq_30, tq_40, tl_0, tl_1, tl_2, tl_3, tl_4, tl_5, tl_6, tl_8, tl_10, tl_14, tl_20, tl_24, tl_30, tl_40, tl_50, tl_60, tl_70, tl_80, tl_100, tl_120, tl_140, tl_180, tl_220, tl_240, tl_260, tl_280, tl_300, tl_540, tl_780, tl_1020, tl_1180, tl_1190, tl_1200, tl_1220, tl_m1] at *
    have t0 : (100 + (x5 / 6)).toInt = (100 + ((x5).toInt / 6)) := (ti_add (a := (100 : Int32)) (b := (x5 / 6)) tl_100 (ti_div (a := (x5)) (b := (6 : Int32)) rfl tl_6 (by omega) (by omega)) (by omega) (by omega))
    omega
theorem vc_FMO_hasOld_inv6_11 (S : hS) (x1 : Int32) (x2 : Int64) (x4 : Int32) (x5 : Int32) (hJ : wfM S ∧ bt x5 240) (c1 : ¬ (240 ≤ x5)) (c2 : x4 = 0) (c6 : ¬ ((FMO_isItemOf S x5 x1) = 0)) (c10 : x2 < ((S.2 50 ((100 + (x5 / 6)).toNatClampNeg)) + 31)) : wfM S ∧ bt (x5 + 1) 240 := ⟨hJ.1, (by
    have k0 := hJ.2
    have m0 := hJ.1.1
    have m1 := hJ.1.2.1
    have m3 := hJ.1.2.2.1
    have m4 := hJ.1.2.2.2.1
    have m6 := hJ.1.2.2.2.2.2.2.1
    simp only [rg, bt, lp, vp_rg, Int32.lt_iff_toInt_lt, Int32.le_iff_toInt_le, Int64.lt_iff_toInt_lt, Int64.le_iff_toInt_le, l32, sI_2, tq_0, tq_1, tq_2, tq_6, tq_8, tq_10, tq_20, tq_30, tq_40, tl_0, tl_1, tl_2, tl_3, tl_4, tl_5, tl_6, tl_8, tl_10, tl_14, tl_20, tl_24, tl_30, tl_40, tl_50, tl_60, tl_70, tl_80, tl_100, tl_120, tl_140, tl_180, tl_220, tl_240, tl_260, tl_280, tl_300, tl_540, tl_780, tl_1020, tl_1180, tl_1190, tl_1200, tl_1220, tl_m1] at *
    have t0 : (x5 + 1).toInt = ((x5).toInt + 1) := (ti_add (a := (x5)) (b := (1 : Int32)) rfl tl_1 (by omega) (by omega))
    omega)⟩
theorem vc_FMO_hasOld_mu6_12 (S : hS) (x1 : Int32) (x2 : Int64) (x4 : Int32) (x5 : Int32) (hJ : wfM S ∧ bt x5 240) (c1 : ¬ (240 ≤ x5)) (c2 : x4 = 0) (c6 : ¬ ((FMO_isItemOf S x5 x1) = 0)) (c10 : x2 < ((S.2 50 ((100 + (x5 / 6)).toNatClampNeg)) + 31)) : ((240 - (x5 + 1).toInt).toNat) < ((240 - x5.toInt).toNat) := by
    have k0 := hJ.2
    have m0 := hJ.1.1
    have m1 := hJ.1.2.1
    have m3 := hJ.1.2.2.1
    have m4 := hJ.1.2.2.2.1
    have m6 := hJ.1.2.2.2.2.2.2.1
    simp only [rg, bt, lp, vp_rg, Int32.lt_iff_toInt_lt, Int32.le_iff_toInt_le, Int64.lt_iff_toInt_lt, Int64.le_iff_toInt_le, l32, sI_2, tq_0, tq_1, tq_2, tq_6, tq_8, tq_10, tq_20, tq_30, tq_40, tl_0, tl_1, tl_2, tl_3, tl_4, tl_5, tl_6, tl_8, tl_10, tl_14, tl_20, tl_24, tl_30, tl_40, tl_50, tl_60, tl_70, tl_80, tl_100, tl_120, tl_140, tl_180, tl_220, tl_240, tl_260, tl_280, tl_300, tl_540, tl_780, tl_1020, tl_1180, tl_1190, tl_1200, tl_1220, tl_m1] at *
    have t0 : (x5 + 1).toInt = ((x5).toInt + 1) := (ti_add (a := (x5)) (b := (1 : Int32)) rfl tl_1 (by omega) (by omega))
    omega
theorem vc_FMO_hasOld_ix61_13 (S : hS) (x1 : Int32) (x2 : Int64) (x4 : Int32) (x5 : Int32) (hJ : wfM S ∧ bt x5 240) (c1 : ¬ (240 ≤ x5)) (c2 : x4 = 0) (c6 : ¬ ((FMO_isItemOf S x5 x1) = 0)) (c10 : ¬ (x2 < ((S.2 50 ((100 + (x5 / 6)).toNatClampNeg)) + 31))) : vp_in (780 + x5) 1220 := by
    have k0 := hJ.2
    have m0 := hJ.1.1
    have m1 := hJ.1.2.1
    have m3 := hJ.1.2.2.1
    have m4 := hJ.1.2.2.2.1
    have m6 := hJ.1.2.2.2.2.2.2.1
    simp only [rg, bt, lp, vp_rg, Int32.lt_iff_toInt_lt, Int32.le_iff_toInt_le, Int64.lt_iff_toInt_lt, Int64.le_iff_toInt_le, l32, sI_2, tq_0, tq_1, tq_2, tq_6, tq_8, tq_10, tq_20, tq_30, tq_40, tl_0, tl_1, tl_2, tl_3, tl_4, tl_5, tl_6, tl_8, tl_10, tl_14, tl_20, tl_24, tl_30, tl_40, tl_50, tl_60, tl_70, tl_80, tl_100, tl_120, tl_140, tl_180, tl_220, tl_240, tl_260, tl_280, tl_300, tl_540, tl_780, tl_1020, tl_1180, tl_1190, tl_1200, tl_1220, tl_m1] at *
    have t0 : (780 + x5).toInt = (780 + (x5).toInt) := (ti_add (a := (780 : Int32)) (b := (x5)) tl_780 rfl (by omega) (by omega))
    omega
theorem vc_FMO_hasOld_inv6_15 (S : hS) (x1 : Int32) (x2 : Int64) (x4 : Int32) (x5 : Int32) (hJ : wfM S ∧ bt x5 240) (c1 : ¬ (240 ≤ x5)) (c2 : x4 = 0) (c6 : ¬ ((FMO_isItemOf S x5 x1) = 0)) (c10 : ¬ (x2 < ((S.2 50 ((100 + (x5 / 6)).toNatClampNeg)) + 31))) (c14 : (S.2 50 ((780 + x5).toNatClampNeg)) ≤ 0) : wfM S ∧ bt (x5 + 1) 240 := ⟨hJ.1, (by
    have k0 := hJ.2
    have m0 := hJ.1.1
    have m1 := hJ.1.2.1
    have m3 := hJ.1.2.2.1
    have m4 := hJ.1.2.2.2.1
    have m6 := hJ.1.2.2.2.2.2.2.1
    simp only [rg, bt, lp, vp_rg, Int32.lt_iff_toInt_lt, Int32.le_iff_toInt_le, Int64.lt_iff_toInt_lt, Int64.le_iff_toInt_le, l32, sI_2, tq_0, tq_1, tq_2, tq_6, tq_8, tq_10, tq_20, tq_30, tq_40, tl_0, tl_1, tl_2, tl_3, tl_4, tl_5, tl_6, tl_8, tl_10, tl_14, tl_20, tl_24, tl_30, tl_40, tl_50, tl_60, tl_70, tl_80, tl_100, tl_120, tl_140, tl_180, tl_220, tl_240, tl_260, tl_280, tl_300, tl_540, tl_780, tl_1020, tl_1180, tl_1190, tl_1200, tl_1220, tl_m1] at *
    have t0 : (x5 + 1).toInt = ((x5).toInt + 1) := (ti_add (a := (x5)) (b := (1 : Int32)) rfl tl_1 (by omega) (by omega))
    omega)⟩
theorem vc_FMO_hasOld_mu6_16 (S : hS) (x1 : Int32) (x2 : Int64) (x4 : Int32) (x5 : Int32) (hJ : wfM S ∧ bt x5 240) (c1 : ¬ (240 ≤ x5)) (c2 : x4 = 0) (c6 : ¬ ((FMO_isItemOf S x5 x1) = 0)) (c10 : ¬ (x2 < ((S.2 50 ((100 + (x5 / 6)).toNatClampNeg)) + 31))) (c14 : (S.2 50 ((780 + x5).toNatClampNeg)) ≤ 0) : ((240 - (x5 + 1).toInt).toNat) < ((240 - x5.toInt).toNat) := by
    have k0 := hJ.2
    have m0 := hJ.1.1
    have m1 := hJ.1.2.1
    have m3 := hJ.1.2.2.1
    have m4 := hJ.1.2.2.2.1
    have m6 := hJ.1.2.2.2.2.2.2.1
    simp only [rg, bt, lp, vp_rg, Int32.lt_iff_toInt_lt, Int32.le_iff_toInt_le, Int64.lt_iff_toInt_lt, Int64.le_iff_toInt_le, l32, sI_2, tq_0, tq_1, tq_2, tq_6, tq_8, tq_10, tq_20, tq_30, tq_40, tl_0, tl_1, tl_2, tl_3, tl_4, tl_5, tl_6, tl_8, tl_10, tl_14, tl_20, tl_24, tl_30, tl_40, tl_50, tl_60, tl_70, tl_80, tl_100, tl_120, tl_140, tl_180, tl_220, tl_240, tl_260, tl_280, tl_300, tl_540, tl_780, tl_1020, tl_1180, tl_1190, tl_1200, tl_1220, tl_m1] at *
    have t0 : (x5 + 1).toInt = ((x5).toInt + 1) := (ti_add (a := (x5)) (b := (1 : Int32)) rfl tl_1 (by omega) (by omega))
    omega
theorem vc_FMO_hasOld_inv6_17 (S : hS) (x1 : Int32) (x2 : Int64) (x4 : Int32) (x5 : Int32) (hJ : wfM S ∧ bt x5 240) (c1 : ¬ (240 ≤ x5)) (c2 : x4 = 0) (c6 : ¬ ((FMO_isItemOf S x5 x1) = 0)) (c10 : ¬ (x2 < ((S.2 50 ((100 + (x5 / 6)).toNatClampNeg)) + 31))) (c14 : ¬ ((S.2 50 ((780 + x5).toNatClampNeg)) ≤ 0)) : wfM S ∧ bt (x5 + 1) 240 := ⟨hJ.1, (by
    have k0 := hJ.2
    have m0 := hJ.1.1
    have m1 := hJ.1.2.1
    have m3 := hJ.1.2.2.1
    have m4 := hJ.1.2.2.2.1
    have m6 := hJ.1.2.2.2.2.2.2.1
    simp only [rg, bt, lp, vp_rg, Int32.lt_iff_toInt_lt, Int32.le_iff_toInt_le, Int64.lt_iff_toInt_lt, Int64.le_iff_toInt_le, l32, sI_2, tq_0, tq_1, tq_2, tq_6, tq_8, tq_10, tq_20, tq_30, tq_40, tl_0, tl_1, tl_2, tl_3, tl_4, tl_5, tl_6, tl_8, tl_10, tl_14, tl_20, tl_24, tl_30, tl_40, tl_50, tl_60, tl_70, tl_80, tl_100, tl_120, tl_140, tl_180, tl_220, tl_240, tl_260, tl_280, tl_300, tl_540, tl_780, tl_1020, tl_1180, tl_1190, tl_1200, tl_1220, tl_m1] at *
    have t0 : (x5 + 1).toInt = ((x5).toInt + 1) := (ti_add (a := (x5)) (b := (1 : Int32)) rfl tl_1 (by omega) (by omega))
    omega)⟩
theorem vc_FMO_hasOld_mu6_18 (S : hS) (x1 : Int32) (x2 : Int64) (x4 : Int32) (x5 : Int32) (hJ : wfM S ∧ bt x5 240) (c1 : ¬ (240 ≤ x5)) (c2 : x4 = 0) (c6 : ¬ ((FMO_isItemOf S x5 x1) = 0)) (c10 : ¬ (x2 < ((S.2 50 ((100 + (x5 / 6)).toNatClampNeg)) + 31))) (c14 : ¬ ((S.2 50 ((780 + x5).toNatClampNeg)) ≤ 0)) : ((240 - (x5 + 1).toInt).toNat) < ((240 - x5.toInt).toNat) := by
    have k0 := hJ.2
    have m0 := hJ.1.1
    have m1 := hJ.1.2.1
    have m3 := hJ.1.2.2.1
    have m4 := hJ.1.2.2.2.1
    have m6 := hJ.1.2.2.2.2.2.2.1
    simp only [rg, bt, lp, vp_rg, Int32.lt_iff_toInt_lt, Int32.le_iff_toInt_le, Int64.lt_iff_toInt_lt, Int64.le_iff_toInt_le, l32, sI_2, tq_0, tq_1, tq_2, tq_6, tq_8, tq_10, tq_20, tq_30, tq_40, tl_0, tl_1, tl_2, tl_3, tl_4, tl_5, tl_6, tl_8, tl_10, tl_14, tl_20, tl_24, tl_30, tl_40, tl_50, tl_60, tl_70, tl_80, tl_100, tl_120, tl_140, tl_180, tl_220, tl_240, tl_260, tl_280, tl_300, tl_540, tl_780, tl_1020, tl_1180, tl_1190, tl_1200, tl_1220, tl_m1] at *
    have t0 : (x5 + 1).toInt = ((x5).toInt + 1) := (ti_add (a := (x5)) (b := (1 : Int32)) rfl tl_1 (by omega) (by omega))
    omega
theorem vc_FMO_hasOld_inv06_20 (S : hS) (x1 : Int32) (x2 : Int64) (hp : wfM S) : wfM S ∧ bt (0 : Int32) 240 := ⟨hp, (by
    have m0 := hp.1
    have m1 := hp.2.1
    have m3 := hp.2.2.1
    have m4 := hp.2.2.2.1
    have m6 := hp.2.2.2.2.2.2.1
    simp only [rg, bt, lp, vp_rg, Int32.lt_iff_toInt_lt, Int32.le_iff_toInt_le, Int64.lt_iff_toInt_lt, Int64.le_iff_toInt_le, l32, sI_2, tq_0, tq_1, tq_2, tq_6, tq_8, tq_10, tq_20, tq_30, tq_40, tl_0, tl_1, tl_2, tl_3, tl_4, tl_5, tl_6, tl_8, tl_10, tl_14, tl_20, tl_24, tl_30, tl_40, tl_50, tl_60, tl_70, tl_80, tl_100, tl_120, tl_140, tl_180, tl_220, tl_240, tl_260, tl_280, tl_300, tl_540, tl_780, tl_1020, tl_1180, tl_1190, tl_1200, tl_1220, tl_m1] at *
    have t0 : (0 : Int32).toInt = 0 := tl_0
    omega)⟩
theorem vc_FMO_hasOld_mu06_21 (S : hS) (x1 : Int32) (x2 : Int64) (hp : wfM S) : ((240 - (0 : Int32).toInt).toNat) < 300 := by
    have m0 := hp.1
    have m1 := hp.2.1
    have m3 := hp.2.2.1
    have m4 := hp.2.2.2.1
    have m6 := hp.2.2.2.2.2.2.1
    simp only [rg, bt, lp, vp_rg, Int32.lt_iff_toInt_lt, Int32.le_iff_toInt_le, Int64.lt_iff_toInt_lt, Int64.le_iff_toInt_le, l32, sI_2, tq_0, tq_1, tq_2, tq_6, tq_8, tq_10, tq_20, tq_30, tq_40, tl_0, tl_1, tl_2, tl_3, tl_4, tl_5, tl_6, tl_8, tl_10, tl_14, tl_20, tl_24, tl_30, tl_40, tl_50, tl_60, tl_70, tl_80, tl_100, tl_120, tl_140, tl_180, tl_220, tl_240, tl_260, tl_280, tl_300, tl_540, tl_780, tl_1020, tl_1180, tl_1190, tl_1200, tl_1220, tl_m1] at *
    have t0 : (0 : Int32).toInt = 0 := tl_0
    omega
theorem vc_FMO_hasOld_bz82_22 (S : hS) (x1 : Int32) (x2 : Int64) (hp : wfM S) (y19_4 : Int32) (y19_5 : Int32) (hq19 : LMO_hasOld_6 300 S x1 x2 0 0 = (y19_4, y19_5)) : y19_4 &&& 1 = y19_4 := bz01 (by have h := old01 300 S x1 x2 0 0 (Or.inl rfl); rw [hq19] at h; exact h)
theorem vc_FMO_dun_pre7_1 (S : hS) (x1 : Int32) (x2 : Int64) (hp : wfM S) : wfM (sI S 49 4 0) := (wfM_I hp)
theorem vc_FMO_dun_ix30_4 (S : hS) (x1 : Int32) (x2 : Int64) (hp : wfM S) (c2 : ¬ ((FMO_isHousehold (sI S 49 4 0) x1) = 0)) (c3 : ¬ ((FMO_isDay (sI S 49 4 0) x2) = 0)) : vp_in (40 + x1) 1220 := by
    have m0 := hp.1
    have m1 := hp.2.1
    have m3 := hp.2.2.1
    have m4 := hp.2.2.2.1
    have m6 := hp.2.2.2.2.2.2.1
    have k0 := hhM (wfM_I hp) c2
    simp only [rg, bt, lp, vp_rg, Int32.lt_iff_toInt_lt, Int32.le_iff_toInt_le, Int64.lt_iff_toInt_lt, Int64.le_iff_toInt_le, l32, sI_2, tq_0, tq_1, tq_2, tq_6, tq_8, tq_10, tq_20, tq_30, tq_40, tl_0, tl_1, tl_2, tl_3, tl_4, tl_5, tl_6, tl_8, tl_10, tl_14, tl_20, tl_24, tl_30, tl_40, tl_50, tl_60, tl_70, tl_80, tl_100, tl_120, tl_140, tl_180, tl_220, tl_240, tl_260, tl_280, tl_300, tl_540, tl_780, tl_1020, tl_1180, tl_1190, tl_1200, tl_1220, tl_m1] at *
    have t0 : (40 + x1).toInt = (40 + (x1).toInt) := (ti_add (a := (40 : Int32)) (b := (x1)) tl_40 rfl (by omega) (by omega))
    omega
theorem vc_FMO_dun_pre71_6 (S : hS) (x1 : Int32) (x2 : Int64) (hp : wfM S) (c2 : ¬ ((FMO_isHousehold (sI S 49 4 0) x1) = 0)) (c3 : ¬ ((FMO_isDay (sI S 49 4 0) x2) = 0)) (c5 : (S.2 50 ((40 + x1).toNatClampNeg)) ≤ 0) : wfM (sI S 49 4 0) := (wfM_I hp)
theorem vc_FMO_dun_ix103_8 (S : hS) (x1 : Int32) (x2 : Int64) (hp : wfM S) (c2 : ¬ ((FMO_isHousehold (sI S 49 4 0) x1) = 0)) (c3 : ¬ ((FMO_isDay (sI S 49 4 0) x2) = 0)) (c5 : (S.2 50 ((40 + x1).toNatClampNeg)) ≤ 0) (c7 : ¬ ((FMO_hasOld (sI S 49 4 0) x1 x2) = 0)) : vp_in (20 + x1) 1220 := by
    have m0 := hp.1
    have m1 := hp.2.1
    have m3 := hp.2.2.1
    have m4 := hp.2.2.2.1
    have m6 := hp.2.2.2.2.2.2.1
    have k0 := hhM (wfM_I hp) c2
    simp only [rg, bt, lp, vp_rg, Int32.lt_iff_toInt_lt, Int32.le_iff_toInt_le, Int64.lt_iff_toInt_lt, Int64.le_iff_toInt_le, l32, sI_2, tq_0, tq_1, tq_2, tq_6, tq_8, tq_10, tq_20, tq_30, tq_40, tl_0, tl_1, tl_2, tl_3, tl_4, tl_5, tl_6, tl_8, tl_10, tl_14, tl_20, tl_24, tl_30, tl_40, tl_50, tl_60, tl_70, tl_80, tl_100, tl_120, tl_140, tl_180, tl_220, tl_240, tl_260, tl_280, tl_300, tl_540, tl_780, tl_1020, tl_1180, tl_1190, tl_1200, tl_1220, tl_m1] at *
    have t0 : (20 + x1).toInt = (20 + (x1).toInt) := (ti_add (a := (20 : Int32)) (b := (x1)) tl_20 rfl (by omega) (by omega))
    omega
theorem vc_FMO_dun_ix143_10 (S : hS) (x1 : Int32) (x2 : Int64) (hp : wfM S) (c2 : ¬ ((FMO_isHousehold (sI S 49 4 0) x1) = 0)) (c3 : ¬ ((FMO_isDay (sI S 49 4 0) x2) = 0)) (c5 : (S.2 50 ((40 + x1).toNatClampNeg)) ≤ 0) (c7 : ¬ ((FMO_hasOld (sI S 49 4 0) x1 x2) = 0)) (c9 : (S.2 50 ((20 + x1).toNatClampNeg)) = 0) : vp_in (20 + x1) 1220 := by
    have m0 := hp.1
    have m1 := hp.2.1
    have m3 := hp.2.2.1
    have m4 := hp.2.2.2.1
    have m6 := hp.2.2.2.2.2.2.1
    have k0 := hhM (wfM_I hp) c2
    simp only [rg, bt, lp, vp_rg, Int32.lt_iff_toInt_lt, Int32.le_iff_toInt_le, Int64.lt_iff_toInt_lt, Int64.le_iff_toInt_le, l32, sI_2, tq_0, tq_1, tq_2, tq_6, tq_8, tq_10, tq_20, tq_30, tq_40, tl_0, tl_1, tl_2, tl_3, tl_4, tl_5, tl_6, tl_8, tl_10, tl_14, tl_20, tl_24, tl_30, tl_40, tl_50, tl_60, tl_70, tl_80, tl_100, tl_120, tl_140, tl_180, tl_220, tl_240, tl_260, tl_280, tl_300, tl_540, tl_780, tl_1020, tl_1180, tl_1190, tl_1200, tl_1220, tl_m1] at *
    have t0 : (20 + x1).toInt = (20 + (x1).toInt) := (ti_add (a := (20 : Int32)) (b := (x1)) tl_20 rfl (by omega) (by omega))
    omega
theorem vc_FMO_dun_ix165_12 (S : hS) (x1 : Int32) (x2 : Int64) (hp : wfM S) (c2 : ¬ ((FMO_isHousehold (sI S 49 4 0) x1) = 0)) (c3 : ¬ ((FMO_isDay (sI S 49 4 0) x2) = 0)) (c5 : (S.2 50 ((40 + x1).toNatClampNeg)) ≤ 0) (c7 : ¬ ((FMO_hasOld (sI S 49 4 0) x1 x2) = 0)) (c9 : (S.2 50 ((20 + x1).toNatClampNeg)) = 0) (c11 : ¬ ((S.2 50 ((20 + x1).toNatClampNeg)) = 3)) : vp_in (20 + x1) 1220 := by
    have m0 := hp.1
    have m1 := hp.2.1
    have m3 := hp.2.2.1
    have m4 := hp.2.2.2.1
    have m6 := hp.2.2.2.2.2.2.1
    have k0 := hhM (wfM_I hp) c2
    have k1 := ne64 c11
    simp only [rg, bt, lp, vp_rg, Int32.lt_iff_toInt_lt, Int32.le_iff_toInt_le, Int64.lt_iff_toInt_lt, Int64.le_iff_toInt_le, l32, sI_2, tq_0, tq_1, tq_2, tq_6, tq_8, tq_10, tq_20, tq_30, tq_40, tl_0, tl_1, tl_2, tl_3, tl_4, tl_5, tl_6, tl_8, tl_10, tl_14, tl_20, tl_24, tl_30, tl_40, tl_50, tl_60, tl_70, tl_80, tl_100, tl_120, tl_140, tl_180, tl_220, tl_240, tl_260, tl_280, tl_300, tl_540, tl_780, tl_1020, tl_1180, tl_1190, tl_1200, tl_1220, tl_m1] at *
    have t0 : (20 + x1).toInt = (20 + (x1).toInt) := (ti_add (a := (20 : Int32)) (b := (x1)) tl_20 rfl (by omega) (by omega))
    omega
theorem vc_FMO_dun_ix168_13 (S : hS) (x1 : Int32) (x2 : Int64) (hp : wfM S) (c2 : ¬ ((FMO_isHousehold (sI S 49 4 0) x1) = 0)) (c3 : ¬ ((FMO_isDay (sI S 49 4 0) x2) = 0)) (c5 : (S.2 50 ((40 + x1).toNatClampNeg)) ≤ 0) (c7 : ¬ ((FMO_hasOld (sI S 49 4 0) x1 x2) = 0)) (c9 : (S.2 50 ((20 + x1).toNatClampNeg)) = 0) (c11 : ¬ ((S.2 50 ((20 + x1).toNatClampNeg)) = 3)) : vp_in (20 + x1) 1220 := by
    have m0 := hp.1
    have m1 := hp.2.1
    have m3 := hp.2.2.1
    have m4 := hp.2.2.2.1
    have m6 := hp.2.2.2.2.2.2.1
    have k0 := hhM (wfM_I hp) c2
    have k1 := ne64 c11
    simp only [rg, bt, lp, vp_rg, Int32.lt_iff_toInt_lt, Int32.le_iff_toInt_le, Int64.lt_iff_toInt_lt, Int64.le_iff_toInt_le, l32, sI_2, tq_0, tq_1, tq_2, tq_6, tq_8, tq_10, tq_20, tq_30, tq_40, tl_0, tl_1, tl_2, tl_3, tl_4, tl_5, tl_6, tl_8, tl_10, tl_14, tl_20, tl_24, tl_30, tl_40, tl_50, tl_60, tl_70, tl_80, tl_100, tl_120, tl_140, tl_180, tl_220, tl_240, tl_260, tl_280, tl_300, tl_540, tl_780, tl_1020, tl_1180, tl_1190, tl_1200, tl_1220, tl_m1] at *
    have t0 : (20 + x1).toInt = (20 + (x1).toInt) := (ti_add (a := (20 : Int32)) (b := (x1)) tl_20 rfl (by omega) (by omega))
    omega
theorem vc_FMO_dun_ix178_14 (S : hS) (x1 : Int32) (x2 : Int64) (hp : wfM S) (c2 : ¬ ((FMO_isHousehold (sI S 49 4 0) x1) = 0)) (c3 : ¬ ((FMO_isDay (sI S 49 4 0) x2) = 0)) (c5 : (S.2 50 ((40 + x1).toNatClampNeg)) ≤ 0) (c7 : ¬ ((FMO_hasOld (sI S 49 4 0) x1 x2) = 0)) (c9 : (S.2 50 ((20 + x1).toNatClampNeg)) = 0) (c11 : ¬ ((S.2 50 ((20 + x1).toNatClampNeg)) = 3)) : vp_in (30 + x1) 1220 := by
    have m0 := hp.1
    have m1 := hp.2.1
    have m3 := hp.2.2.1
    have m4 := hp.2.2.2.1
    have m6 := hp.2.2.2.2.2.2.1
    have k0 := hhM (wfM_I hp) c2
    have k1 := ne64 c11
    simp only [rg, bt, lp, vp_rg, Int32.lt_iff_toInt_lt, Int32.le_iff_toInt_le, Int64.lt_iff_toInt_lt, Int64.le_iff_toInt_le, l32, sI_2, tq_0, tq_1, tq_2, tq_6, tq_8, tq_10, tq_20, tq_30, tq_40, tl_0, tl_1, tl_2, tl_3, tl_4, tl_5, tl_6, tl_8, tl_10, tl_14, tl_20, tl_24, tl_30, tl_40, tl_50, tl_60, tl_70, tl_80, tl_100, tl_120, tl_140, tl_180, tl_220, tl_240, tl_260, tl_280, tl_300, tl_540, tl_780, tl_1020, tl_1180, tl_1190, tl_1200, tl_1220, tl_m1] at *
    have t0 : (30 + x1).toInt = (30 + (x1).toInt) := (ti_add (a := (30 : Int32)) (b := (x1)) tl_30 rfl (by omega) (by omega))
    omega
theorem vc_FMO_dun_ix187_15 (S : hS) (x1 : Int32) (x2 : Int64) (hp : wfM S) (c2 : ¬ ((FMO_isHousehold (sI S 49 4 0) x1) = 0)) (c3 : ¬ ((FMO_isDay (sI S 49 4 0) x2) = 0)) (c5 : (S.2 50 ((40 + x1).toNatClampNeg)) ≤ 0) (c7 : ¬ ((FMO_hasOld (sI S 49 4 0) x1 x2) = 0)) (c9 : (S.2 50 ((20 + x1).toNatClampNeg)) = 0) (c11 : ¬ ((S.2 50 ((20 + x1).toNatClampNeg)) = 3)) : vp_in (20 + x1) 1220 := by
    have m0 := hp.1
    have m1 := hp.2.1
    have m3 := hp.2.2.1
    have m4 := hp.2.2.2.1
    have m6 := hp.2.2.2.2.2.2.1
    have k0 := hhM (wfM_I hp) c2
    have k1 := ne64 c11
    simp only [rg, bt, lp, vp_rg, Int32.lt_iff_toInt_lt, Int32.le_iff_toInt_le, Int64.lt_iff_toInt_lt, Int64.le_iff_toInt_le, l32, sI_2, tq_0, tq_1, tq_2, tq_6, tq_8, tq_10, tq_20, tq_30, tq_40, tl_0, tl_1, tl_2, tl_3, tl_4, tl_5, tl_6, tl_8, tl_10, tl_14, tl_20, tl_24, tl_30, tl_40, tl_50, tl_60, tl_70, tl_80, tl_100, tl_120, tl_140, tl_180, tl_220, tl_240, tl_260, tl_280, tl_300, tl_540, tl_780, tl_1020, tl_1180, tl_1190, tl_1200, tl_1220, tl_m1] at *
    have t0 : (20 + x1).toInt = (20 + (x1).toInt) := (ti_add (a := (20 : Int32)) (b := (x1)) tl_20 rfl (by omega) (by omega))
    omega
theorem vc_FMO_dun_ix168_16 (S : hS) (x1 : Int32) (x2 : Int64) (hp : wfM S) (c2 : ¬ ((FMO_isHousehold (sI S 49 4 0) x1) = 0)) (c3 : ¬ ((FMO_isDay (sI S 49 4 0) x2) = 0)) (c5 : (S.2 50 ((40 + x1).toNatClampNeg)) ≤ 0) (c7 : ¬ ((FMO_hasOld (sI S 49 4 0) x1 x2) = 0)) (c9 : (S.2 50 ((20 + x1).toNatClampNeg)) = 0) (c11 : (S.2 50 ((20 + x1).toNatClampNeg)) = 3) : vp_in (20 + x1) 1220 := by
    have m0 := hp.1
    have m1 := hp.2.1
    have m3 := hp.2.2.1
    have m4 := hp.2.2.2.1
    have m6 := hp.2.2.2.2.2.2.1
    have k0 := hhM (wfM_I hp) c2
    simp only [rg, bt, lp, vp_rg, Int32.lt_iff_toInt_lt, Int32.le_iff_toInt_le, Int64.lt_iff_toInt_lt, Int64.le_iff_toInt_le, l32, sI_2, tq_0, tq_1, tq_2, tq_6, tq_8, tq_10, tq_20, tq_30, tq_40, tl_0, tl_1, tl_2, tl_3, tl_4, tl_5, tl_6, tl_8, tl_10, tl_14, tl_20, tl_24, tl_30, tl_40, tl_50, tl_60, tl_70, tl_80, tl_100, tl_120, tl_140, tl_180, tl_220, tl_240, tl_260, tl_280, tl_300, tl_540, tl_780, tl_1020, tl_1180, tl_1190, tl_1200, tl_1220, tl_m1] at *
    have t0 : (20 + x1).toInt = (20 + (x1).toInt) := (ti_add (a := (20 : Int32)) (b := (x1)) tl_20 rfl (by omega) (by omega))
    omega
theorem vc_FMO_dun_ix178_17 (S : hS) (x1 : Int32) (x2 : Int64) (hp : wfM S) (c2 : ¬ ((FMO_isHousehold (sI S 49 4 0) x1) = 0)) (c3 : ¬ ((FMO_isDay (sI S 49 4 0) x2) = 0)) (c5 : (S.2 50 ((40 + x1).toNatClampNeg)) ≤ 0) (c7 : ¬ ((FMO_hasOld (sI S 49 4 0) x1 x2) = 0)) (c9 : (S.2 50 ((20 + x1).toNatClampNeg)) = 0) (c11 : (S.2 50 ((20 + x1).toNatClampNeg)) = 3) : vp_in (30 + x1) 1220 := by
    have m0 := hp.1
    have m1 := hp.2.1
    have m3 := hp.2.2.1
    have m4 := hp.2.2.2.1
    have m6 := hp.2.2.2.2.2.2.1
    have k0 := hhM (wfM_I hp) c2
    simp only [rg, bt, lp, vp_rg, Int32.lt_iff_toInt_lt, Int32.le_iff_toInt_le, Int64.lt_iff_toInt_lt, Int64.le_iff_toInt_le, l32, sI_2, tq_0, tq_1, tq_2, tq_6, tq_8, tq_10, tq_20, tq_30, tq_40, tl_0, tl_1, tl_2, tl_3, tl_4, tl_5, tl_6, tl_8, tl_10, tl_14, tl_20, tl_24, tl_30, tl_40, tl_50, tl_60, tl_70, tl_80, tl_100, tl_120, tl_140, tl_180, tl_220, tl_240, tl_260, tl_280, tl_300, tl_540, tl_780, tl_1020, tl_1180, tl_1190, tl_1200, tl_1220, tl_m1] at *
    have t0 : (30 + x1).toInt = (30 + (x1).toInt) := (ti_add (a := (30 : Int32)) (b := (x1)) tl_30 rfl (by omega) (by omega))
    omega
theorem vc_FMO_dun_ix187_18 (S : hS) (x1 : Int32) (x2 : Int64) (hp : wfM S) (c2 : ¬ ((FMO_isHousehold (sI S 49 4 0) x1) = 0)) (c3 : ¬ ((FMO_isDay (sI S 49 4 0) x2) = 0)) (c5 : (S.2 50 ((40 + x1).toNatClampNeg)) ≤ 0) (c7 : ¬ ((FMO_hasOld (sI S 49 4 0) x1 x2) = 0)) (c9 : (S.2 50 ((20 + x1).toNatClampNeg)) = 0) (c11 : (S.2 50 ((20 + x1).toNatClampNeg)) = 3) : vp_in (20 + x1) 1220 := by
    have m0 := hp.1
    have m1 := hp.2.1
    have m3 := hp.2.2.1
    have m4 := hp.2.2.2.1
    have m6 := hp.2.2.2.2.2.2.1
    have k0 := hhM (wfM_I hp) c2
    simp only [rg, bt, lp, vp_rg, Int32.lt_iff_toInt_lt, Int32.le_iff_toInt_le, Int64.lt_iff_toInt_lt, Int64.le_iff_toInt_le, l32, sI_2, tq_0, tq_1, tq_2, tq_6, tq_8, tq_10, tq_20, tq_30, tq_40, tl_0, tl_1, tl_2, tl_3, tl_4, tl_5, tl_6, tl_8, tl_10, tl_14, tl_20, tl_24, tl_30, tl_40, tl_50, tl_60, tl_70, tl_80, tl_100, tl_120, tl_140, tl_180, tl_220, tl_240, tl_260, tl_280, tl_300, tl_540, tl_780, tl_1020, tl_1180, tl_1190, tl_1200, tl_1220, tl_m1] at *
    have t0 : (20 + x1).toInt = (20 + (x1).toInt) := (ti_add (a := (20 : Int32)) (b := (x1)) tl_20 rfl (by omega) (by omega))
    omega
