theorem vc_FJO_itemOf_mu14_8 (S : hS) (x1 : Int32) (x2 : Int32) (x3 : Int32) (x4 : Int32) (x5 : Int32) (hJ : wfC S ∧ lp x5 x4) (c1 : ¬ (x4 ≤ x5)) (c3 : ¬ ((FJO_itemAt S x5 x1) = (-1))) (c6 : ¬ (x3 = x2)) : ((x4.toInt - (x5 + 1).toInt).toNat) < ((x4.toInt - x5.toInt).toNat) := by
    have k0 := hJ.2
    have wa := hJ.1.1
    have wb := hJ.1.2.1
    have wg := hJ.1.2.2.1
    have wp := hJ.1.2.2.2.1
    have wq := hJ.1.2.2.2.2.1
    have wr := hJ.1.2.2.2.2.2.2.2
    simp only [rg, bt, lp, vp_rg, Int32.lt_iff_toInt_lt, Int32.le_iff_toInt_le, Int64.lt_iff_toInt_lt, Int64.le_iff_toInt_le, l32, sI_2, tq_0, tq_1, tq_2, tq_6, tq_8, tq_10, tq_20, tq_30, tq_40, tl_0, tl_1, tl_2, tl_3, tl_4, tl_5, tl_6, tl_8, tl_10, tl_14, tl_20, tl_24, tl_30, tl_40, tl_50, tl_60, tl_70, tl_80, tl_100, tl_120, tl_140, tl_180, tl_220, tl_240, tl_260, tl_280, tl_300, tl_540, tl_780, tl_1020, tl_1180, tl_1190, tl_1200, tl_1220, tl_m1] at *
    have k1 := itC hJ.1 (by simp only [rg]; omega) c3
    simp only [rg] at k1
    have t0 : (x5 + 1).toInt = ((x5).toInt + 1) := (ti_add (a := (x5)) (b := (1 : Int32)) rfl tl_1 (by omega) (by omega))
    omega
theorem vc_FJO_itemOf_inv014_10 (S : hS) (x1 : Int32) (x2 : Int32) (hp : wfC S) : wfC S ∧ lp (0 : Int32) ((S.1 10 0) * 6) := ⟨hp, (by
    have wa := hp.1
    have wb := hp.2.1
    have wg := hp.2.2.1
    have wp := hp.2.2.2.1
    have wq := hp.2.2.2.2.1
    have wr := hp.2.2.2.2.2.2.2
    simp only [rg, bt, lp, vp_rg, Int32.lt_iff_toInt_lt, Int32.le_iff_toInt_le, Int64.lt_iff_toInt_lt, Int64.le_iff_toInt_le, l32, sI_2, tq_0, tq_1, tq_2, tq_6, tq_8, tq_10, tq_20, tq_30, tq_40, tl_0, tl_1, tl_2, tl_3, tl_4, tl_5, tl_6, tl_8, tl_10, tl_14, tl_20, tl_24, tl_30, tl_40, tl_50, tl_60, tl_70, tl_80, tl_100, tl_120, tl_140, tl_180, tl_220, tl_240, tl_260, tl_280, tl_300, tl_540, tl_780, tl_1020, tl_1180, tl_1190, tl_1200, tl_1220, tl_m1] at *
    have t0 : (0 : Int32).toInt = 0 := tl_0
    have t1 : ((S.1 10 0) * 6).toInt = ((S.1 10 0).toInt * 6) := (ti_mul (a := (S.1 10 0)) (b := (6 : Int32)) rfl tl_6 (by omega) (by omega))
    omega)⟩
theorem vc_FJO_itemOf_mu014_11 (S : hS) (x1 : Int32) (x2 : Int32) (hp : wfC S) : ((((S.1 10 0) * 6).toInt - (0 : Int32).toInt).toNat) < 300 := by
    have wa := hp.1
    have wb := hp.2.1
    have wg := hp.2.2.1
    have wp := hp.2.2.2.1
    have wq := hp.2.2.2.2.1
    have wr := hp.2.2.2.2.2.2.2
    simp only [rg, bt, lp, vp_rg, Int32.lt_iff_toInt_lt, Int32.le_iff_toInt_le, Int64.lt_iff_toInt_lt, Int64.le_iff_toInt_le, l32, sI_2, tq_0, tq_1, tq_2, tq_6, tq_8, tq_10, tq_20, tq_30, tq_40, tl_0, tl_1, tl_2, tl_3, tl_4, tl_5, tl_6, tl_8, tl_10, tl_14, tl_20, tl_24, tl_30, tl_40, tl_50, tl_60, tl_70, tl_80, tl_100, tl_120, tl_140, tl_180, tl_220, tl_240, tl_260, tl_280, tl_300, tl_540, tl_780, tl_1020, tl_1180, tl_1190, tl_1200, tl_1220, tl_m1] at *
    have t0 : ((S.1 10 0) * 6).toInt = ((S.1 10 0).toInt * 6) := (ti_mul (a := (S.1 10 0)) (b := (6 : Int32)) rfl tl_6 (by omega) (by omega))
    have t1 : (0 : Int32).toInt = 0 := tl_0
    omega
theorem vc_FHL_item_pre8_1 (S : hS) (x1 : Int32) (x2 : Int32) (hp : wfC S) : wfC S := hp
theorem vc_FHL_item_pre27_3 (S : hS) (x1 : Int32) (x2 : Int32) (hp : wfC S) (c2 : ¬ ((FAC_hasHousehold S x1) = 0)) : wfC S := hp
theorem vc_FHL_item_ix53_5 (S : hS) (x1 : Int32) (x2 : Int32) (hp : wfC S) (c2 : ¬ ((FAC_hasHousehold S x1) = 0)) (c4 : ¬ ((FJO_itemOf S x1 x2) = (-1))) : vp_in (FJO_itemOf S x1 x2) 240 := vp_rg.mpr (ioC hp c4)
theorem vc_FJO_toldGift_ix20_2 (S : hS) (x1 : Int32) (x2 : Int32) (x3 : Int32) (x4 : Int32) (hJ : wfC S ∧ 0 ≤ x4.toInt) (c1 : ¬ ((S.1 10 8) ≤ x4)) : vp_in x4 280 := by
    have k0 := hJ.2
    have wa := hJ.1.1
    have wb := hJ.1.2.1
    have wg := hJ.1.2.2.1
    have wp := hJ.1.2.2.2.1
    have wq := hJ.1.2.2.2.2.1
    have wr := hJ.1.2.2.2.2.2.2.2
    simp only [rg, bt, lp, vp_rg, Int32.lt_iff_toInt_lt, Int32.le_iff_toInt_le, Int64.lt_iff_toInt_lt, Int64.le_iff_toInt_le, l32, sI_2, tq_0, tq_1, tq_2, tq_6, tq_8, tq_10, tq_20, tq_30, tq_40, tl_0, tl_1, tl_2, tl_3, tl_4, tl_5, tl_6, tl_8, tl_10, tl_14, tl_20, tl_24, tl_30, tl_40, tl_50, tl_60, tl_70, tl_80, tl_100, tl_120, tl_140, tl_180, tl_220, tl_240, tl_260, tl_280, tl_300, tl_540, tl_780, tl_1020, tl_1180, tl_1190, tl_1200, tl_1220, tl_m1] at *
    omega
theorem vc_FJO_toldGift_inv5_4 (S : hS) (x1 : Int32) (x2 : Int32) (x3 : Int32) (x4 : Int32) (hJ : wfC S ∧ 0 ≤ x4.toInt) (c1 : ¬ ((S.1 10 8) ≤ x4)) (c3 : ¬ ((S.1 18 x4.toNatClampNeg) = x1)) : wfC S ∧ 0 ≤ (x4 + 1).toInt := ⟨hJ.1, (by
    have k0 := hJ.2
    have wa := hJ.1.1
    have wb := hJ.1.2.1
    have wg := hJ.1.2.2.1
    have wp := hJ.1.2.2.2.1
    have wq := hJ.1.2.2.2.2.1
    have wr := hJ.1.2.2.2.2.2.2.2
    simp only [rg, bt, lp, vp_rg, Int32.lt_iff_toInt_lt, Int32.le_iff_toInt_le, Int64.lt_iff_toInt_lt, Int64.le_iff_toInt_le, l32, sI_2, tq_0, tq_1, tq_2, tq_6, tq_8, tq_10, tq_20, tq_30, tq_40, tl_0, tl_1, tl_2, tl_3, tl_4, tl_5, tl_6, tl_8, tl_10, tl_14, tl_20, tl_24, tl_30, tl_40, tl_50, tl_60, tl_70, tl_80, tl_100, tl_120, tl_140, tl_180, tl_220, tl_240, tl_260, tl_280, tl_300, tl_540, tl_780, tl_1020, tl_1180, tl_1190, tl_1200, tl_1220, tl_m1] at *
    have t0 : (x4 + 1).toInt = ((x4).toInt + 1) := (ti_add (a := (x4)) (b := (1 : Int32)) rfl tl_1 (by omega) (by omega))
    omega)⟩
theorem vc_FJO_toldGift_mu5_5 (S : hS) (x1 : Int32) (x2 : Int32) (x3 : Int32) (x4 : Int32) (hJ : wfC S ∧ 0 ≤ x4.toInt) (c1 : ¬ ((S.1 10 8) ≤ x4)) (c3 : ¬ ((S.1 18 x4.toNatClampNeg) = x1)) : (((S.1 10 8).toInt - (x4 + 1).toInt).toNat) < (((S.1 10 8).toInt - x4.toInt).toNat) := by
    have k0 := hJ.2
    have wa := hJ.1.1
    have wb := hJ.1.2.1
    have wg := hJ.1.2.2.1
    have wp := hJ.1.2.2.2.1
    have wq := hJ.1.2.2.2.2.1
    have wr := hJ.1.2.2.2.2.2.2.2
    simp only [rg, bt, lp, vp_rg, Int32.lt_iff_toInt_lt, Int32.le_iff_toInt_le, Int64.lt_iff_toInt_lt, Int64.le_iff_toInt_le, l32, sI_2, tq_0, tq_1, tq_2, tq_6, tq_8, tq_10, tq_20, tq_30, tq_40, tl_0, tl_1, tl_2, tl_3, tl_4, tl_5, tl_6, tl_8, tl_10, tl_14, tl_20, tl_24, tl_30, tl_40, tl_50, tl_60, tl_70, tl_80, tl_100, tl_120, tl_140, tl_180, tl_220, tl_240, tl_260, tl_280, tl_300, tl_540, tl_780, tl_1020, tl_1180, tl_1190, tl_1200, tl_1220, tl_m1] at *
    have t1 : (x4 + 1).toInt = ((x4).toInt + 1) := (ti_add (a := (x4)) (b := (1 : Int32)) rfl tl_1 (by omega) (by omega))
    omega
theorem vc_FJO_toldGift_inv5_7 (S : hS) (x1 : Int32) (x2 : Int32) (x3 : Int32) (x4 : Int32) (hJ : wfC S ∧ 0 ≤ x4.toInt) (c1 : ¬ ((S.1 10 8) ≤ x4)) (c3 : (S.1 18 x4.toNatClampNeg) = x1) (c6 : ¬ (x3 = x2)) : wfC S ∧ 0 ≤ (x4 + 1).toInt := ⟨hJ.1, (by
    have k0 := hJ.2
    have wa := hJ.1.1
    have wb := hJ.1.2.1
    have wg := hJ.1.2.2.1
    have wp := hJ.1.2.2.2.1
    have wq := hJ.1.2.2.2.2.1
    have wr := hJ.1.2.2.2.2.2.2.2
    simp only [rg, bt, lp, vp_rg, Int32.lt_iff_toInt_lt, Int32.le_iff_toInt_le, Int64.lt_iff_toInt_lt, Int64.le_iff_toInt_le, l32, sI_2, tq_0, tq_1, tq_2, tq_6, tq_8, tq_10, tq_20, tq_30, tq_40, tl_0, tl_1, tl_2, tl_3, tl_4, tl_5, tl_6, tl_8, tl_10, tl_14, tl_20, tl_24, tl_30, tl_40, tl_50, tl_60, tl_70, tl_80, tl_100, tl_120, tl_140, tl_180, tl_220, tl_240, tl_260, tl_280, tl_300, tl_540, tl_780, tl_1020, tl_1180, tl_1190, tl_1200, tl_1220, tl_m1] at *
    have t0 : (x4 + 1).toInt = ((x4).toInt + 1) := (ti_add (a := (x4)) (b := (1 : Int32)) rfl tl_1 (by omega) (by omega))
    omega)⟩
theorem vc_FJO_toldGift_mu5_8 (S : hS) (x1 : Int32) (x2 : Int32) (x3 : Int32) (x4 : Int32) (hJ : wfC S ∧ 0 ≤ x4.toInt) (c1 : ¬ ((S.1 10 8) ≤ x4)) (c3 : (S.1 18 x4.toNatClampNeg) = x1) (c6 : ¬ (x3 = x2)) : (((S.1 10 8).toInt - (x4 + 1).toInt).toNat) < (((S.1 10 8).toInt - x4.toInt).toNat) := by
    have k0 := hJ.2
    have wa := hJ.1.1
    have wb := hJ.1.2.1
    have wg := hJ.1.2.2.1
    have wp := hJ.1.2.2.2.1
    have wq := hJ.1.2.2.2.2.1
    have wr := hJ.1.2.2.2.2.2.2.2
    simp only [rg, bt, lp, vp_rg, Int32.lt_iff_toInt_lt, Int32.le_iff_toInt_le, Int64.lt_iff_toInt_lt, Int64.le_iff_toInt_le, l32, sI_2, tq_0, tq_1, tq_2, tq_6, tq_8, tq_10, tq_20, tq_30, tq_40, tl_0, tl_1, tl_2, tl_3, tl_4, tl_5, tl_6, tl_8, tl_10, tl_14, tl_20, tl_24, tl_30, tl_40, tl_50, tl_60, tl_70, tl_80, tl_100, tl_120, tl_140, tl_180, tl_220, tl_240, tl_260, tl_280, tl_300, tl_540, tl_780, tl_1020, tl_1180, tl_1190, tl_1200, tl_1220, tl_m1] at *
    have t1 : (x4 + 1).toInt = ((x4).toInt + 1) := (ti_add (a := (x4)) (b := (1 : Int32)) rfl tl_1 (by omega) (by omega))
    omega
theorem vc_FJO_toldGift_ix36_9 (S : hS) (x1 : Int32) (x2 : Int32) (x3 : Int32) (x4 : Int32) (hJ : wfC S ∧ 0 ≤ x4.toInt) (c1 : ¬ ((S.1 10 8) ≤ x4)) (c3 : (S.1 18 x4.toNatClampNeg) = x1) (c6 : x3 = x2) : vp_in x4 280 := by
    have k0 := hJ.2
    have wa := hJ.1.1
    have wb := hJ.1.2.1
    have wg := hJ.1.2.2.1
    have wp := hJ.1.2.2.2.1
    have wq := hJ.1.2.2.2.2.1
    have wr := hJ.1.2.2.2.2.2.2.2
    simp only [rg, bt, lp, vp_rg, Int32.lt_iff_toInt_lt, Int32.le_iff_toInt_le, Int64.lt_iff_toInt_lt, Int64.le_iff_toInt_le, l32, sI_2, tq_0, tq_1, tq_2, tq_6, tq_8, tq_10, tq_20, tq_30, tq_40, tl_0, tl_1, tl_2, tl_3, tl_4, tl_5, tl_6, tl_8, tl_10, tl_14, tl_20, tl_24, tl_30, tl_40, tl_50, tl_60, tl_70, tl_80, tl_100, tl_120, tl_140, tl_180, tl_220, tl_240, tl_260, tl_280, tl_300, tl_540, tl_780, tl_1020, tl_1180, tl_1190, tl_1200, tl_1220, tl_m1] at *
    omega
theorem vc_FJO_toldGift_inv05_11 (S : hS) (x1 : Int32) (x2 : Int32) (hp : wfC S) : wfC S ∧ 0 ≤ (0 : Int32).toInt := ⟨hp, (by
    have wa := hp.1
    have wb := hp.2.1
    have wg := hp.2.2.1
    have wp := hp.2.2.2.1
    have wq := hp.2.2.2.2.1
    have wr := hp.2.2.2.2.2.2.2
    simp only [rg, bt, lp, vp_rg, Int32.lt_iff_toInt_lt, Int32.le_iff_toInt_le, Int64.lt_iff_toInt_lt, Int64.le_iff_toInt_le, l32, sI_2, tq_0, tq_1, tq_2, tq_6, tq_8, tq_10, tq_20, tq_30, tq_40, tl_0, tl_1, tl_2, tl_3, tl_4, tl_5, tl_6, tl_8, tl_10, tl_14, tl_20, tl_24, tl_30, tl_40, tl_50, tl_60, tl_70, tl_80, tl_100, tl_120, tl_140, tl_180, tl_220, tl_240, tl_260, tl_280, tl_300, tl_540, tl_780, tl_1020, tl_1180, tl_1190, tl_1200, tl_1220, tl_m1] at *
    have t0 : (0 : Int32).toInt = 0 := tl_0
    omega)⟩
theorem vc_FJO_toldGift_mu05_12 (S : hS) (x1 : Int32) (x2 : Int32) (hp : wfC S) : (((S.1 10 8).toInt - (0 : Int32).toInt).toNat) < 300 := by
    have wa := hp.1
    have wb := hp.2.1
    have wg := hp.2.2.1
    have wp := hp.2.2.2.1
    have wq := hp.2.2.2.2.1
    have wr := hp.2.2.2.2.2.2.2
    simp only [rg, bt, lp, vp_rg, Int32.lt_iff_toInt_lt, Int32.le_iff_toInt_le, Int64.lt_iff_toInt_lt, Int64.le_iff_toInt_le, l32, sI_2, tq_0, tq_1, tq_2, tq_6, tq_8, tq_10, tq_20, tq_30, tq_40, tl_0, tl_1, tl_2, tl_3, tl_4, tl_5, tl_6, tl_8, tl_10, tl_14, tl_20, tl_24, tl_30, tl_40, tl_50, tl_60, tl_70, tl_80, tl_100, tl_120, tl_140, tl_180, tl_220, tl_240, tl_260, tl_280, tl_300, tl_540, tl_780, tl_1020, tl_1180, tl_1190, tl_1200, tl_1220, tl_m1] at *
    have t1 : (0 : Int32).toInt = 0 := tl_0
    omega
theorem vc_FHL_opened_pre9_1 (S : hS) (x1 : Int32) (x2 : Int32) (hp : wfC S) : wfC S := hp
theorem vc_FJO_daysLate_ix10_1 (S : hS) (x1 : Int32) (x2 : Int32) (hp : wfC S ∧ rg x1 240) : vp_in (x1 / 6) 40 := by
    have k0 := hp.2
    have wa := hp.1.1
    have wb := hp.1.2.1
    have wg := hp.1.2.2.1
    have wp := hp.1.2.2.2.1
    have wq := hp.1.2.2.2.2.1
    have wr := hp.1.2.2.2.2.2.2.2
    simp only [rg, bt, lp, vp_rg, Int32.lt_iff_toInt_lt, Int32.le_iff_toInt_le, Int64.lt_iff_toInt_lt, Int64.le_iff_toInt_le, l32, sI_2, tq_0, tq_1, tq_2, tq_6, tq_8, tq_10, tq_20, tq_30, tq_40, tl_0, tl_1, tl_2, tl_3, tl_4, tl_5, tl_6, tl_8, tl_10, tl_14, tl_20, tl_24, tl_30, tl_40, tl_50, tl_60, tl_70, tl_80, tl_100, tl_120, tl_140, tl_180, tl_220, tl_240, tl_260, tl_280, tl_300, tl_540, tl_780, tl_1020, tl_1180, tl_1190, tl_1200, tl_1220, tl_m1] at *
    have t0 : (x1 / 6).toInt = ((x1).toInt / 6) := (ti_div (a := (x1)) (b := (6 : Int32)) rfl tl_6 (by omega) (by omega))
    omega
theorem vc_FJO_isOverdue_pre21_2 (S : hS) (x1 : Int32) (x2 : Int32) (x3 : Int32) (x4 : Int32) (hJ : wfC S ∧ lp x4 x3) (c1 : ¬ (x3 ≤ x4)) : wfC S ∧ rg x4 240 := ⟨hJ.1, (by
    have k0 := hJ.2
    have wa := hJ.1.1
    have wb := hJ.1.2.1
    have wg := hJ.1.2.2.1
    have wp := hJ.1.2.2.2.1
    have wq := hJ.1.2.2.2.2.1
    have wr := hJ.1.2.2.2.2.2.2.2
    simp only [rg, bt, lp, vp_rg, Int32.lt_iff_toInt_lt, Int32.le_iff_toInt_le, Int64.lt_iff_toInt_lt, Int64.le_iff_toInt_le, l32, sI_2, tq_0, tq_1, tq_2, tq_6, tq_8, tq_10, tq_20, tq_30, tq_40, tl_0, tl_1, tl_2, tl_3, tl_4, tl_5, tl_6, tl_8, tl_10, tl_14, tl_20, tl_24, tl_30, tl_40, tl_50, tl_60, tl_70, tl_80, tl_100, tl_120, tl_140, tl_180, tl_220, tl_240, tl_260, tl_280, tl_300, tl_540, tl_780, tl_1020, tl_1180, tl_1190, tl_1200, tl_1220, tl_m1] at *
    omega)⟩
theorem vc_FJO_isOverdue_inv11_4 (S : hS) (x1 : Int32) (x2 : Int32) (x3 : Int32) (x4 : Int32) (hJ : wfC S ∧ lp x4 x3) (c1 : ¬ (x3 ≤ x4)) (c3 : (FJO_itemAt S x4 x1) = (-1)) : wfC S ∧ lp (x4 + 1) x3 := ⟨hJ.1, (by
    have k0 := hJ.2
    have wa := hJ.1.1
    have wb := hJ.1.2.1
    have wg := hJ.1.2.2.1
    have wp := hJ.1.2.2.2.1
    have wq := hJ.1.2.2.2.2.1
    have wr := hJ.1.2.2.2.2.2.2.2
    simp only [rg, bt, lp, vp_rg, Int32.lt_iff_toInt_lt, Int32.le_iff_toInt_le, Int64.lt_iff_toInt_lt, Int64.le_iff_toInt_le, l32, sI_2, tq_0, tq_1, tq_2, tq_6, tq_8, tq_10, tq_20, tq_30, tq_40, tl_0, tl_1, tl_2, tl_3, tl_4, tl_5, tl_6, tl_8, tl_10, tl_14, tl_20, tl_24, tl_30, tl_40, tl_50, tl_60, tl_70, tl_80, tl_100, tl_120, tl_140, tl_180, tl_220, tl_240, tl_260, tl_280, tl_300, tl_540, tl_780, tl_1020, tl_1180, tl_1190, tl_1200, tl_1220, tl_m1] at *
    have t0 : (x4 + 1).toInt = ((x4).toInt + 1) := (ti_add (a := (x4)) (b := (1 : Int32)) rfl tl_1 (by omega) (by omega))
    omega)⟩
theorem vc_FJO_isOverdue_mu11_5 (S : hS) (x1 : Int32) (x2 : Int32) (x3 : Int32) (x4 : Int32) (hJ : wfC S ∧ lp x4 x3) (c1 : ¬ (x3 ≤ x4)) (c3 : (FJO_itemAt S x4 x1) = (-1)) : ((x3.toInt - (x4 + 1).toInt).toNat) < ((x3.toInt - x4.toInt).toNat) := by
    have k0 := hJ.2
    have wa := hJ.1.1
    have wb := hJ.1.2.1
    have wg := hJ.1.2.2.1
    have wp := hJ.1.2.2.2.1
    have wq := hJ.1.2.2.2.2.1
    have wr := hJ.1.2.2.2.2.2.2.2
    simp only [rg, bt, lp, vp_rg, Int32.lt_iff_toInt_lt, Int32.le_iff_toInt_le, Int64.lt_iff_toInt_lt, Int64.le_iff_toInt_le, l32, sI_2, tq_0, tq_1, tq_2, tq_6, tq_8, tq_10, tq_20, tq_30, tq_40, tl_0, tl_1, tl_2, tl_3, tl_4, tl_5, tl_6, tl_8, tl_10, tl_14, tl_20, tl_24, tl_30, tl_40, tl_50, tl_60, tl_70, tl_80, tl_100, tl_120, tl_140, tl_180, tl_220, tl_240, tl_260, tl_280, tl_300, tl_540, tl_780, tl_1020, tl_1180, tl_1190, tl_1200, tl_1220, tl_m1] at *
    have t0 : (x4 + 1).toInt = ((x4).toInt + 1) := (ti_add (a := (x4)) (b := (1 : Int32)) rfl tl_1 (by omega) (by omega))
    omega
theorem vc_FJO_isOverdue_ix38_6 (S : hS) (x1 : Int32) (x2 : Int32) (x3 : Int32) (x4 : Int32) (hJ : wfC S ∧ lp x4 x3) (c1 : ¬ (x3 ≤ x4)) (c3 : ¬ ((FJO_itemAt S x4 x1) = (-1))) : vp_in (FJO_itemAt S x4 x1) 240 := by
    have k0 := hJ.2
    have wa := hJ.1.1
    have wb := hJ.1.2.1
    have wg := hJ.1.2.2.1
    have wp := hJ.1.2.2.2.1
    have wq := hJ.1.2.2.2.2.1
    have wr := hJ.1.2.2.2.2.2.2.2
    simp only [rg, bt, lp, vp_rg, Int32.lt_iff_toInt_lt, Int32.le_iff_toInt_le, Int64.lt_iff_toInt_lt, Int64.le_iff_toInt_le, l32, sI_2, tq_0, tq_1, tq_2, tq_6, tq_8, tq_10, tq_20, tq_30, tq_40, tl_0, tl_1, tl_2, tl_3, tl_4, tl_5, tl_6, tl_8, tl_10, tl_14, tl_20, tl_24, tl_30, tl_40, tl_50, tl_60, tl_70, tl_80, tl_100, tl_120, tl_140, tl_180, tl_220, tl_240, tl_260, tl_280, tl_300, tl_540, tl_780, tl_1020, tl_1180, tl_1190, tl_1200, tl_1220, tl_m1] at *
    have k1 := itC hJ.1 (by simp only [rg]; omega) c3
    simp only [rg] at k1
    omega
theorem vc_FJO_isOverdue_inv11_8 (S : hS) (x1 : Int32) (x2 : Int32) (x3 : Int32) (x4 : Int32) (hJ : wfC S ∧ lp x4 x3) (c1 : ¬ (x3 ≤ x4)) (c3 : ¬ ((FJO_itemAt S x4 x1) = (-1))) (c7 : (S.2 17 ((FJO_itemAt S x4 x1).toNatClampNeg)) ≤ 0) : wfC S ∧ lp (x4 + 1) x3 := ⟨hJ.1, (by
    have k0 := hJ.2
    have wa := hJ.1.1
    have wb := hJ.1.2.1
    have wg := hJ.1.2.2.1
    have wp := hJ.1.2.2.2.1
    have wq := hJ.1.2.2.2.2.1
    have wr := hJ.1.2.2.2.2.2.2.2
    simp only [rg, bt, lp, vp_rg, Int32.lt_iff_toInt_lt, Int32.le_iff_toInt_le, Int64.lt_iff_toInt_lt, Int64.le_iff_toInt_le, l32, sI_2, tq_0, tq_1, tq_2, tq_6, tq_8, tq_10, tq_20, tq_30, tq_40, tl_0, tl_1, tl_2, tl_3, tl_4, tl_5, tl_6, tl_8, tl_10, tl_14, tl_20, tl_24, tl_30, tl_40, tl_50, tl_60, tl_70, tl_80, tl_100, tl_120, tl_140, tl_180, tl_220, tl_240, tl_260, tl_280, tl_300, tl_540, tl_780, tl_1020, tl_1180, tl_1190, tl_1200, tl_1220, tl_m1] at *
    have k1 := itC hJ.1 (by simp only [rg]; omega) c3
    simp only [rg] at k1
    have t0 : (x4 + 1).toInt = ((x4).toInt + 1) := (ti_add (a := (x4)) (b := (1 : Int32)) rfl tl_1 (by omega) (by omega))
    omega)⟩
theorem vc_FJO_isOverdue_mu11_9 (S : hS) (x1 : Int32) (x2 : Int32) (x3 : Int32) (x4 : Int32) (hJ : wfC S ∧ lp x4 x3) (c1 : ¬ (x3 ≤ x4)) (c3 : ¬ ((FJO_itemAt S x4 x1) = (-1))) (c7 : (S.2 17 ((FJO_itemAt S x4 x1).toNatClampNeg)) ≤ 0) : ((x3.toInt - (x4 + 1).toInt).toNat) < ((x3.toInt - x4.toInt).toNat) := by
    have k0 := hJ.2
    have wa := hJ.1.1
    have wb := hJ.1.2.1
    have wg := hJ.1.2.2.1
    have wp := hJ.1.2.2.2.1
    have wq := hJ.1.2.2.2.2.1
    have wr := hJ.1.2.2.2.2.2.2.2
    simp only [rg, bt, lp, vp_rg, Int32.lt_iff_toInt_lt, Int32.le_iff_toInt_le, Int64.lt_iff_toInt_lt, Int64.le_iff_toInt_le, l32, sI_2, tq_0, tq_1, tq_2, tq_6, tq_8, tq_10, tq_20, tq_30, tq_40, tl_0, tl_1, tl_2, tl_3, tl_4, tl_5, tl_6, tl_8, tl_10, tl_14, tl_20, tl_24, tl_30, tl_40, tl_50, tl_60, tl_70, tl_80, tl_100, tl_120, tl_140, tl_180, tl_220, tl_240, tl_260, tl_280, tl_300, tl_540, tl_780, tl_1020, tl_1180, tl_1190, tl_1200, tl_1220, tl_m1] at *
    have k1 := itC hJ.1 (by simp only [rg]; omega) c3
    simp only [rg] at k1
    have t0 : (x4 + 1).toInt = ((x4).toInt + 1) := (ti_add (a := (x4)) (b := (1 : Int32)) rfl tl_1 (by omega) (by omega))
    omega
theorem vc_FJO_isOverdue_pre48_10 (S : hS) (x1 : Int32) (x2 : Int32) (x3 : Int32) (x4 : Int32) (hJ : wfC S ∧ lp x4 x3) (c1 : ¬ (x3 ≤ x4)) (c3 : ¬ ((FJO_itemAt S x4 x1) = (-1))) (c7 : ¬ ((S.2 17 ((FJO_itemAt S x4 x1).toNatClampNeg)) ≤ 0)) : wfC S ∧ rg (FJO_itemAt S x4 x1) 240 := ⟨hJ.1, (by
    have k0 := hJ.2
    have wa := hJ.1.1
    have wb := hJ.1.2.1
    have wg := hJ.1.2.2.1
    have wp := hJ.1.2.2.2.1
    have wq := hJ.1.2.2.2.2.1
    have wr := hJ.1.2.2.2.2.2.2.2
    simp only [rg, bt, lp, vp_rg, Int32.lt_iff_toInt_lt, Int32.le_iff_toInt_le, Int64.lt_iff_toInt_lt, Int64.le_iff_toInt_le, l32, sI_2, tq_0, tq_1, tq_2, tq_6, tq_8, tq_10, tq_20, tq_30, tq_40, tl_0, tl_1, tl_2, tl_3, tl_4, tl_5, tl_6, tl_8, tl_10, tl_14, tl_20, tl_24, tl_30, tl_40, tl_50, tl_60, tl_70, tl_80, tl_100, tl_120, tl_140, tl_180, tl_220, tl_240, tl_260, tl_280, tl_300, tl_540, tl_780, tl_1020, tl_1180, tl_1190, tl_1200, tl_1220, tl_m1] at *
    have k1 := itC hJ.1 (by simp only [rg]; omega) c3
    simp only [rg] at k1
    omega)⟩
theorem vc_FJO_isOverdue_inv11_12 (S : hS) (x1 : Int32) (x2 : Int32) (x3 : Int32) (x4 : Int32) (hJ : wfC S ∧ lp x4 x3) (c1 : ¬ (x3 ≤ x4)) (c3 : ¬ ((FJO_itemAt S x4 x1) = (-1))) (c7 : ¬ ((S.2 17 ((FJO_itemAt S x4 x1).toNatClampNeg)) ≤ 0)) (c11 : (FJO_daysLate S (FJO_itemAt S x4 x1) x2) ≤ 0) : wfC S ∧ lp (x4 + 1) x3 := ⟨hJ.1, (by
    have k0 := hJ.2
    have wa := hJ.1.1
    have wb := hJ.1.2.1
    have wg := hJ.1.2.2.1
    have wp := hJ.1.2.2.2.1
    have wq := hJ.1.2.2.2.2.1
    have wr := hJ.1.2.2.2.2.2.2.2
    simp only [rg, bt, lp, vp_rg, Int32.lt_iff_toInt_lt, Int32.le_iff_toInt_le, Int64.lt_iff_toInt_lt, Int64.le_iff_toInt_le, l32, sI_2, tq_0, tq_1, tq_2, tq_6, tq_8, tq_10, tq_20, tq_30, tq_40, tl_0, tl_1, tl_2, tl_3, tl_4, tl_5, tl_6, tl_8, tl_10, tl_14, tl_20, tl_24, tl_30, tl_40, tl_50, tl_60, tl_70, tl_80, tl_100, tl_120, tl_140, tl_180, tl_220, tl_240, tl_260, tl_280, tl_300, tl_540, tl_780, tl_1020, tl_1180, tl_1190, tl_1200, tl_1220, tl_m1] at *
    have k1 := itC hJ.1 (by simp only [rg]; omega) c3
    simp only [rg] at k1
    have t0 : (x4 + 1).toInt = ((x4).toInt + 1) := (ti_add (a := (x4)) (b := (1 : Int32)) rfl tl_1 (by omega) (by omega))
    omega)⟩
theorem vc_FJO_isOverdue_mu11_13 (S : hS) (x1 : Int32) (x2 : Int32) (x3 : Int32) (x4 : Int32) (hJ : wfC S ∧ lp x4 x3) (c1 : ¬ (x3 ≤ x4)) (c3 : ¬ ((FJO_itemAt S x4 x1) = (-1))) (c7 : ¬ ((S.2 17 ((FJO_itemAt S x4 x1).toNatClampNeg)) ≤ 0)) (c11 : (FJO_daysLate S (FJO_itemAt S x4 x1) x2) ≤ 0) : ((x3.toInt - (x4 + 1).toInt).toNat) < ((x3.toInt - x4.toInt).toNat) := by
    have k0 := hJ.2
    have wa := hJ.1.1
    have wb := hJ.1.2.1
    have wg := hJ.1.2.2.1
    have wp := hJ.1.2.2.2.1
    have wq := hJ.1.2.2.2.2.1
    have wr := hJ.1.2.2.2.2.2.2.2
    simp only [rg, bt, lp, vp_rg, Int32.lt_iff_toInt_lt, Int32.le_iff_toInt_le, Int64.lt_iff_toInt_lt, Int64.le_iff_toInt_le, l32, sI_2, tq_0, tq_1, tq_2, tq_6, tq_8, tq_10, tq_20, tq_30, tq_40, tl_0, tl_1, tl_2, tl_3, tl_4, tl_5, tl_6, tl_8, tl_10, tl_14, tl_20, tl_24, tl_30, tl_40, tl_50, tl_60, tl_70, tl_80, tl_100, tl_120, tl_140, tl_180, tl_220, tl_240, tl_260, tl_280, tl_300, tl_540, tl_780, tl_1020, tl_1180, tl_1190, tl_1200, tl_1220, tl_m1] at *
    have k1 := itC hJ.1 (by simp only [rg]; omega) c3
    simp only [rg] at k1
    have t0 : (x4 + 1).toInt = ((x4).toInt + 1) := (ti_add (a := (x4)) (b := (1 : Int32)) rfl tl_1 (by omega) (by omega))
    omega
theorem vc_FJO_isOverdue_inv011_15 (S : hS) (x1 : Int32) (x2 : Int32) (hp : wfC S) : wfC S ∧ lp (0 : Int32) ((S.1 10 0) * 6) := ⟨hp, (by
    have wa := hp.1
    have wb := hp.2.1
    have wg := hp.2.2.1
    have wp := hp.2.2.2.1
    have wq := hp.2.2.2.2.1
    have wr := hp.2.2.2.2.2.2.2
    simp only [rg, bt, lp, vp_rg, Int32.lt_iff_toInt_lt, Int32.le_iff_toInt_le, Int64.lt_iff_toInt_lt, Int64.le_iff_toInt_le, l32, sI_2, tq_0, tq_1, tq_2, tq_6, tq_8, tq_10, tq_20, tq_30, tq_40, tl_0, tl_1, tl_2, tl_3, tl_4, tl_5, tl_6, tl_8, tl_10, tl_14, tl_20, tl_24, tl_30, tl_40, tl_50, tl_60, tl_70, tl_80, tl_100, tl_120, tl_140, tl_180, tl_220, tl_240, tl_260, tl_280, tl_300, tl_540, tl_780, tl_1020, tl_1180, tl_1190, tl_1200, tl_1220, tl_m1] at *
    have t0 : (0 : Int32).toInt = 0 := tl_0
    have t1 : ((S.1 10 0) * 6).toInt = ((S.1 10 0).toInt * 6) := (ti_mul (a := (S.1 10 0)) (b := (6 : Int32)) rfl tl_6 (by omega) (by omega))
    omega)⟩
theorem vc_FJO_isOverdue_mu011_16 (S : hS) (x1 : Int32) (x2 : Int32) (hp : wfC S) : ((((S.1 10 0) * 6).toInt - (0 : Int32).toInt).toNat) < 300 := by
    have wa := hp.1
    have wb := hp.2.1
    have wg := hp.2.2.1
    have wp := hp.2.2.2.1
    have wq := hp.2.2.2.2.1
    have wr := hp.2.2.2.2.2.2.2
    simp only [rg, bt, lp, vp_rg, Int32.lt_iff_toInt_lt, Int32.le_iff_toInt_le, Int64.lt_iff_toInt_lt, Int64.le_iff_toInt_le, l32, sI_2, tq_0, tq_1, tq_2, tq_6, tq_8, tq_10, tq_20, tq_30, tq_40, tl_0, tl_1, tl_2, tl_3, tl_4, tl_5, tl_6, tl_8, tl_10, tl_14, tl_20, tl_24, tl_30, tl_40, tl_50, tl_60, tl_70, tl_80, tl_100, tl_120, tl_140, tl_180, tl_220, tl_240, tl_260, tl_280, tl_300, tl_540, tl_780, tl_1020, tl_1180, tl_1190, tl_1200, tl_1220, tl_m1] at *
    have t0 : ((S.1 10 0) * 6).toInt = ((S.1 10 0).toInt * 6) := (ti_mul (a := (S.1 10 0)) (b := (6 : Int32)) rfl tl_6 (by omega) (by omega))
    have t1 : (0 : Int32).toInt = 0 := tl_0
    omega
theorem vc_FAC_mayStep_ix7_1 (S : hS) (x1 : Int32) (x2 : Int32) (hp : wfC S ∧ rg x1 8) : vp_in x1 8 := by
    have k0 := hp.2
    have wa := hp.1.1
    have wb := hp.1.2.1
    have wg := hp.1.2.2.1
    have wp := hp.1.2.2.2.1
    have wq := hp.1.2.2.2.2.1
    have wr := hp.1.2.2.2.2.2.2.2
    simp only [rg, bt, lp, vp_rg, Int32.lt_iff_toInt_lt, Int32.le_iff_toInt_le, Int64.lt_iff_toInt_lt, Int64.le_iff_toInt_le, l32, sI_2, tq_0, tq_1, tq_2, tq_6, tq_8, tq_10, tq_20, tq_30, tq_40, tl_0, tl_1, tl_2, tl_3, tl_4, tl_5, tl_6, tl_8, tl_10, tl_14, tl_20, tl_24, tl_30, tl_40, tl_50, tl_60, tl_70, tl_80, tl_100, tl_120, tl_140, tl_180, tl_220, tl_240, tl_260, tl_280, tl_300, tl_540, tl_780, tl_1020, tl_1180, tl_1190, tl_1200, tl_1220, tl_m1] at *
    omega
theorem vc_FAC_mayStep_ix31_3 (S : hS) (x1 : Int32) (x2 : Int32) (hp : wfC S ∧ rg x1 8) (c2 : x2.toInt64 < (S.2 6 x1.toNatClampNeg)) : vp_in x1 8 := by
    have k0 := hp.2
    have wa := hp.1.1
    have wb := hp.1.2.1
    have wg := hp.1.2.2.1
    have wp := hp.1.2.2.2.1
    have wq := hp.1.2.2.2.2.1
    have wr := hp.1.2.2.2.2.2.2.2
    simp only [rg, bt, lp, vp_rg, Int32.lt_iff_toInt_lt, Int32.le_iff_toInt_le, Int64.lt_iff_toInt_lt, Int64.le_iff_toInt_le, l32, sI_2, tq_0, tq_1, tq_2, tq_6, tq_8, tq_10, tq_20, tq_30, tq_40, tl_0, tl_1, tl_2, tl_3, tl_4, tl_5, tl_6, tl_8, tl_10, tl_14, tl_20, tl_24, tl_30, tl_40, tl_50, tl_60, tl_70, tl_80, tl_100, tl_120, tl_140, tl_180, tl_220, tl_240, tl_260, tl_280, tl_300, tl_540, tl_780, tl_1020, tl_1180, tl_1190, tl_1200, tl_1220, tl_m1] at *
    omega
theorem vc_FAC_mayStep_ix41_5 (S : hS) (x1 : Int32) (x2 : Int32) (hp : wfC S ∧ rg x1 8) (c2 : x2.toInt64 < (S.2 6 x1.toNatClampNeg)) (c4 : ¬ ((S.1 4 x1.toNatClampNeg) = 0)) : vp_in x1 8 := by
    have k0 := hp.2
    have wa := hp.1.1
    have wb := hp.1.2.1
    have wg := hp.1.2.2.1
    have wp := hp.1.2.2.2.1
    have wq := hp.1.2.2.2.2.1
    have wr := hp.1.2.2.2.2.2.2.2
    simp only [rg, bt, lp, vp_rg, Int32.lt_iff_toInt_lt, Int32.le_iff_toInt_le, Int64.lt_iff_toInt_lt, Int64.le_iff_toInt_le, l32, sI_2, tq_0, tq_1, tq_2, tq_6, tq_8, tq_10, tq_20, tq_30, tq_40, tl_0, tl_1, tl_2, tl_3, tl_4, tl_5, tl_6, tl_8, tl_10, tl_14, tl_20, tl_24, tl_30, tl_40, tl_50, tl_60, tl_70, tl_80, tl_100, tl_120, tl_140, tl_180, tl_220, tl_240, tl_260, tl_280, tl_300, tl_540, tl_780, tl_1020, tl_1180, tl_1190, tl_1200, tl_1220, tl_m1] at *
    omega
theorem vc_FAC_mayStep_ix19_7 (S : hS) (x1 : Int32) (x2 : Int32) (hp : wfC S ∧ rg x1 8) (c2 : ¬ (x2.toInt64 < (S.2 6 x1.toNatClampNeg))) : vp_in x1 8 := by
    have k0 := hp.2
    have wa := hp.1.1
    have wb := hp.1.2.1
    have wg := hp.1.2.2.1
    have wp := hp.1.2.2.2.1
    have wq := hp.1.2.2.2.2.1
    have wr := hp.1.2.2.2.2.2.2.2
    simp only [rg, bt, lp, vp_rg, Int32.lt_iff_toInt_lt, Int32.le_iff_toInt_le, Int64.lt_iff_toInt_lt, Int64.le_iff_toInt_le, l32, sI_2, tq_0, tq_1, tq_2, tq_6, tq_8, tq_10, tq_20, tq_30, tq_40, tl_0, tl_1, tl_2, tl_3, tl_4, tl_5, tl_6, tl_8, tl_10, tl_14, tl_20, tl_24, tl_30, tl_40, tl_50, tl_60, tl_70, tl_80, tl_100, tl_120, tl_140, tl_180, tl_220, tl_240, tl_260, tl_280, tl_300, tl_540, tl_780, tl_1020, tl_1180, tl_1190, tl_1200, tl_1220, tl_m1] at *
    omega
theorem vc_FAC_mayStep_ix31_9 (S : hS) (x1 : Int32) (x2 : Int32) (hp : wfC S ∧ rg x1 8) (c2 : ¬ (x2.toInt64 < (S.2 6 x1.toNatClampNeg))) (c8 : (S.2 7 x1.toNatClampNeg) < x2.toInt64) : vp_in x1 8 := by
    have k0 := hp.2
    have wa := hp.1.1
    have wb := hp.1.2.1
    have wg := hp.1.2.2.1
    have wp := hp.1.2.2.2.1
    have wq := hp.1.2.2.2.2.1
    have wr := hp.1.2.2.2.2.2.2.2
    simp only [rg, bt, lp, vp_rg, Int32.lt_iff_toInt_lt, Int32.le_iff_toInt_le, Int64.lt_iff_toInt_lt, Int64.le_iff_toInt_le, l32, sI_2, tq_0, tq_1, tq_2, tq_6, tq_8, tq_10, tq_20, tq_30, tq_40, tl_0, tl_1, tl_2, tl_3, tl_4, tl_5, tl_6, tl_8, tl_10, tl_14, tl_20, tl_24, tl_30, tl_40, tl_50, tl_60, tl_70, tl_80, tl_100, tl_120, tl_140, tl_180, tl_220, tl_240, tl_260, tl_280, tl_300, tl_540, tl_780, tl_1020, tl_1180, tl_1190, tl_1200, tl_1220, tl_m1] at *
    omega
theorem vc_FAC_mayStep_ix41_11 (S : hS) (x1 : Int32) (x2 : Int32) (hp : wfC S ∧ rg x1 8) (c2 : ¬ (x2.toInt64 < (S.2 6 x1.toNatClampNeg))) (c8 : (S.2 7 x1.toNatClampNeg) < x2.toInt64) (c10 : ¬ ((S.1 4 x1.toNatClampNeg) = 0)) : vp_in x1 8 := by
    have k0 := hp.2
    have wa := hp.1.1
    have wb := hp.1.2.1
    have wg := hp.1.2.2.1
    have wp := hp.1.2.2.2.1
    have wq := hp.1.2.2.2.2.1
    have wr := hp.1.2.2.2.2.2.2.2
    simp only [rg, bt, lp, vp_rg, Int32.lt_iff_toInt_lt, Int32.le_iff_toInt_le, Int64.lt_iff_toInt_lt, Int64.le_iff_toInt_le, l32, sI_2, tq_0, tq_1, tq_2, tq_6, tq_8, tq_10, tq_20, tq_30, tq_40, tl_0, tl_1, tl_2, tl_3, tl_4, tl_5, tl_6, tl_8, tl_10, tl_14, tl_20, tl_24, tl_30, tl_40, tl_50, tl_60, tl_70, tl_80, tl_100, tl_120, tl_140, tl_180, tl_220, tl_240, tl_260, tl_280, tl_300, tl_540, tl_780, tl_1020, tl_1180, tl_1190, tl_1200, tl_1220, tl_m1] at *
    omega
theorem vc_FAC_stepUp_ix11_1 (S : hS) (x1 : Int32) (x2 : Int32) (hp : wfC S ∧ rg x1 8) : vp_in x1 8 := by
    have k0 := hp.2
    have wa := hp.1.1
    have wb := hp.1.2.1
    have wg := hp.1.2.2.1
    have wp := hp.1.2.2.2.1
    have wq := hp.1.2.2.2.2.1
    have wr := hp.1.2.2.2.2.2.2.2
    simp only [rg, bt, lp, vp_rg, Int32.lt_iff_toInt_lt, Int32.le_iff_toInt_le, Int64.lt_iff_toInt_lt, Int64.le_iff_toInt_le, l32, sI_2, tq_0, tq_1, tq_2, tq_6, tq_8, tq_10, tq_20, tq_30, tq_40, tl_0, tl_1, tl_2, tl_3, tl_4, tl_5, tl_6, tl_8, tl_10, tl_14, tl_20, tl_24, tl_30, tl_40, tl_50, tl_60, tl_70, tl_80, tl_100, tl_120, tl_140, tl_180, tl_220, tl_240, tl_260, tl_280, tl_300, tl_540, tl_780, tl_1020, tl_1180, tl_1190, tl_1200, tl_1220, tl_m1] at *
    omega
theorem vc_FAC_stepUp_ix17_2 (S : hS) (x1 : Int32) (x2 : Int32) (hp : wfC S ∧ rg x1 8) : vp_in x1 8 := by
    have k0 := hp.2
    have wa := hp.1.1
    have wb := hp.1.2.1
    have wg := hp.1.2.2.1
    have wp := hp.1.2.2.2.1
    have wq := hp.1.2.2.2.2.1
    have wr := hp.1.2.2.2.2.2.2.2
    simp only [rg, bt, lp, vp_rg, Int32.lt_iff_toInt_lt, Int32.le_iff_toInt_le, Int64.lt_iff_toInt_lt, Int64.le_iff_toInt_le, l32, sI_2, tq_0, tq_1, tq_2, tq_6, tq_8, tq_10, tq_20, tq_30, tq_40, tl_0, tl_1, tl_2, tl_3, tl_4, tl_5, tl_6, tl_8, tl_10, tl_14, tl_20, tl_24, tl_30, tl_40, tl_50, tl_60, tl_70, tl_80, tl_100, tl_120, tl_140, tl_180, tl_220, tl_240, tl_260, tl_280, tl_300, tl_540, tl_780, tl_1020, tl_1180, tl_1190, tl_1200, tl_1220, tl_m1] at *
    omega
theorem vc_FAC_stepUp_ix24_3 (S : hS) (x1 : Int32) (x2 : Int32) (hp : wfC S ∧ rg x1 8) : vp_in x1 8 := by
    have k0 := hp.2
    have wa := hp.1.1
    have wb := hp.1.2.1
    have wg := hp.1.2.2.1
    have wp := hp.1.2.2.2.1
    have wq := hp.1.2.2.2.2.1
    have wr := hp.1.2.2.2.2.2.2.2
    simp only [rg, bt, lp, vp_rg, Int32.lt_iff_toInt_lt, Int32.le_iff_toInt_le, Int64.lt_iff_toInt_lt, Int64.le_iff_toInt_le, l32, sI_2, tq_0, tq_1, tq_2, tq_6, tq_8, tq_10, tq_20, tq_30, tq_40, tl_0, tl_1, tl_2, tl_3, tl_4, tl_5, tl_6, tl_8, tl_10, tl_14, tl_20, tl_24, tl_30, tl_40, tl_50, tl_60, tl_70, tl_80, tl_100, tl_120, tl_140, tl_180, tl_220, tl_240, tl_260, tl_280, tl_300, tl_540, tl_780, tl_1020, tl_1180, tl_1190, tl_1200, tl_1220, tl_m1] at *
    omega
theorem vc_FHL_dun_pre8_1 (S : hS) (x1 : Int32) (x2 : Int64) (hp : wfC S) : wfC S := hp
theorem vc_FHL_dun_pre33_4 (S : hS) (x1 : Int32) (x2 : Int64) (hp : wfC S) (c2 : ¬ ((FAC_hasHousehold S x1) = 0)) (c3 : ¬ ((FHL_isDay S x2) = 0)) : wfC S := hp
theorem vc_FHL_dun_pre65_6 (S : hS) (x1 : Int32) (x2 : Int64) (hp : wfC S) (c2 : ¬ ((FAC_hasHousehold S x1) = 0)) (c3 : ¬ ((FHL_isDay S x2) = 0)) (c5 : ¬ ((FJO_isOverdue S x1 x2.toInt32) = 0)) : wfC S ∧ rg x1 8 := ⟨hp, (by
    have wa := hp.1
    have wb := hp.2.1
    have wg := hp.2.2.1
    have wp := hp.2.2.2.1
    have wq := hp.2.2.2.2.1
    have wr := hp.2.2.2.2.2.2.2
    have k0 := hhC hp c2
    simp only [rg, bt, lp, vp_rg, Int32.lt_iff_toInt_lt, Int32.le_iff_toInt_le, Int64.lt_iff_toInt_lt, Int64.le_iff_toInt_le, l32, sI_2, tq_0, tq_1, tq_2, tq_6, tq_8, tq_10, tq_20, tq_30, tq_40, tl_0, tl_1, tl_2, tl_3, tl_4, tl_5, tl_6, tl_8, tl_10, tl_14, tl_20, tl_24, tl_30, tl_40, tl_50, tl_60, tl_70, tl_80, tl_100, tl_120, tl_140, tl_180, tl_220, tl_240, tl_260, tl_280, tl_300, tl_540, tl_780, tl_1020, tl_1180, tl_1190, tl_1200, tl_1220, tl_m1] at *
    omega)⟩
theorem vc_FHL_dun_ix95_8 (S : hS) (x1 : Int32) (x2 : Int64) (hp : wfC S) (c2 : ¬ ((FAC_hasHousehold S x1) = 0)) (c3 : ¬ ((FHL_isDay S x2) = 0)) (c5 : ¬ ((FJO_isOverdue S x1 x2.toInt32) = 0)) (c7 : (FAC_mayStep S x1 x2.toInt32) = 0) : vp_in x1 8 := by
    have wa := hp.1
    have wb := hp.2.1
    have wg := hp.2.2.1
    have wp := hp.2.2.2.1
    have wq := hp.2.2.2.2.1
    have wr := hp.2.2.2.2.2.2.2
    have k0 := hhC hp c2
    simp only [rg, bt, lp, vp_rg, Int32.lt_iff_toInt_lt, Int32.le_iff_toInt_le, Int64.lt_iff_toInt_lt, Int64.le_iff_toInt_le, l32, sI_2, tq_0, tq_1, tq_2, tq_6, tq_8, tq_10, tq_20, tq_30, tq_40, tl_0, tl_1, tl_2, tl_3, tl_4, tl_5, tl_6, tl_8, tl_10, tl_14, tl_20, tl_24, tl_30, tl_40, tl_50, tl_60, tl_70, tl_80, tl_100, tl_120, tl_140, tl_180, tl_220, tl_240, tl_260, tl_280, tl_300, tl_540, tl_780, tl_1020, tl_1180, tl_1190, tl_1200, tl_1220, tl_m1] at *
    omega
theorem vc_FHL_dun_pre81_9 (S : hS) (x1 : Int32) (x2 : Int64) (hp : wfC S) (c2 : ¬ ((FAC_hasHousehold S x1) = 0)) (c3 : ¬ ((FHL_isDay S x2) = 0)) (c5 : ¬ ((FJO_isOverdue S x1 x2.toInt32) = 0)) (c7 : ¬ ((FAC_mayStep S x1 x2.toInt32) = 0)) : wfC S ∧ rg x1 8 := ⟨hp, (by
    have wa := hp.1
    have wb := hp.2.1
    have wg := hp.2.2.1
    have wp := hp.2.2.2.1
    have wq := hp.2.2.2.2.1
    have wr := hp.2.2.2.2.2.2.2
    have k0 := hhC hp c2
    simp only [rg, bt, lp, vp_rg, Int32.lt_iff_toInt_lt, Int32.le_iff_toInt_le, Int64.lt_iff_toInt_lt, Int64.le_iff_toInt_le, l32, sI_2, tq_0, tq_1, tq_2, tq_6, tq_8, tq_10, tq_20, tq_30, tq_40, tl_0, tl_1, tl_2, tl_3, tl_4, tl_5, tl_6, tl_8, tl_10, tl_14, tl_20, tl_24, tl_30, tl_40, tl_50, tl_60, tl_70, tl_80, tl_100, tl_120, tl_140, tl_180, tl_220, tl_240, tl_260, tl_280, tl_300, tl_540, tl_780, tl_1020, tl_1180, tl_1190, tl_1200, tl_1220, tl_m1] at *
    omega)⟩
theorem vc_FHL_dun_ix95_10 (S : hS) (x1 : Int32) (x2 : Int64) (hp : wfC S) (c2 : ¬ ((FAC_hasHousehold S x1) = 0)) (c3 : ¬ ((FHL_isDay S x2) = 0)) (c5 : ¬ ((FJO_isOverdue S x1 x2.toInt32) = 0)) (c7 : ¬ ((FAC_mayStep S x1 x2.toInt32) = 0)) : vp_in x1 8 := by
    have wa := hp.1
    have wb := hp.2.1
    have wg := hp.2.2.1
    have wp := hp.2.2.2.1
    have wq := hp.2.2.2.2.1
    have wr := hp.2.2.2.2.2.2.2
    have k0 := hhC hp c2
    simp only [rg, bt, lp, vp_rg, Int32.lt_iff_toInt_lt, Int32.le_iff_toInt_le, Int64.lt_iff_toInt_lt, Int64.le_iff_toInt_le, l32, sI_2, tq_0, tq_1, tq_2, tq_6, tq_8, tq_10, tq_20, tq_30, tq_40, tl_0, tl_1, tl_2, tl_3, tl_4, tl_5, tl_6, tl_8, tl_10, tl_14, tl_20, tl_24, tl_30, tl_40, tl_50, tl_60, tl_70, tl_80, tl_100, tl_120, tl_140, tl_180, tl_220, tl_240, tl_260, tl_280, tl_300, tl_540, tl_780, tl_1020, tl_1180, tl_1190, tl_1200, tl_1220, tl_m1] at *
    omega
theorem vc_FHL_dun_ix51_11 (S : hS) (x1 : Int32) (x2 : Int64) (hp : wfC S) (c2 : ¬ ((FAC_hasHousehold S x1) = 0)) (c3 : ¬ ((FHL_isDay S x2) = 0)) (c5 : (FJO_isOverdue S x1 x2.toInt32) = 0) : vp_in x1 8 := by
    have wa := hp.1
    have wb := hp.2.1
    have wg := hp.2.2.1
    have wp := hp.2.2.2.1
    have wq := hp.2.2.2.2.1
    have wr := hp.2.2.2.2.2.2.2
    have k0 := hhC hp c2
    simp only [rg, bt, lp, vp_rg, Int32.lt_iff_toInt_lt, Int32.le_iff_toInt_le, Int64.lt_iff_toInt_lt, Int64.le_iff_toInt_le, l32, sI_2, tq_0, tq_1, tq_2, tq_6, tq_8, tq_10, tq_20, tq_30, tq_40, tl_0, tl_1, tl_2, tl_3, tl_4, tl_5, tl_6, tl_8, tl_10, tl_14, tl_20, tl_24, tl_30, tl_40, tl_50, tl_60, tl_70, tl_80, tl_100, tl_120, tl_140, tl_180, tl_220, tl_240, tl_260, tl_280, tl_300, tl_540, tl_780, tl_1020, tl_1180, tl_1190, tl_1200, tl_1220, tl_m1] at *
    omega
theorem vc_FHL_dun_ix95_12 (S : hS) (x1 : Int32) (x2 : Int64) (hp : wfC S) (c2 : ¬ ((FAC_hasHousehold S x1) = 0)) (c3 : ¬ ((FHL_isDay S x2) = 0)) (c5 : (FJO_isOverdue S x1 x2.toInt32) = 0) : vp_in x1 8 := by
    have wa := hp.1
    have wb := hp.2.1
    have wg := hp.2.2.1
    have wp := hp.2.2.2.1
    have wq := hp.2.2.2.2.1
    have wr := hp.2.2.2.2.2.2.2
    have k0 := hhC hp c2
    simp only [rg, bt, lp, vp_rg, Int32.lt_iff_toInt_lt, Int32.le_iff_toInt_le, Int64.lt_iff_toInt_lt, Int64.le_iff_toInt_le, l32, sI_2, tq_0, tq_1, tq_2, tq_6, tq_8, tq_10, tq_20, tq_30, tq_40, tl_0, tl_1, tl_2, tl_3, tl_4, tl_5, tl_6, tl_8, tl_10, tl_14, tl_20, tl_24, tl_30, tl_40, tl_50, tl_60, tl_70, tl_80, tl_100, tl_120, tl_140, tl_180, tl_220, tl_240, tl_260, tl_280, tl_300, tl_540, tl_780, tl_1020, tl_1180, tl_1190, tl_1200, tl_1220, tl_m1] at *
    omega
theorem vc_FHL_hardship_pre8_1 (S : hS) (x1 : Int32) (x2 : Int64) (x4 : Int64) (hp : wfC S) : wfC S := hp
theorem vc_FHL_hardship_ix35_4 (S : hS) (x1 : Int32) (x2 : Int64) (x4 : Int64) (hp : wfC S) (c2 : ¬ ((FAC_hasHousehold S x1) = 0)) (c3 : x2 ≤ x4) : vp_in x1 8 := by
    have wa := hp.1
    have wb := hp.2.1
    have wg := hp.2.2.1
    have wp := hp.2.2.2.1
    have wq := hp.2.2.2.2.1
    have wr := hp.2.2.2.2.2.2.2
    have k0 := hhC hp c2
    simp only [rg, bt, lp, vp_rg, Int32.lt_iff_toInt_lt, Int32.le_iff_toInt_le, Int64.lt_iff_toInt_lt, Int64.le_iff_toInt_le, l32, sI_2, tq_0, tq_1, tq_2, tq_6, tq_8, tq_10, tq_20, tq_30, tq_40, tl_0, tl_1, tl_2, tl_3, tl_4, tl_5, tl_6, tl_8, tl_10, tl_14, tl_20, tl_24, tl_30, tl_40, tl_50, tl_60, tl_70, tl_80, tl_100, tl_120, tl_140, tl_180, tl_220, tl_240, tl_260, tl_280, tl_300, tl_540, tl_780, tl_1020, tl_1180, tl_1190, tl_1200, tl_1220, tl_m1] at *
    omega
theorem vc_FHL_hardship_ix49_5 (S : hS) (x1 : Int32) (x2 : Int64) (x4 : Int64) (hp : wfC S) (c2 : ¬ ((FAC_hasHousehold S x1) = 0)) (c3 : x2 ≤ x4) : vp_in x1 8 := by
    have wa := hp.1
    have wb := hp.2.1
    have wg := hp.2.2.1
    have wp := hp.2.2.2.1
    have wq := hp.2.2.2.2.1
    have wr := hp.2.2.2.2.2.2.2
    have k0 := hhC hp c2
    simp only [rg, bt, lp, vp_rg, Int32.lt_iff_toInt_lt, Int32.le_iff_toInt_le, Int64.lt_iff_toInt_lt, Int64.le_iff_toInt_le, l32, sI_2, tq_0, tq_1, tq_2, tq_6, tq_8, tq_10, tq_20, tq_30, tq_40, tl_0, tl_1, tl_2, tl_3, tl_4, tl_5, tl_6, tl_8, tl_10, tl_14, tl_20, tl_24, tl_30, tl_40, tl_50, tl_60, tl_70, tl_80, tl_100, tl_120, tl_140, tl_180, tl_220, tl_240, tl_260, tl_280, tl_300, tl_540, tl_780, tl_1020, tl_1180, tl_1190, tl_1200, tl_1220, tl_m1] at *
    omega
theorem vc_FJO_dueOf_pre25_2 (S : hS) (x1 : Int32) (x2 : Int64) (x4 : Int32) (x5 : Int32) (hJ : wfC S ∧ lp x5 x4) (c1 : ¬ (x4 ≤ x5)) : wfC S ∧ rg x5 240 := ⟨hJ.1, (by
    have k0 := hJ.2
    have wa := hJ.1.1
    have wb := hJ.1.2.1
    have wg := hJ.1.2.2.1
    have wp := hJ.1.2.2.2.1
    have wq := hJ.1.2.2.2.2.1
    have wr := hJ.1.2.2.2.2.2.2.2
    simp only [rg, bt, lp, vp_rg, Int32.lt_iff_toInt_lt, Int32.le_iff_toInt_le, Int64.lt_iff_toInt_lt, Int64.le_iff_toInt_le, l32, sI_2, tq_0, tq_1, tq_2, tq_6, tq_8, tq_10, tq_20, tq_30, tq_40, tl_0, tl_1, tl_2, tl_3, tl_4, tl_5, tl_6, tl_8, tl_10, tl_14, tl_20, tl_24, tl_30, tl_40, tl_50, tl_60, tl_70, tl_80, tl_100, tl_120, tl_140, tl_180, tl_220, tl_240, tl_260, tl_280, tl_300, tl_540, tl_780, tl_1020, tl_1180, tl_1190, tl_1200, tl_1220, tl_m1] at *
    omega)⟩
theorem vc_FJO_dueOf_inv14_4 (S : hS) (x1 : Int32) (x2 : Int64) (x4 : Int32) (x5 : Int32) (hJ : wfC S ∧ lp x5 x4) (c1 : ¬ (x4 ≤ x5)) (c3 : (FJO_itemAt S x5 x1) = (-1)) : wfC S ∧ lp (x5 + 1) x4 := ⟨hJ.1, (by
    have k0 := hJ.2
    have wa := hJ.1.1
    have wb := hJ.1.2.1
    have wg := hJ.1.2.2.1
    have wp := hJ.1.2.2.2.1
    have wq := hJ.1.2.2.2.2.1
    have wr := hJ.1.2.2.2.2.2.2.2
    simp only [rg, bt, lp, vp_rg, Int32.lt_iff_toInt_lt, Int32.le_iff_toInt_le, Int64.lt_iff_toInt_lt, Int64.le_iff_toInt_le, l32, sI_2, tq_0, tq_1, tq_2, tq_6, tq_8, tq_10, tq_20, tq_30, tq_40, tl_0, tl_1, tl_2, tl_3, tl_4, tl_5, tl_6, tl_8, tl_10, tl_14, tl_20, tl_24, tl_30, tl_40, tl_50, tl_60, tl_70, tl_80, tl_100, tl_120, tl_140, tl_180, tl_220, tl_240, tl_260, tl_280, tl_300, tl_540, tl_780, tl_1020, tl_1180, tl_1190, tl_1200, tl_1220, tl_m1] at *
    have t0 : (x5 + 1).toInt = ((x5).toInt + 1) := (ti_add (a := (x5)) (b := (1 : Int32)) rfl tl_1 (by omega) (by omega))
    omega)⟩
theorem vc_FJO_dueOf_mu14_5 (S : hS) (x1 : Int32) (x2 : Int64) (x4 : Int32) (x5 : Int32) (hJ : wfC S ∧ lp x5 x4) (c1 : ¬ (x4 ≤ x5)) (c3 : (FJO_itemAt S x5 x1) = (-1)) : ((x4.toInt - (x5 + 1).toInt).toNat) < ((x4.toInt - x5.toInt).toNat) := by
    have k0 := hJ.2
    have wa := hJ.1.1
    have wb := hJ.1.2.1
    have wg := hJ.1.2.2.1
    have wp := hJ.1.2.2.2.1
    have wq := hJ.1.2.2.2.2.1
    have wr := hJ.1.2.2.2.2.2.2.2
    simp only [rg, bt, lp, vp_rg, Int32.lt_iff_toInt_lt, Int32.le_iff_toInt_le, Int64.lt_iff_toInt_lt, Int64.le_iff_toInt_le, l32, sI_2, tq_0, tq_1, tq_2, tq_6, tq_8, tq_10, tq_20, tq_30, tq_40, tl_0, tl_1, tl_2, tl_3, tl_4, tl_5, tl_6, tl_8, tl_10, tl_14, tl_20, tl_24, tl_30, tl_40, tl_50, tl_60, tl_70, tl_80, tl_100, tl_120, tl_140, tl_180, tl_220, tl_240, tl_260, tl_280, tl_300, tl_540, tl_780, tl_1020, tl_1180, tl_1190, tl_1200, tl_1220, tl_m1] at *
    have t0 : (x5 + 1).toInt = ((x5).toInt + 1) := (ti_add (a := (x5)) (b := (1 : Int32)) rfl tl_1 (by omega) (by omega))
    omega
theorem vc_FJO_dueOf_ix43_6 (S : hS) (x1 : Int32) (x2 : Int64) (x4 : Int32) (x5 : Int32) (hJ : wfC S ∧ lp x5 x4) (c1 : ¬ (x4 ≤ x5)) (c3 : ¬ ((FJO_itemAt S x5 x1) = (-1))) : vp_in (FJO_itemAt S x5 x1) 240 := by
    have k0 := hJ.2
    have wa := hJ.1.1
    have wb := hJ.1.2.1
    have wg := hJ.1.2.2.1
    have wp := hJ.1.2.2.2.1
    have wq := hJ.1.2.2.2.2.1
    have wr := hJ.1.2.2.2.2.2.2.2
    simp only [rg, bt, lp, vp_rg, Int32.lt_iff_toInt_lt, Int32.le_iff_toInt_le, Int64.lt_iff_toInt_lt, Int64.le_iff_toInt_le, l32, sI_2, tq_0, tq_1, tq_2, tq_6, tq_8, tq_10, tq_20, tq_30, tq_40, tl_0, tl_1, tl_2, tl_3, tl_4, tl_5, tl_6, tl_8, tl_10, tl_14, tl_20, tl_24, tl_30, tl_40, tl_50, tl_60, tl_70, tl_80, tl_100, tl_120, tl_140, tl_180, tl_220, tl_240, tl_260, tl_280, tl_300, tl_540, tl_780, tl_1020, tl_1180, tl_1190, tl_1200, tl_1220, tl_m1] at *
    have k1 := itC hJ.1 (by simp only [rg]; omega) c3
    simp only [rg] at k1
    omega
theorem vc_FJO_dueOf_inv14_7 (S : hS) (x1 : Int32) (x2 : Int64) (x4 : Int32) (x5 : Int32) (hJ : wfC S ∧ lp x5 x4) (c1 : ¬ (x4 ≤ x5)) (c3 : ¬ ((FJO_itemAt S x5 x1) = (-1))) : wfC S ∧ lp (x5 + 1) x4 := ⟨hJ.1, (by
    have k0 := hJ.2
    have wa := hJ.1.1
    have wb := hJ.1.2.1
    have wg := hJ.1.2.2.1
    have wp := hJ.1.2.2.2.1
    have wq := hJ.1.2.2.2.2.1
    have wr := hJ.1.2.2.2.2.2.2.2
    simp only [rg, bt, lp, vp_rg, Int32.lt_iff_toInt_lt, Int32.le_iff_toInt_le, Int64.lt_iff_toInt_lt, Int64.le_iff_toInt_le, l32, sI_2, tq_0, tq_1, tq_2, tq_6, tq_8, tq_10, tq_20, tq_30, tq_40, tl_0, tl_1, tl_2, tl_3, tl_4, tl_5, tl_6, tl_8, tl_10, tl_14, tl_20, tl_24, tl_30, tl_40, tl_50, tl_60, tl_70, tl_80, tl_100, tl_120, tl_140, tl_180, tl_220, tl_240, tl_260, tl_280, tl_300, tl_540, tl_780, tl_1020, tl_1180, tl_1190, tl_1200, tl_1220, tl_m1] at *
    have k1 := itC hJ.1 (by simp only [rg]; omega) c3
    simp only [rg] at k1
    have t0 : (x5 + 1).toInt = ((x5).toInt + 1) := (ti_add (a := (x5)) (b := (1 : Int32)) rfl tl_1 (by omega) (by omega))
    omega)⟩
theorem vc_FJO_dueOf_mu14_8 (S : hS) (x1 : Int32) (x2 : Int64) (x4 : Int32) (x5 : Int32) (hJ : wfC S ∧ lp x5 x4) (c1 : ¬ (x4 ≤ x5)) (c3 : ¬ ((FJO_itemAt S x5 x1) = (-1))) : ((x4.toInt - (x5 + 1).toInt).toNat) < ((x4.toInt - x5.toInt).toNat) := by
    have k0 := hJ.2
    have wa := hJ.1.1
    have wb := hJ.1.2.1
    have wg := hJ.1.2.2.1
    have wp := hJ.1.2.2.2.1
    have wq := hJ.1.2.2.2.2.1
    have wr := hJ.1.2.2.2.2.2.2.2
    simp only [rg, bt, lp, vp_rg, Int32.lt_iff_toInt_lt, Int32.le_iff_toInt_le, Int64.lt_iff_toInt_lt, Int64.le_iff_toInt_le, l32, sI_2, tq_0, tq_1, tq_2, tq_6, tq_8, tq_10, tq_20, tq_30, tq_40, tl_0, tl_1, tl_2, tl_3, tl_4, tl_5, tl_6, tl_8, tl_10, tl_14, tl_20, tl_24, tl_30, tl_40, tl_50, tl_60, tl_70, tl_80, tl_100, tl_120, tl_140, tl_180, tl_220, tl_240, tl_260, tl_280, tl_300, tl_540, tl_780, tl_1020, tl_1180, tl_1190, tl_1200, tl_1220, tl_m1] at *
    have k1 := itC hJ.1 (by simp only [rg]; omega) c3
    simp only [rg] at k1
    have t0 : (x5 + 1).toInt = ((x5).toInt + 1) := (ti_add (a := (x5)) (b := (1 : Int32)) rfl tl_1 (by omega) (by omega))
    omega
theorem vc_FJO_dueOf_inv014_10 (S : hS) (x1 : Int32) (hp : wfC S) : wfC S ∧ lp (0 : Int32) ((S.1 10 0) * 6) := ⟨hp, (by
    have wa := hp.1
    have wb := hp.2.1
    have wg := hp.2.2.1
    have wp := hp.2.2.2.1
    have wq := hp.2.2.2.2.1
    have wr := hp.2.2.2.2.2.2.2
    simp only [rg, bt, lp, vp_rg, Int32.lt_iff_toInt_lt, Int32.le_iff_toInt_le, Int64.lt_iff_toInt_lt, Int64.le_iff_toInt_le, l32, sI_2, tq_0, tq_1, tq_2, tq_6, tq_8, tq_10, tq_20, tq_30, tq_40, tl_0, tl_1, tl_2, tl_3, tl_4, tl_5, tl_6, tl_8, tl_10, tl_14, tl_20, tl_24, tl_30, tl_40, tl_50, tl_60, tl_70, tl_80, tl_100, tl_120, tl_140, tl_180, tl_220, tl_240, tl_260, tl_280, tl_300, tl_540, tl_780, tl_1020, tl_1180, tl_1190, tl_1200, tl_1220, tl_m1] at *
    have t0 : (0 : Int32).toInt = 0 := tl_0
    have t1 : ((S.1 10 0) * 6).toInt = ((S.1 10 0).toInt * 6) := (ti_mul (a := (S.1 10 0)) (b := (6 : Int32)) rfl tl_6 (by omega) (by omega))
    omega)⟩
theorem vc_FJO_dueOf_mu014_11 (S : hS) (x1 : Int32) (hp : wfC S) : ((((S.1 10 0) * 6).toInt - (0 : Int32).toInt).toNat) < 300 := by
    have wa := hp.1
    have wb := hp.2.1
    have wg := hp.2.2.1
    have wp := hp.2.2.2.1
    have wq := hp.2.2.2.2.1
    have wr := hp.2.2.2.2.2.2.2
    simp only [rg, bt, lp, vp_rg, Int32.lt_iff_toInt_lt, Int32.le_iff_toInt_le, Int64.lt_iff_toInt_lt, Int64.le_iff_toInt_le, l32, sI_2, tq_0, tq_1, tq_2, tq_6, tq_8, tq_10, tq_20, tq_30, tq_40, tl_0, tl_1, tl_2, tl_3, tl_4, tl_5, tl_6, tl_8, tl_10, tl_14, tl_20, tl_24, tl_30, tl_40, tl_50, tl_60, tl_70, tl_80, tl_100, tl_120, tl_140, tl_180, tl_220, tl_240, tl_260, tl_280, tl_300, tl_540, tl_780, tl_1020, tl_1180, tl_1190, tl_1200, tl_1220, tl_m1] at *
    have t0 : ((S.1 10 0) * 6).toInt = ((S.1 10 0).toInt * 6) := (ti_mul (a := (S.1 10 0)) (b := (6 : Int32)) rfl tl_6 (by omega) (by omega))
    have t1 : (0 : Int32).toInt = 0 := tl_0
    omega
theorem vc_FPL_add_ix29_3 (S : hS) (x1 : Int64) (x3 : Int32) (hp : wfC S) (c1 : ¬ (10 ≤ (S.1 20 0))) (c2 : 1 ≤ x3) : vp_in (S.1 20 0) 10 := by
    have wa := hp.1
    have wb := hp.2.1
    have wg := hp.2.2.1
    have wp := hp.2.2.2.1
    have wq := hp.2.2.2.2.1
    have wr := hp.2.2.2.2.2.2.2
    simp only [rg, bt, lp, vp_rg, Int32.lt_iff_toInt_lt, Int32.le_iff_toInt_le, Int64.lt_iff_toInt_lt, Int64.le_iff_toInt_le, l32, sI_2, tq_0, tq_1, tq_2, tq_6, tq_8, tq_10, tq_20, tq_30, tq_40, tl_0, tl_1, tl_2, tl_3, tl_4, tl_5, tl_6, tl_8, tl_10, tl_14, tl_20, tl_24, tl_30, tl_40, tl_50, tl_60, tl_70, tl_80, tl_100, tl_120, tl_140, tl_180, tl_220, tl_240, tl_260, tl_280, tl_300, tl_540, tl_780, tl_1020, tl_1180, tl_1190, tl_1200, tl_1220, tl_m1] at *
    omega
theorem vc_FPL_add_nz39_4 (S : hS) (x1 : Int64) (x3 : Int32) (hp : wfC S) (c1 : ¬ (10 ≤ (S.1 20 0))) (c2 : 1 ≤ x3) : ¬ x3.toInt64 = 0 := nz_i2m c2
theorem vc_FPL_add_ix40_5 (S : hS) (x1 : Int64) (x3 : Int32) (hp : wfC S) (c1 : ¬ (10 ≤ (S.1 20 0))) (c2 : 1 ≤ x3) : vp_in (S.1 20 0) 10 := by
    have wa := hp.1
    have wb := hp.2.1
    have wg := hp.2.2.1
    have wp := hp.2.2.2.1
    have wq := hp.2.2.2.2.1
    have wr := hp.2.2.2.2.2.2.2
    simp only [rg, bt, lp, vp_rg, Int32.lt_iff_toInt_lt, Int32.le_iff_toInt_le, Int64.lt_iff_toInt_lt, Int64.le_iff_toInt_le, l32, sI_2, tq_0, tq_1, tq_2, tq_6, tq_8, tq_10, tq_20, tq_30, tq_40, tl_0, tl_1, tl_2, tl_3, tl_4, tl_5, tl_6, tl_8, tl_10, tl_14, tl_20, tl_24, tl_30, tl_40, tl_50, tl_60, tl_70, tl_80, tl_100, tl_120, tl_140, tl_180, tl_220, tl_240, tl_260, tl_280, tl_300, tl_540, tl_780, tl_1020, tl_1180, tl_1190, tl_1200, tl_1220, tl_m1] at *
    omega
theorem vc_FPL_add_nz50_6 (S : hS) (x1 : Int64) (x3 : Int32) (hp : wfC S) (c1 : ¬ (10 ≤ (S.1 20 0))) (c2 : 1 ≤ x3) : ¬ x3.toInt64 = 0 := nz_i2m c2
theorem vc_FPL_add_ix51_7 (S : hS) (x1 : Int64) (x3 : Int32) (hp : wfC S) (c1 : ¬ (10 ≤ (S.1 20 0))) (c2 : 1 ≤ x3) : vp_in (S.1 20 0) 10 := by
    have wa := hp.1
    have wb := hp.2.1
    have wg := hp.2.2.1
    have wp := hp.2.2.2.1
    have wq := hp.2.2.2.2.1
    have wr := hp.2.2.2.2.2.2.2
    simp only [rg, bt, lp, vp_rg, Int32.lt_iff_toInt_lt, Int32.le_iff_toInt_le, Int64.lt_iff_toInt_lt, Int64.le_iff_toInt_le, l32, sI_2, tq_0, tq_1, tq_2, tq_6, tq_8, tq_10, tq_20, tq_30, tq_40, tl_0, tl_1, tl_2, tl_3, tl_4, tl_5, tl_6, tl_8, tl_10, tl_14, tl_20, tl_24, tl_30, tl_40, tl_50, tl_60, tl_70, tl_80, tl_100, tl_120, tl_140, tl_180, tl_220, tl_240, tl_260, tl_280, tl_300, tl_540, tl_780, tl_1020, tl_1180, tl_1190, tl_1200, tl_1220, tl_m1] at *
    omega
theorem vc_FHL_instal_pre8_1 (S : hS) (x1 : Int32) (x2 : Int32) (hp : wfC S) : wfC S := hp
theorem vc_FHL_instal_pre35_5 (S : hS) (x1 : Int32) (x2 : Int32) (hp : wfC S) (c2 : ¬ ((FAC_hasHousehold S x1) = 0)) (c3 : ¬ (x2 < 1)) (c4 : x2 ≤ 24) : wfC S := hp
theorem vc_FHL_instal_pre58_7 (S : hS) (x1 : Int32) (x2 : Int32) (hp : wfC S) (c2 : ¬ ((FAC_hasHousehold S x1) = 0)) (c3 : ¬ (x2 < 1)) (c4 : x2 ≤ 24) (c6 : ¬ ((FJO_dueOf S x1) = 0)) : wfC S := hp
theorem vc_FPL_partOf_ix22_4 (S : hS) (x1 : Int32) (x2 : Int32) (hp : wfC S) (c1 : ¬ (x1 < 0)) (c2 : ¬ ((S.1 20 0) ≤ x1)) (c3 : ¬ (x2 < 0)) : vp_in x1 10 := by
    have wa := hp.1
    have wb := hp.2.1
    have wg := hp.2.2.1
    have wp := hp.2.2.2.1
    have wq := hp.2.2.2.2.1
    have wr := hp.2.2.2.2.2.2.2
    simp only [rg, bt, lp, vp_rg, Int32.lt_iff_toInt_lt, Int32.le_iff_toInt_le, Int64.lt_iff_toInt_lt, Int64.le_iff_toInt_le, l32, sI_2, tq_0, tq_1, tq_2, tq_6, tq_8, tq_10, tq_20, tq_30, tq_40, tl_0, tl_1, tl_2, tl_3, tl_4, tl_5, tl_6, tl_8, tl_10, tl_14, tl_20, tl_24, tl_30, tl_40, tl_50, tl_60, tl_70, tl_80, tl_100, tl_120, tl_140, tl_180, tl_220, tl_240, tl_260, tl_280, tl_300, tl_540, tl_780, tl_1020, tl_1180, tl_1190, tl_1200, tl_1220, tl_m1] at *
    omega
theorem vc_FPL_partOf_ix37_6 (S : hS) (x1 : Int32) (x2 : Int32) (hp : wfC S) (c1 : ¬ (x1 < 0)) (c2 : ¬ ((S.1 20 0) ≤ x1)) (c3 : ¬ (x2 < 0)) (c5 : x2 < (S.1 21 x1.toNatClampNeg)) : vp_in x1 10 := by
    have wa := hp.1
    have wb := hp.2.1
    have wg := hp.2.2.1
    have wp := hp.2.2.2.1
    have wq := hp.2.2.2.2.1
    have wr := hp.2.2.2.2.2.2.2
    simp only [rg, bt, lp, vp_rg, Int32.lt_iff_toInt_lt, Int32.le_iff_toInt_le, Int64.lt_iff_toInt_lt, Int64.le_iff_toInt_le, l32, sI_2, tq_0, tq_1, tq_2, tq_6, tq_8, tq_10, tq_20, tq_30, tq_40, tl_0, tl_1, tl_2, tl_3, tl_4, tl_5, tl_6, tl_8, tl_10, tl_14, tl_20, tl_24, tl_30, tl_40, tl_50, tl_60, tl_70, tl_80, tl_100, tl_120, tl_140, tl_180, tl_220, tl_240, tl_260, tl_280, tl_300, tl_540, tl_780, tl_1020, tl_1180, tl_1190, tl_1200, tl_1220, tl_m1] at *
    omega
theorem vc_FPL_partOf_ix58_8 (S : hS) (x1 : Int32) (x2 : Int32) (hp : wfC S) (c1 : ¬ (x1 < 0)) (c2 : ¬ ((S.1 20 0) ≤ x1)) (c3 : ¬ (x2 < 0)) (c5 : x2 < (S.1 21 x1.toNatClampNeg)) (c7 : (S.2 23 x1.toNatClampNeg) ≤ x2.toInt64) : vp_in x1 10 := by
    have wa := hp.1
    have wb := hp.2.1
    have wg := hp.2.2.1
    have wp := hp.2.2.2.1
    have wq := hp.2.2.2.2.1
    have wr := hp.2.2.2.2.2.2.2
    simp only [rg, bt, lp, vp_rg, Int32.lt_iff_toInt_lt, Int32.le_iff_toInt_le, Int64.lt_iff_toInt_lt, Int64.le_iff_toInt_le, l32, sI_2, tq_0, tq_1, tq_2, tq_6, tq_8, tq_10, tq_20, tq_30, tq_40, tl_0, tl_1, tl_2, tl_3, tl_4, tl_5, tl_6, tl_8, tl_10, tl_14, tl_20, tl_24, tl_30, tl_40, tl_50, tl_60, tl_70, tl_80, tl_100, tl_120, tl_140, tl_180, tl_220, tl_240, tl_260, tl_280, tl_300, tl_540, tl_780, tl_1020, tl_1180, tl_1190, tl_1200, tl_1220, tl_m1] at *
    omega
theorem vc_FPL_partOf_ix47_9 (S : hS) (x1 : Int32) (x2 : Int32) (hp : wfC S) (c1 : ¬ (x1 < 0)) (c2 : ¬ ((S.1 20 0) ≤ x1)) (c3 : ¬ (x2 < 0)) (c5 : x2 < (S.1 21 x1.toNatClampNeg)) (c7 : ¬ ((S.2 23 x1.toNatClampNeg) ≤ x2.toInt64)) : vp_in x1 10 := by
    have wa := hp.1
    have wb := hp.2.1
    have wg := hp.2.2.1
    have wp := hp.2.2.2.1
    have wq := hp.2.2.2.2.1
    have wr := hp.2.2.2.2.2.2.2
    simp only [rg, bt, lp, vp_rg, Int32.lt_iff_toInt_lt, Int32.le_iff_toInt_le, Int64.lt_iff_toInt_lt, Int64.le_iff_toInt_le, l32, sI_2, tq_0, tq_1, tq_2, tq_6, tq_8, tq_10, tq_20, tq_30, tq_40, tl_0, tl_1, tl_2, tl_3, tl_4, tl_5, tl_6, tl_8, tl_10, tl_14, tl_20, tl_24, tl_30, tl_40, tl_50, tl_60, tl_70, tl_80, tl_100, tl_120, tl_140, tl_180, tl_220, tl_240, tl_260, tl_280, tl_300, tl_540, tl_780, tl_1020, tl_1180, tl_1190, tl_1200, tl_1220, tl_m1] at *
    omega
theorem vc_FHL_due_pre9_1 (S : hS) (x1 : Int32) (x2 : Int32) (hp : wfC S) : wfC S := hp
theorem vc_FAC_hasMoved_ix5_1 (S : hS) (x1 : Int32) (hp : wfC S ∧ rg x1 8) : vp_in x1 8 := by
    have k0 := hp.2
    have wa := hp.1.1
    have wb := hp.1.2.1
    have wg := hp.1.2.2.1
    have wp := hp.1.2.2.2.1
    have wq := hp.1.2.2.2.2.1
    have wr := hp.1.2.2.2.2.2.2.2
    simp only [rg, bt, lp, vp_rg, Int32.lt_iff_toInt_lt, Int32.le_iff_toInt_le, Int64.lt_iff_toInt_lt, Int64.le_iff_toInt_le, l32, sI_2, tq_0, tq_1, tq_2, tq_6, tq_8, tq_10, tq_20, tq_30, tq_40, tl_0, tl_1, tl_2, tl_3, tl_4, tl_5, tl_6, tl_8, tl_10, tl_14, tl_20, tl_24, tl_30, tl_40, tl_50, tl_60, tl_70, tl_80, tl_100, tl_120, tl_140, tl_180, tl_220, tl_240, tl_260, tl_280, tl_300, tl_540, tl_780, tl_1020, tl_1180, tl_1190, tl_1200, tl_1220, tl_m1] at *
    omega
theorem vc_FAC_hasMoved_ix15_3 (S : hS) (x1 : Int32) (hp : wfC S ∧ rg x1 8) (c2 : (S.1 8 x1.toNatClampNeg) = (-1)) : vp_in x1 8 := by
    have k0 := hp.2
    have wa := hp.1.1
    have wb := hp.1.2.1
    have wg := hp.1.2.2.1
    have wp := hp.1.2.2.2.1
    have wq := hp.1.2.2.2.2.1
    have wr := hp.1.2.2.2.2.2.2.2
    simp only [rg, bt, lp, vp_rg, Int32.lt_iff_toInt_lt, Int32.le_iff_toInt_le, Int64.lt_iff_toInt_lt, Int64.le_iff_toInt_le, l32, sI_2, tq_0, tq_1, tq_2, tq_6, tq_8, tq_10, tq_20, tq_30, tq_40, tl_0, tl_1, tl_2, tl_3, tl_4, tl_5, tl_6, tl_8, tl_10, tl_14, tl_20, tl_24, tl_30, tl_40, tl_50, tl_60, tl_70, tl_80, tl_100, tl_120, tl_140, tl_180, tl_220, tl_240, tl_260, tl_280, tl_300, tl_540, tl_780, tl_1020, tl_1180, tl_1190, tl_1200, tl_1220, tl_m1] at *
    omega
theorem vc_FHL_move_pre12_1 (S : hS) (x1 : Int32) (x2 : Int32) (x3 : Int64) (hp : wfC S) : wfC S := hp
theorem vc_FHL_move_pre21_3 (S : hS) (x1 : Int32) (x2 : Int32) (x3 : Int64) (hp : wfC S) (c2 : ¬ ((FAC_hasHousehold S x1) = 0)) : wfC S := hp
theorem vc_FHL_move_pre46_7 (S : hS) (x1 : Int32) (x2 : Int32) (x3 : Int64) (hp : wfC S) (c2 : ¬ ((FAC_hasHousehold S x1) = 0)) (c4 : ¬ ((FAC_hasHousehold S x2) = 0)) (c5 : ¬ (x1 = x2)) (c6 : ¬ ((FHL_isDay S x3) = 0)) : wfC S ∧ rg x1 8 := ⟨hp, (by
    have wa := hp.1
    have wb := hp.2.1
    have wg := hp.2.2.1
    have wp := hp.2.2.2.1
    have wq := hp.2.2.2.2.1
    have wr := hp.2.2.2.2.2.2.2
    have k0 := hhC hp c2
    have k1 := hhC hp c4
    simp only [rg, bt, lp, vp_rg, Int32.lt_iff_toInt_lt, Int32.le_iff_toInt_le, Int64.lt_iff_toInt_lt, Int64.le_iff_toInt_le, l32, sI_2, tq_0, tq_1, tq_2, tq_6, tq_8, tq_10, tq_20, tq_30, tq_40, tl_0, tl_1, tl_2, tl_3, tl_4, tl_5, tl_6, tl_8, tl_10, tl_14, tl_20, tl_24, tl_30, tl_40, tl_50, tl_60, tl_70, tl_80, tl_100, tl_120, tl_140, tl_180, tl_220, tl_240, tl_260, tl_280, tl_300, tl_540, tl_780, tl_1020, tl_1180, tl_1190, tl_1200, tl_1220, tl_m1] at *
    omega)⟩
theorem vc_FHL_move_pre55_9 (S : hS) (x1 : Int32) (x2 : Int32) (x3 : Int64) (hp : wfC S) (c2 : ¬ ((FAC_hasHousehold S x1) = 0)) (c4 : ¬ ((FAC_hasHousehold S x2) = 0)) (c5 : ¬ (x1 = x2)) (c6 : ¬ ((FHL_isDay S x3) = 0)) (c8 : (FAC_hasMoved S x1) = 0) : wfC S ∧ rg x2 8 := ⟨hp, (by
    have wa := hp.1
    have wb := hp.2.1
    have wg := hp.2.2.1
    have wp := hp.2.2.2.1
    have wq := hp.2.2.2.2.1
    have wr := hp.2.2.2.2.2.2.2
    have k0 := hhC hp c2
    have k1 := hhC hp c4
    simp only [rg, bt, lp, vp_rg, Int32.lt_iff_toInt_lt, Int32.le_iff_toInt_le, Int64.lt_iff_toInt_lt, Int64.le_iff_toInt_le, l32, sI_2, tq_0, tq_1, tq_2, tq_6, tq_8, tq_10, tq_20, tq_30, tq_40, tl_0, tl_1, tl_2, tl_3, tl_4, tl_5, tl_6, tl_8, tl_10, tl_14, tl_20, tl_24, tl_30, tl_40, tl_50, tl_60, tl_70, tl_80, tl_100, tl_120, tl_140, tl_180, tl_220, tl_240, tl_260, tl_280, tl_300, tl_540, tl_780, tl_1020, tl_1180, tl_1190, tl_1200, tl_1220, tl_m1] at *
    omega)⟩
theorem vc_FHL_move_ix71_11 (S : hS) (x1 : Int32) (x2 : Int32) (x3 : Int64) (hp : wfC S) (c2 : ¬ ((FAC_hasHousehold S x1) = 0)) (c4 : ¬ ((FAC_hasHousehold S x2) = 0)) (c5 : ¬ (x1 = x2)) (c6 : ¬ ((FHL_isDay S x3) = 0)) (c8 : (FAC_hasMoved S x1) = 0) (c10 : (FAC_hasMoved S x2) = 0) : vp_in x1 8 := by
    have wa := hp.1
    have wb := hp.2.1
    have wg := hp.2.2.1
    have wp := hp.2.2.2.1
    have wq := hp.2.2.2.2.1
    have wr := hp.2.2.2.2.2.2.2
    have k0 := hhC hp c2
    have k1 := hhC hp c4
    simp only [rg, bt, lp, vp_rg, Int32.lt_iff_toInt_lt, Int32.le_iff_toInt_le, Int64.lt_iff_toInt_lt, Int64.le_iff_toInt_le, l32, sI_2, tq_0, tq_1, tq_2, tq_6, tq_8, tq_10, tq_20, tq_30, tq_40, tl_0, tl_1, tl_2, tl_3, tl_4, tl_5, tl_6, tl_8, tl_10, tl_14, tl_20, tl_24, tl_30, tl_40, tl_50, tl_60, tl_70, tl_80, tl_100, tl_120, tl_140, tl_180, tl_220, tl_240, tl_260, tl_280, tl_300, tl_540, tl_780, tl_1020, tl_1180, tl_1190, tl_1200, tl_1220, tl_m1] at *
    omega
theorem vc_FHL_move_ix80_12 (S : hS) (x1 : Int32) (x2 : Int32) (x3 : Int64) (hp : wfC S) (c2 : ¬ ((FAC_hasHousehold S x1) = 0)) (c4 : ¬ ((FAC_hasHousehold S x2) = 0)) (c5 : ¬ (x1 = x2)) (c6 : ¬ ((FHL_isDay S x3) = 0)) (c8 : (FAC_hasMoved S x1) = 0) (c10 : (FAC_hasMoved S x2) = 0) : vp_in x2 8 := by
    have wa := hp.1
    have wb := hp.2.1
    have wg := hp.2.2.1
    have wp := hp.2.2.2.1
    have wq := hp.2.2.2.2.1
    have wr := hp.2.2.2.2.2.2.2
    have k0 := hhC hp c2
    have k1 := hhC hp c4
    simp only [rg, bt, lp, vp_rg, Int32.lt_iff_toInt_lt, Int32.le_iff_toInt_le, Int64.lt_iff_toInt_lt, Int64.le_iff_toInt_le, l32, sI_2, tq_0, tq_1, tq_2, tq_6, tq_8, tq_10, tq_20, tq_30, tq_40, tl_0, tl_1, tl_2, tl_3, tl_4, tl_5, tl_6, tl_8, tl_10, tl_14, tl_20, tl_24, tl_30, tl_40, tl_50, tl_60, tl_70, tl_80, tl_100, tl_120, tl_140, tl_180, tl_220, tl_240, tl_260, tl_280, tl_300, tl_540, tl_780, tl_1020, tl_1180, tl_1190, tl_1200, tl_1220, tl_m1] at *
    omega
theorem vc_FAC_daysThere_ix16_1 (S : hS) (x1 : Int32) (x2 : Int32) (hp : wfC S ∧ rg x1 8) : vp_in x1 8 := by
    have k0 := hp.2
    have wa := hp.1.1
    have wb := hp.1.2.1
    have wg := hp.1.2.2.1
    have wp := hp.1.2.2.2.1
    have wq := hp.1.2.2.2.2.1
    have wr := hp.1.2.2.2.2.2.2.2
    simp only [rg, bt, lp, vp_rg, Int32.lt_iff_toInt_lt, Int32.le_iff_toInt_le, Int64.lt_iff_toInt_lt, Int64.le_iff_toInt_le, l32, sI_2, tq_0, tq_1, tq_2, tq_6, tq_8, tq_10, tq_20, tq_30, tq_40, tl_0, tl_1, tl_2, tl_3, tl_4, tl_5, tl_6, tl_8, tl_10, tl_14, tl_20, tl_24, tl_30, tl_40, tl_50, tl_60, tl_70, tl_80, tl_100, tl_120, tl_140, tl_180, tl_220, tl_240, tl_260, tl_280, tl_300, tl_540, tl_780, tl_1020, tl_1180, tl_1190, tl_1200, tl_1220, tl_m1] at *
    omega
theorem vc_FAC_daysThere_ix31_3 (S : hS) (x1 : Int32) (x2 : Int32) (hp : wfC S ∧ rg x1 8) (c2 : ¬ ((S.1 8 x1.toNatClampNeg) = (-1))) : vp_in x1 8 := by
    have k0 := hp.2
    have wa := hp.1.1
    have wb := hp.1.2.1
    have wg := hp.1.2.2.1
    have wp := hp.1.2.2.2.1
    have wq := hp.1.2.2.2.2.1
    have wr := hp.1.2.2.2.2.2.2.2
    simp only [rg, bt, lp, vp_rg, Int32.lt_iff_toInt_lt, Int32.le_iff_toInt_le, Int64.lt_iff_toInt_lt, Int64.le_iff_toInt_le, l32, sI_2, tq_0, tq_1, tq_2, tq_6, tq_8, tq_10, tq_20, tq_30, tq_40, tl_0, tl_1, tl_2, tl_3, tl_4, tl_5, tl_6, tl_8, tl_10, tl_14, tl_20, tl_24, tl_30, tl_40, tl_50, tl_60, tl_70, tl_80, tl_100, tl_120, tl_140, tl_180, tl_220, tl_240, tl_260, tl_280, tl_300, tl_540, tl_780, tl_1020, tl_1180, tl_1190, tl_1200, tl_1220, tl_m1] at *
    omega
theorem vc_FAC_daysThere_ix42_4 (S : hS) (x1 : Int32) (x2 : Int32) (hp : wfC S ∧ rg x1 8) (c2 : ¬ ((S.1 8 x1.toNatClampNeg) = (-1))) : vp_in x1 8 := by
    have k0 := hp.2
    have wa := hp.1.1
    have wb := hp.1.2.1
    have wg := hp.1.2.2.1
    have wp := hp.1.2.2.2.1
    have wq := hp.1.2.2.2.2.1
    have wr := hp.1.2.2.2.2.2.2.2
    simp only [rg, bt, lp, vp_rg, Int32.lt_iff_toInt_lt, Int32.le_iff_toInt_le, Int64.lt_iff_toInt_lt, Int64.le_iff_toInt_le, l32, sI_2, tq_0, tq_1, tq_2, tq_6, tq_8, tq_10, tq_20, tq_30, tq_40, tl_0, tl_1, tl_2, tl_3, tl_4, tl_5, tl_6, tl_8, tl_10, tl_14, tl_20, tl_24, tl_30, tl_40, tl_50, tl_60, tl_70, tl_80, tl_100, tl_120, tl_140, tl_180, tl_220, tl_240, tl_260, tl_280, tl_300, tl_540, tl_780, tl_1020, tl_1180, tl_1190, tl_1200, tl_1220, tl_m1] at *
    omega
theorem vc_FAC_daysThere_ix59_6 (S : hS) (x1 : Int32) (x2 : Int32) (hp : wfC S ∧ rg x1 8) (c2 : ¬ ((S.1 8 x1.toNatClampNeg) = (-1))) (c5 : ¬ ((S.1 9 x1.toNatClampNeg) = (-1))) : vp_in x1 8 := by
    have k0 := hp.2
    have wa := hp.1.1
    have wb := hp.1.2.1
    have wg := hp.1.2.2.1
    have wp := hp.1.2.2.2.1
    have wq := hp.1.2.2.2.2.1
    have wr := hp.1.2.2.2.2.2.2.2
    simp only [rg, bt, lp, vp_rg, Int32.lt_iff_toInt_lt, Int32.le_iff_toInt_le, Int64.lt_iff_toInt_lt, Int64.le_iff_toInt_le, l32, sI_2, tq_0, tq_1, tq_2, tq_6, tq_8, tq_10, tq_20, tq_30, tq_40, tl_0, tl_1, tl_2, tl_3, tl_4, tl_5, tl_6, tl_8, tl_10, tl_14, tl_20, tl_24, tl_30, tl_40, tl_50, tl_60, tl_70, tl_80, tl_100, tl_120, tl_140, tl_180, tl_220, tl_240, tl_260, tl_280, tl_300, tl_540, tl_780, tl_1020, tl_1180, tl_1190, tl_1200, tl_1220, tl_m1] at *
    omega
theorem vc_FAC_daysThere_ix42_7 (S : hS) (x1 : Int32) (x2 : Int32) (hp : wfC S ∧ rg x1 8) (c2 : (S.1 8 x1.toNatClampNeg) = (-1)) : vp_in x1 8 := by
    have k0 := hp.2
    have wa := hp.1.1
    have wb := hp.1.2.1
    have wg := hp.1.2.2.1
    have wp := hp.1.2.2.2.1
    have wq := hp.1.2.2.2.2.1
    have wr := hp.1.2.2.2.2.2.2.2
    simp only [rg, bt, lp, vp_rg, Int32.lt_iff_toInt_lt, Int32.le_iff_toInt_le, Int64.lt_iff_toInt_lt, Int64.le_iff_toInt_le, l32, sI_2, tq_0, tq_1, tq_2, tq_6, tq_8, tq_10, tq_20, tq_30, tq_40, tl_0, tl_1, tl_2, tl_3, tl_4, tl_5, tl_6, tl_8, tl_10, tl_14, tl_20, tl_24, tl_30, tl_40, tl_50, tl_60, tl_70, tl_80, tl_100, tl_120, tl_140, tl_180, tl_220, tl_240, tl_260, tl_280, tl_300, tl_540, tl_780, tl_1020, tl_1180, tl_1190, tl_1200, tl_1220, tl_m1] at *
    omega
theorem vc_FAC_daysThere_ix59_9 (S : hS) (x1 : Int32) (x2 : Int32) (hp : wfC S ∧ rg x1 8) (c2 : (S.1 8 x1.toNatClampNeg) = (-1)) (c8 : ¬ ((S.1 9 x1.toNatClampNeg) = (-1))) : vp_in x1 8 := by
    have k0 := hp.2
    have wa := hp.1.1
    have wb := hp.1.2.1
    have wg := hp.1.2.2.1
    have wp := hp.1.2.2.2.1
    have wq := hp.1.2.2.2.2.1
    have wr := hp.1.2.2.2.2.2.2.2
    simp only [rg, bt, lp, vp_rg, Int32.lt_iff_toInt_lt, Int32.le_iff_toInt_le, Int64.lt_iff_toInt_lt, Int64.le_iff_toInt_le, l32, sI_2, tq_0, tq_1, tq_2, tq_6, tq_8, tq_10, tq_20, tq_30, tq_40, tl_0, tl_1, tl_2, tl_3, tl_4, tl_5, tl_6, tl_8, tl_10, tl_14, tl_20, tl_24, tl_30, tl_40, tl_50, tl_60, tl_70, tl_80, tl_100, tl_120, tl_140, tl_180, tl_220, tl_240, tl_260, tl_280, tl_300, tl_540, tl_780, tl_1020, tl_1180, tl_1190, tl_1200, tl_1220, tl_m1] at *
    omega
theorem vc_FHL_commonDivisor_nz27_3 (S : hS) (x0 : Int64) (x2 : Int64) (x4 : Int64) (x6 : Int64) (x8 : Int32) (hJ : 0 ≤ x8.toInt) (c1 : ¬ (100 ≤ x8)) (c2 : ¬ (x6 = 0)) : ¬ x6 = 0 := by
    simp only [rg, bt, lp, vp_rg, Int32.lt_iff_toInt_lt, Int32.le_iff_toInt_le, Int64.lt_iff_toInt_lt, Int64.le_iff_toInt_le, l32, sI_2, tq_0, tq_1, tq_2, tq_6, tq_8, tq_10, tq_20, tq_30, tq_40, tl_0, tl_1, tl_2, tl_3, tl_4, tl_5, tl_6, tl_8, tl_10, tl_14, tl_20, tl_24, tl_30, tl_40, tl_50, tl_60, tl_70, tl_80, tl_100, tl_120, tl_140, tl_180, tl_220, tl_240, tl_260, tl_280, tl_300, tl_540, tl_780, tl_1020, tl_1180, tl_1190, tl_1200, tl_1220, tl_m1] at *
    omega
theorem vc_FHL_commonDivisor_inv9_4 (S : hS) (x0 : Int64) (x2 : Int64) (x4 : Int64) (x6 : Int64) (x8 : Int32) (hJ : 0 ≤ x8.toInt) (c1 : ¬ (100 ≤ x8)) (c2 : ¬ (x6 = 0)) : 0 ≤ (x8 + 1).toInt := by
    simp only [rg, bt, lp, vp_rg, Int32.lt_iff_toInt_lt, Int32.le_iff_toInt_le, Int64.lt_iff_toInt_lt, Int64.le_iff_toInt_le, l32, sI_2, tq_0, tq_1, tq_2, tq_6, tq_8, tq_10, tq_20, tq_30, tq_40, tl_0, tl_1, tl_2, tl_3, tl_4, tl_5, tl_6, tl_8, tl_10, tl_14, tl_20, tl_24, tl_30, tl_40, tl_50, tl_60, tl_70, tl_80, tl_100, tl_120, tl_140, tl_180, tl_220, tl_240, tl_260, tl_280, tl_300, tl_540, tl_780, tl_1020, tl_1180, tl_1190, tl_1200, tl_1220, tl_m1] at *
    have t0 : (x8 + 1).toInt = ((x8).toInt + 1) := (ti_add (a := (x8)) (b := (1 : Int32)) rfl tl_1 (by omega) (by omega))
    omega
theorem vc_FHL_commonDivisor_mu9_5 (S : hS) (x0 : Int64) (x2 : Int64) (x4 : Int64) (x6 : Int64) (x8 : Int32) (hJ : 0 ≤ x8.toInt) (c1 : ¬ (100 ≤ x8)) (c2 : ¬ (x6 = 0)) : ((100 - (x8 + 1).toInt).toNat) < ((100 - x8.toInt).toNat) := by
    simp only [rg, bt, lp, vp_rg, Int32.lt_iff_toInt_lt, Int32.le_iff_toInt_le, Int64.lt_iff_toInt_lt, Int64.le_iff_toInt_le, l32, sI_2, tq_0, tq_1, tq_2, tq_6, tq_8, tq_10, tq_20, tq_30, tq_40, tl_0, tl_1, tl_2, tl_3, tl_4, tl_5, tl_6, tl_8, tl_10, tl_14, tl_20, tl_24, tl_30, tl_40, tl_50, tl_60, tl_70, tl_80, tl_100, tl_120, tl_140, tl_180, tl_220, tl_240, tl_260, tl_280, tl_300, tl_540, tl_780, tl_1020, tl_1180, tl_1190, tl_1200, tl_1220, tl_m1] at *
    have t0 : (x8 + 1).toInt = ((x8).toInt + 1) := (ti_add (a := (x8)) (b := (1 : Int32)) rfl tl_1 (by omega) (by omega))
    omega
theorem vc_FHL_commonDivisor_inv09_7 (S : hS) (x0 : Int64) (x2 : Int64) : 0 ≤ (0 : Int32).toInt := by
    simp only [rg, bt, lp, vp_rg, Int32.lt_iff_toInt_lt, Int32.le_iff_toInt_le, Int64.lt_iff_toInt_lt, Int64.le_iff_toInt_le, l32, sI_2, tq_0, tq_1, tq_2, tq_6, tq_8, tq_10, tq_20, tq_30, tq_40, tl_0, tl_1, tl_2, tl_3, tl_4, tl_5, tl_6, tl_8, tl_10, tl_14, tl_20, tl_24, tl_30, tl_40, tl_50, tl_60, tl_70, tl_80, tl_100, tl_120, tl_140, tl_180, tl_220, tl_240, tl_260, tl_280, tl_300, tl_540, tl_780, tl_1020, tl_1180, tl_1190, tl_1200, tl_1220, tl_m1] at *
    have t0 : (0 : Int32).toInt = 0 := tl_0
    omega
theorem vc_FHL_commonDivisor_mu09_8 (S : hS) (x0 : Int64) (x2 : Int64) : ((100 - (0 : Int32).toInt).toNat) < 300 := by
    simp only [rg, bt, lp, vp_rg, Int32.lt_iff_toInt_lt, Int32.le_iff_toInt_le, Int64.lt_iff_toInt_lt, Int64.le_iff_toInt_le, l32, sI_2, tq_0, tq_1, tq_2, tq_6, tq_8, tq_10, tq_20, tq_30, tq_40, tl_0, tl_1, tl_2, tl_3, tl_4, tl_5, tl_6, tl_8, tl_10, tl_14, tl_20, tl_24, tl_30, tl_40, tl_50, tl_60, tl_70, tl_80, tl_100, tl_120, tl_140, tl_180, tl_220, tl_240, tl_260, tl_280, tl_300, tl_540, tl_780, tl_1020, tl_1180, tl_1190, tl_1200, tl_1220, tl_m1] at *
    have t0 : (0 : Int32).toInt = 0 := tl_0
    omega
theorem vc_FHL_inLowestTerms_nz23_2 (S : hS) (x0 : Int64) (x2 : Int64) (x4 : Int32) (c1 : ¬ (x4 = 0)) : ¬ (if (FHL_commonDivisor S x0 x2) < 1 then 1 else (FHL_commonDivisor S x0 x2)) = 0 := nz_max
theorem vc_FHL_inLowestTerms_nz23_3 (S : hS) (x0 : Int64) (x2 : Int64) (x4 : Int32) (c1 : x4 = 0) : ¬ (if (FHL_commonDivisor S x0 x2) < 1 then 1 else (FHL_commonDivisor S x0 x2)) = 0 := nz_max
theorem vc_FHL_share_pre8_1 (S : hS) (x1 : Int32) (x2 : Int32) (x3 : Int32) (hp : wfC S) : wfC S := hp
theorem vc_FHL_share_pre43_6 (S : hS) (x1 : Int32) (x2 : Int32) (x3 : Int32) (hp : wfC S) (c2 : ¬ ((FAC_hasHousehold S x1) = 0)) (c3 : ¬ ((FHL_isMonth S x2) = 0)) (c4 : ¬ (x3 < 0)) (c5 : x3 ≤ 1) : wfC S ∧ rg x1 8 := ⟨hp, (by
    have wa := hp.1
    have wb := hp.2.1
    have wg := hp.2.2.1
    have wp := hp.2.2.2.1
    have wq := hp.2.2.2.2.1
    have wr := hp.2.2.2.2.2.2.2
    have k0 := hhC hp c2
    simp only [rg, bt, lp, vp_rg, Int32.lt_iff_toInt_lt, Int32.le_iff_toInt_le, Int64.lt_iff_toInt_lt, Int64.le_iff_toInt_le, l32, sI_2, tq_0, tq_1, tq_2, tq_6, tq_8, tq_10, tq_20, tq_30, tq_40, tl_0, tl_1, tl_2, tl_3, tl_4, tl_5, tl_6, tl_8, tl_10, tl_14, tl_20, tl_24, tl_30, tl_40, tl_50, tl_60, tl_70, tl_80, tl_100, tl_120, tl_140, tl_180, tl_220, tl_240, tl_260, tl_280, tl_300, tl_540, tl_780, tl_1020, tl_1180, tl_1190, tl_1200, tl_1220, tl_m1] at *
    omega)⟩
theorem vc_FJO_isReversible_ix17_3 (S : hS) (x1 : Int32) (hp : wfC S) (c1 : ¬ (x1 < 0)) (c2 : ¬ ((S.1 10 0) ≤ x1)) : vp_in x1 40 := by
    have wa := hp.1
    have wb := hp.2.1
    have wg := hp.2.2.1
    have wp := hp.2.2.2.1
    have wq := hp.2.2.2.2.1
    have wr := hp.2.2.2.2.2.2.2
    simp only [rg, bt, lp, vp_rg, Int32.lt_iff_toInt_lt, Int32.le_iff_toInt_le, Int64.lt_iff_toInt_lt, Int64.le_iff_toInt_le, l32, sI_2, tq_0, tq_1, tq_2, tq_6, tq_8, tq_10, tq_20, tq_30, tq_40, tl_0, tl_1, tl_2, tl_3, tl_4, tl_5, tl_6, tl_8, tl_10, tl_14, tl_20, tl_24, tl_30, tl_40, tl_50, tl_60, tl_70, tl_80, tl_100, tl_120, tl_140, tl_180, tl_220, tl_240, tl_260, tl_280, tl_300, tl_540, tl_780, tl_1020, tl_1180, tl_1190, tl_1200, tl_1220, tl_m1] at *
    omega
theorem vc_FJO_isReversible_ix35_5 (S : hS) (x1 : Int32) (hp : wfC S) (c1 : ¬ (x1 < 0)) (c2 : ¬ ((S.1 10 0) ≤ x1)) (c4 : (S.1 12 x1.toNatClampNeg) = 1) : vp_in x1 40 := by
    have wa := hp.1
    have wb := hp.2.1
    have wg := hp.2.2.1
    have wp := hp.2.2.2.1
    have wq := hp.2.2.2.2.1
    have wr := hp.2.2.2.2.2.2.2
    simp only [rg, bt, lp, vp_rg, Int32.lt_iff_toInt_lt, Int32.le_iff_toInt_le, Int64.lt_iff_toInt_lt, Int64.le_iff_toInt_le, l32, sI_2, tq_0, tq_1, tq_2, tq_6, tq_8, tq_10, tq_20, tq_30, tq_40, tl_0, tl_1, tl_2, tl_3, tl_4, tl_5, tl_6, tl_8, tl_10, tl_14, tl_20, tl_24, tl_30, tl_40, tl_50, tl_60, tl_70, tl_80, tl_100, tl_120, tl_140, tl_180, tl_220, tl_240, tl_260, tl_280, tl_300, tl_540, tl_780, tl_1020, tl_1180, tl_1190, tl_1200, tl_1220, tl_m1] at *
    omega
theorem vc_FJO_isReversible_ix53_7 (S : hS) (x1 : Int32) (x2 : Int32) (x3 : Int32) (x4 : Int32) (hJ : wfC S ∧ lp x4 x3) (c6 : ¬ (x3 ≤ x4)) : vp_in x4 240 := by
    have k0 := hJ.2
    have wa := hJ.1.1
    have wb := hJ.1.2.1
    have wg := hJ.1.2.2.1
    have wp := hJ.1.2.2.2.1
    have wq := hJ.1.2.2.2.2.1
    have wr := hJ.1.2.2.2.2.2.2.2
    simp only [rg, bt, lp, vp_rg, Int32.lt_iff_toInt_lt, Int32.le_iff_toInt_le, Int64.lt_iff_toInt_lt, Int64.le_iff_toInt_le, l32, sI_2, tq_0, tq_1, tq_2, tq_6, tq_8, tq_10, tq_20, tq_30, tq_40, tl_0, tl_1, tl_2, tl_3, tl_4, tl_5, tl_6, tl_8, tl_10, tl_14, tl_20, tl_24, tl_30, tl_40, tl_50, tl_60, tl_70, tl_80, tl_100, tl_120, tl_140, tl_180, tl_220, tl_240, tl_260, tl_280, tl_300, tl_540, tl_780, tl_1020, tl_1180, tl_1190, tl_1200, tl_1220, tl_m1] at *
    omega
theorem vc_FJO_isReversible_inv41_9 (S : hS) (x1 : Int32) (x2 : Int32) (x3 : Int32) (x4 : Int32) (hJ : wfC S ∧ lp x4 x3) (c6 : ¬ (x3 ≤ x4)) (c8 : (S.2 17 x4.toNatClampNeg) = (-1)) : wfC S ∧ lp (x4 + 1) x3 := ⟨hJ.1, (by
    have k0 := hJ.2
    have wa := hJ.1.1
    have wb := hJ.1.2.1
    have wg := hJ.1.2.2.1
    have wp := hJ.1.2.2.2.1
    have wq := hJ.1.2.2.2.2.1
    have wr := hJ.1.2.2.2.2.2.2.2
    simp only [rg, bt, lp, vp_rg, Int32.lt_iff_toInt_lt, Int32.le_iff_toInt_le, Int64.lt_iff_toInt_lt, Int64.le_iff_toInt_le, l32, sI_2, tq_0, tq_1, tq_2, tq_6, tq_8, tq_10, tq_20, tq_30, tq_40, tl_0, tl_1, tl_2, tl_3, tl_4, tl_5, tl_6, tl_8, tl_10, tl_14, tl_20, tl_24, tl_30, tl_40, tl_50, tl_60, tl_70, tl_80, tl_100, tl_120, tl_140, tl_180, tl_220, tl_240, tl_260, tl_280, tl_300, tl_540, tl_780, tl_1020, tl_1180, tl_1190, tl_1200, tl_1220, tl_m1] at *
    have t0 : (x4 + 1).toInt = ((x4).toInt + 1) := (ti_add (a := (x4)) (b := (1 : Int32)) rfl tl_1 (by omega) (by omega))
    omega)⟩
theorem vc_FJO_isReversible_mu41_10 (S : hS) (x1 : Int32) (x2 : Int32) (x3 : Int32) (x4 : Int32) (hJ : wfC S ∧ lp x4 x3) (c6 : ¬ (x3 ≤ x4)) (c8 : (S.2 17 x4.toNatClampNeg) = (-1)) : ((x3.toInt - (x4 + 1).toInt).toNat) < ((x3.toInt - x4.toInt).toNat) := by
    have k0 := hJ.2
    have wa := hJ.1.1
    have wb := hJ.1.2.1
    have wg := hJ.1.2.2.1
    have wp := hJ.1.2.2.2.1
    have wq := hJ.1.2.2.2.2.1
    have wr := hJ.1.2.2.2.2.2.2.2
    simp only [rg, bt, lp, vp_rg, Int32.lt_iff_toInt_lt, Int32.le_iff_toInt_le, Int64.lt_iff_toInt_lt, Int64.le_iff_toInt_le, l32, sI_2, tq_0, tq_1, tq_2, tq_6, tq_8, tq_10, tq_20, tq_30, tq_40, tl_0, tl_1, tl_2, tl_3, tl_4, tl_5, tl_6, tl_8, tl_10, tl_14, tl_20, tl_24, tl_30, tl_40, tl_50, tl_60, tl_70, tl_80, tl_100, tl_120, tl_140, tl_180, tl_220, tl_240, tl_260, tl_280, tl_300, tl_540, tl_780, tl_1020, tl_1180, tl_1190, tl_1200, tl_1220, tl_m1] at *
    have t0 : (x4 + 1).toInt = ((x4).toInt + 1) := (ti_add (a := (x4)) (b := (1 : Int32)) rfl tl_1 (by omega) (by omega))
    omega
theorem vc_FJO_isReversible_ix67_11 (S : hS) (x1 : Int32) (x2 : Int32) (x3 : Int32) (x4 : Int32) (hJ : wfC S ∧ lp x4 x3) (c6 : ¬ (x3 ≤ x4)) (c8 : ¬ ((S.2 17 x4.toNatClampNeg) = (-1))) : vp_in x4 240 := by
    have k0 := hJ.2
    have wa := hJ.1.1
    have wb := hJ.1.2.1
    have wg := hJ.1.2.2.1
    have wp := hJ.1.2.2.2.1
    have wq := hJ.1.2.2.2.2.1
    have wr := hJ.1.2.2.2.2.2.2.2
    simp only [rg, bt, lp, vp_rg, Int32.lt_iff_toInt_lt, Int32.le_iff_toInt_le, Int64.lt_iff_toInt_lt, Int64.le_iff_toInt_le, l32, sI_2, tq_0, tq_1, tq_2, tq_6, tq_8, tq_10, tq_20, tq_30, tq_40, tl_0, tl_1, tl_2, tl_3, tl_4, tl_5, tl_6, tl_8, tl_10, tl_14, tl_20, tl_24, tl_30, tl_40, tl_50, tl_60, tl_70, tl_80, tl_100, tl_120, tl_140, tl_180, tl_220, tl_240, tl_260, tl_280, tl_300, tl_540, tl_780, tl_1020, tl_1180, tl_1190, tl_1200, tl_1220, tl_m1] at *
    omega
theorem vc_FJO_isReversible_ix74_12 (S : hS) (x1 : Int32) (x2 : Int32) (x3 : Int32) (x4 : Int32) (hJ : wfC S ∧ lp x4 x3) (c6 : ¬ (x3 ≤ x4)) (c8 : ¬ ((S.2 17 x4.toNatClampNeg) = (-1))) : vp_in x4 240 := by
    have k0 := hJ.2
    have wa := hJ.1.1
    have wb := hJ.1.2.1
    have wg := hJ.1.2.2.1
    have wp := hJ.1.2.2.2.1
    have wq := hJ.1.2.2.2.2.1
    have wr := hJ.1.2.2.2.2.2.2.2
    simp only [rg, bt, lp, vp_rg, Int32.lt_iff_toInt_lt, Int32.le_iff_toInt_le, Int64.lt_iff_toInt_lt, Int64.le_iff_toInt_le, l32, sI_2, tq_0, tq_1, tq_2, tq_6, tq_8, tq_10, tq_20, tq_30, tq_40, tl_0, tl_1, tl_2, tl_3, tl_4, tl_5, tl_6, tl_8, tl_10, tl_14, tl_20, tl_24, tl_30, tl_40, tl_50, tl_60, tl_70, tl_80, tl_100, tl_120, tl_140, tl_180, tl_220, tl_240, tl_260, tl_280, tl_300, tl_540, tl_780, tl_1020, tl_1180, tl_1190, tl_1200, tl_1220, tl_m1] at *
    omega
theorem vc_FJO_isReversible_inv41_14 (S : hS) (x1 : Int32) (x2 : Int32) (x3 : Int32) (x4 : Int32) (hJ : wfC S ∧ lp x4 x3) (c6 : ¬ (x3 ≤ x4)) (c8 : ¬ ((S.2 17 x4.toNatClampNeg) = (-1))) (c13 : (S.2 17 x4.toNatClampNeg) = (S.2 16 x4.toNatClampNeg)) : wfC S ∧ lp (x4 + 1) x3 := ⟨hJ.1, (by
    have k0 := hJ.2
    have wa := hJ.1.1
    have wb := hJ.1.2.1
    have wg := hJ.1.2.2.1
    have wp := hJ.1.2.2.2.1
    have wq := hJ.1.2.2.2.2.1
    have wr := hJ.1.2.2.2.2.2.2.2
    simp only [rg, bt, lp, vp_rg, Int32.lt_iff_toInt_lt, Int32.le_iff_toInt_le, Int64.lt_iff_toInt_lt, Int64.le_iff_toInt_le, l32, sI_2, tq_0, tq_1, tq_2, tq_6, tq_8, tq_10, tq_20, tq_30, tq_40, tl_0, tl_1, tl_2, tl_3, tl_4, tl_5, tl_6, tl_8, tl_10, tl_14, tl_20, tl_24, tl_30, tl_40, tl_50, tl_60, tl_70, tl_80, tl_100, tl_120, tl_140, tl_180, tl_220, tl_240, tl_260, tl_280, tl_300, tl_540, tl_780, tl_1020, tl_1180, tl_1190, tl_1200, tl_1220, tl_m1] at *
    have t0 : (x4 + 1).toInt = ((x4).toInt + 1) := (ti_add (a := (x4)) (b := (1 : Int32)) rfl tl_1 (by omega) (by omega))
    omega)⟩
theorem vc_FJO_isReversible_mu41_15 (S : hS) (x1 : Int32) (x2 : Int32) (x3 : Int32) (x4 : Int32) (hJ : wfC S ∧ lp x4 x3) (c6 : ¬ (x3 ≤ x4)) (c8 : ¬ ((S.2 17 x4.toNatClampNeg) = (-1))) (c13 : (S.2 17 x4.toNatClampNeg) = (S.2 16 x4.toNatClampNeg)) : ((x3.toInt - (x4 + 1).toInt).toNat) < ((x3.toInt - x4.toInt).toNat) := by
    have k0 := hJ.2
    have wa := hJ.1.1
    have wb := hJ.1.2.1
    have wg := hJ.1.2.2.1
    have wp := hJ.1.2.2.2.1
    have wq := hJ.1.2.2.2.2.1
    have wr := hJ.1.2.2.2.2.2.2.2
    simp only [rg, bt, lp, vp_rg, Int32.lt_iff_toInt_lt, Int32.le_iff_toInt_le, Int64.lt_iff_toInt_lt, Int64.le_iff_toInt_le, l32, sI_2, tq_0, tq_1, tq_2, tq_6, tq_8, tq_10, tq_20, tq_30, tq_40, tl_0, tl_1, tl_2, tl_3, tl_4, tl_5, tl_6, tl_8, tl_10, tl_14, tl_20, tl_24, tl_30, tl_40, tl_50, tl_60, tl_70, tl_80, tl_100, tl_120, tl_140, tl_180, tl_220, tl_240, tl_260, tl_280, tl_300, tl_540, tl_780, tl_1020, tl_1180, tl_1190, tl_1200, tl_1220, tl_m1] at *
    have t0 : (x4 + 1).toInt = ((x4).toInt + 1) := (ti_add (a := (x4)) (b := (1 : Int32)) rfl tl_1 (by omega) (by omega))
    omega
theorem vc_FJO_isReversible_inv041_17 (S : hS) (x1 : Int32) (hp : wfC S) (c1 : ¬ (x1 < 0)) (c2 : ¬ ((S.1 10 0) ≤ x1)) (c4 : (S.1 12 x1.toNatClampNeg) = 1) : wfC S ∧ lp (x1 * 6) ((x1 * 6) + (S.1 13 x1.toNatClampNeg)) := ⟨hp, (by
    have wa := hp.1
    have wb := hp.2.1
    have wg := hp.2.2.1
    have wp := hp.2.2.2.1
    have wq := hp.2.2.2.2.1
    have wr := hp.2.2.2.2.2.2.2
    simp only [rg, bt, lp, vp_rg, Int32.lt_iff_toInt_lt, Int32.le_iff_toInt_le, Int64.lt_iff_toInt_lt, Int64.le_iff_toInt_le, l32, sI_2, tq_0, tq_1, tq_2, tq_6, tq_8, tq_10, tq_20, tq_30, tq_40, tl_0, tl_1, tl_2, tl_3, tl_4, tl_5, tl_6, tl_8, tl_10, tl_14, tl_20, tl_24, tl_30, tl_40, tl_50, tl_60, tl_70, tl_80, tl_100, tl_120, tl_140, tl_180, tl_220, tl_240, tl_260, tl_280, tl_300, tl_540, tl_780, tl_1020, tl_1180, tl_1190, tl_1200, tl_1220, tl_m1] at *
    have k0 := wfC_r hp (x := x1) (by omega) (by omega)
    simp only [bt] at k0
    have t0 : (x1 * 6).toInt = ((x1).toInt * 6) := (ti_mul (a := (x1)) (b := (6 : Int32)) rfl tl_6 (by omega) (by omega))
    have t1 : ((x1 * 6) + (S.1 13 x1.toNatClampNeg)).toInt = (((x1).toInt * 6) + (S.1 13 x1.toNatClampNeg).toInt) := (ti_add (a := (x1 * 6)) (b := (S.1 13 x1.toNatClampNeg)) (ti_mul (a := (x1)) (b := (6 : Int32)) rfl tl_6 (by omega) (by omega)) rfl (by omega) (by omega))
    omega)⟩
theorem vc_FJO_isReversible_mu041_18 (S : hS) (x1 : Int32) (hp : wfC S) (c1 : ¬ (x1 < 0)) (c2 : ¬ ((S.1 10 0) ≤ x1)) (c4 : (S.1 12 x1.toNatClampNeg) = 1) : ((((x1 * 6) + (S.1 13 x1.toNatClampNeg)).toInt - (x1 * 6).toInt).toNat) < 300 := by
    have wa := hp.1
    have wb := hp.2.1
    have wg := hp.2.2.1
    have wp := hp.2.2.2.1
    have wq := hp.2.2.2.2.1
    have wr := hp.2.2.2.2.2.2.2
    simp only [rg, bt, lp, vp_rg, Int32.lt_iff_toInt_lt, Int32.le_iff_toInt_le, Int64.lt_iff_toInt_lt, Int64.le_iff_toInt_le, l32, sI_2, tq_0, tq_1, tq_2, tq_6, tq_8, tq_10, tq_20, tq_30, tq_40, tl_0, tl_1, tl_2, tl_3, tl_4, tl_5, tl_6, tl_8, tl_10, tl_14, tl_20, tl_24, tl_30, tl_40, tl_50, tl_60, tl_70, tl_80, tl_100, tl_120, tl_140, tl_180, tl_220, tl_240, tl_260, tl_280, tl_300, tl_540, tl_780, tl_1020, tl_1180, tl_1190, tl_1200, tl_1220, tl_m1] at *
    have k0 := wfC_r hp (x := x1) (by omega) (by omega)
    simp only [bt] at k0
    have t0 : ((x1 * 6) + (S.1 13 x1.toNatClampNeg)).toInt = (((x1).toInt * 6) + (S.1 13 x1.toNatClampNeg).toInt) := (ti_add (a := (x1 * 6)) (b := (S.1 13 x1.toNatClampNeg)) (ti_mul (a := (x1)) (b := (6 : Int32)) rfl tl_6 (by omega) (by omega)) rfl (by omega) (by omega))
    have t1 : (x1 * 6).toInt = ((x1).toInt * 6) := (ti_mul (a := (x1)) (b := (6 : Int32)) rfl tl_6 (by omega) (by omega))
    omega
theorem vc_FJO_turnRows_ix11_1 (S : hS) (x1 : Int32) (x2 : Int32) (hp : wfC S ∧ rg x1 40) : vp_in x1 40 := by
    have k0 := hp.2
    have wa := hp.1.1
    have wb := hp.1.2.1
    have wg := hp.1.2.2.1
    have wp := hp.1.2.2.2.1
    have wq := hp.1.2.2.2.2.1
    have wr := hp.1.2.2.2.2.2.2.2
    simp only [rg, bt, lp, vp_rg, Int32.lt_iff_toInt_lt, Int32.le_iff_toInt_le, Int64.lt_iff_toInt_lt, Int64.le_iff_toInt_le, l32, sI_2, tq_0, tq_1, tq_2, tq_6, tq_8, tq_10, tq_20, tq_30, tq_40, tl_0, tl_1, tl_2, tl_3, tl_4, tl_5, tl_6, tl_8, tl_10, tl_14, tl_20, tl_24, tl_30, tl_40, tl_50, tl_60, tl_70, tl_80, tl_100, tl_120, tl_140, tl_180, tl_220, tl_240, tl_260, tl_280, tl_300, tl_540, tl_780, tl_1020, tl_1180, tl_1190, tl_1200, tl_1220, tl_m1] at *
    omega
theorem vc_FJO_turnRows_ix33_3 (S : hS) (x1 : Int32) (x2 : Int32) (x3 : Int32) (x4 : Int32) (x5 : Int32) (hJ : wfC S ∧ lp x5 x4) (c2 : ¬ (x4 ≤ x5)) : vp_in x5 240 := by
    have k0 := hJ.2
    have wa := hJ.1.1
    have wb := hJ.1.2.1
    have wg := hJ.1.2.2.1
    have wp := hJ.1.2.2.2.1
    have wq := hJ.1.2.2.2.2.1
    have wr := hJ.1.2.2.2.2.2.2.2
    simp only [rg, bt, lp, vp_rg, Int32.lt_iff_toInt_lt, Int32.le_iff_toInt_le, Int64.lt_iff_toInt_lt, Int64.le_iff_toInt_le, l32, sI_2, tq_0, tq_1, tq_2, tq_6, tq_8, tq_10, tq_20, tq_30, tq_40, tl_0, tl_1, tl_2, tl_3, tl_4, tl_5, tl_6, tl_8, tl_10, tl_14, tl_20, tl_24, tl_30, tl_40, tl_50, tl_60, tl_70, tl_80, tl_100, tl_120, tl_140, tl_180, tl_220, tl_240, tl_260, tl_280, tl_300, tl_540, tl_780, tl_1020, tl_1180, tl_1190, tl_1200, tl_1220, tl_m1] at *
    omega
theorem vc_FJO_turnRows_ix40_4 (S : hS) (x1 : Int32) (x2 : Int32) (x3 : Int32) (x4 : Int32) (x5 : Int32) (hJ : wfC S ∧ lp x5 x4) (c2 : ¬ (x4 ≤ x5)) : vp_in x5 240 := by
    have k0 := hJ.2
    have wa := hJ.1.1
    have wb := hJ.1.2.1
    have wg := hJ.1.2.2.1
    have wp := hJ.1.2.2.2.1
    have wq := hJ.1.2.2.2.2.1
    have wr := hJ.1.2.2.2.2.2.2.2
    simp only [rg, bt, lp, vp_rg, Int32.lt_iff_toInt_lt, Int32.le_iff_toInt_le, Int64.lt_iff_toInt_lt, Int64.le_iff_toInt_le, l32, sI_2, tq_0, tq_1, tq_2, tq_6, tq_8, tq_10, tq_20, tq_30, tq_40, tl_0, tl_1, tl_2, tl_3, tl_4, tl_5, tl_6, tl_8, tl_10, tl_14, tl_20, tl_24, tl_30, tl_40, tl_50, tl_60, tl_70, tl_80, tl_100, tl_120, tl_140, tl_180, tl_220, tl_240, tl_260, tl_280, tl_300, tl_540, tl_780, tl_1020, tl_1180, tl_1190, tl_1200, tl_1220, tl_m1] at *
    omega
theorem vc_FJO_turnRows_pre42_5 (S : hS) (x1 : Int32) (x2 : Int32) (x3 : Int32) (x4 : Int32) (x5 : Int32) (hJ : wfC S ∧ lp x5 x4) (c2 : ¬ (x4 ≤ x5)) : wfC S := hJ.1
theorem vc_FJO_turnRows_inv18_7 (S : hS) (x1 : Int32) (x2 : Int32) (x3 : Int32) (x4 : Int32) (x5 : Int32) (hJ : wfC S ∧ lp x5 x4) (c2 : ¬ (x4 ≤ x5)) (v6 : Int32) (S6 : hS) (hq6 : FJO_addRow S x2 (S.1 15 x5.toNatClampNeg) (-(S.2 16 x5.toNatClampNeg)) = (v6, S6)) : wfC S6 ∧ lp (x5 + 1) x4 := ⟨by have h := wf_addRow hJ.1 x2 (S.1 15 x5.toNatClampNeg) (-(S.2 16 x5.toNatClampNeg)); rw [hq6] at h; exact h, (by
    have k0 := hJ.2
    have wa := hJ.1.1
    have wb := hJ.1.2.1
    have wg := hJ.1.2.2.1
    have wp := hJ.1.2.2.2.1
    have wq := hJ.1.2.2.2.2.1
    have wr := hJ.1.2.2.2.2.2.2.2
    simp only [rg, bt, lp, vp_rg, Int32.lt_iff_toInt_lt, Int32.le_iff_toInt_le, Int64.lt_iff_toInt_lt, Int64.le_iff_toInt_le, l32, sI_2, tq_0, tq_1, tq_2, tq_6, tq_8, tq_10, tq_20, tq_30, tq_40, tl_0, tl_1, tl_2, tl_3, tl_4, tl_5, tl_6, tl_8, tl_10, tl_14, tl_20, tl_24, tl_30, tl_40, tl_50, tl_60, tl_70, tl_80, tl_100, tl_120, tl_140, tl_180, tl_220, tl_240, tl_260, tl_280, tl_300, tl_540, tl_780, tl_1020, tl_1180, tl_1190, tl_1200, tl_1220, tl_m1] at *
    have t0 : (x5 + 1).toInt = ((x5).toInt + 1) := (ti_add (a := (x5)) (b := (1 : Int32)) rfl tl_1 (by omega) (by omega))
    omega)⟩
theorem vc_FJO_turnRows_mu18_8 (S : hS) (x1 : Int32) (x2 : Int32) (x3 : Int32) (x4 : Int32) (x5 : Int32) (hJ : wfC S ∧ lp x5 x4) (c2 : ¬ (x4 ≤ x5)) (v6 : Int32) (S6 : hS) (hq6 : FJO_addRow S x2 (S.1 15 x5.toNatClampNeg) (-(S.2 16 x5.toNatClampNeg)) = (v6, S6)) : ((x4.toInt - (x5 + 1).toInt).toNat) < ((x4.toInt - x5.toInt).toNat) := by
    have k0 := hJ.2
    have wa := hJ.1.1
    have wb := hJ.1.2.1
    have wg := hJ.1.2.2.1
    have wp := hJ.1.2.2.2.1
    have wq := hJ.1.2.2.2.2.1
    have wr := hJ.1.2.2.2.2.2.2.2
    simp only [rg, bt, lp, vp_rg, Int32.lt_iff_toInt_lt, Int32.le_iff_toInt_le, Int64.lt_iff_toInt_lt, Int64.le_iff_toInt_le, l32, sI_2, tq_0, tq_1, tq_2, tq_6, tq_8, tq_10, tq_20, tq_30, tq_40, tl_0, tl_1, tl_2, tl_3, tl_4, tl_5, tl_6, tl_8, tl_10, tl_14, tl_20, tl_24, tl_30, tl_40, tl_50, tl_60, tl_70, tl_80, tl_100, tl_120, tl_140, tl_180, tl_220, tl_240, tl_260, tl_280, tl_300, tl_540, tl_780, tl_1020, tl_1180, tl_1190, tl_1200, tl_1220, tl_m1] at *
    have t0 : (x5 + 1).toInt = ((x5).toInt + 1) := (ti_add (a := (x5)) (b := (1 : Int32)) rfl tl_1 (by omega) (by omega))
    omega
theorem vc_FJO_turnRows_inv018_10 (S : hS) (x1 : Int32) (x2 : Int32) (hp : wfC S ∧ rg x1 40) : wfC S ∧ lp (x1 * 6) ((x1 * 6) + (S.1 13 x1.toNatClampNeg)) := ⟨hp.1, (by
    have k0 := hp.2
    have wa := hp.1.1
    have wb := hp.1.2.1
    have wg := hp.1.2.2.1
    have wp := hp.1.2.2.2.1
    have wq := hp.1.2.2.2.2.1
    have wr := hp.1.2.2.2.2.2.2.2
    simp only [rg, bt, lp, vp_rg, Int32.lt_iff_toInt_lt, Int32.le_iff_toInt_le, Int64.lt_iff_toInt_lt, Int64.le_iff_toInt_le, l32, sI_2, tq_0, tq_1, tq_2, tq_6, tq_8, tq_10, tq_20, tq_30, tq_40, tl_0, tl_1, tl_2, tl_3, tl_4, tl_5, tl_6, tl_8, tl_10, tl_14, tl_20, tl_24, tl_30, tl_40, tl_50, tl_60, tl_70, tl_80, tl_100, tl_120, tl_140, tl_180, tl_220, tl_240, tl_260, tl_280, tl_300, tl_540, tl_780, tl_1020, tl_1180, tl_1190, tl_1200, tl_1220, tl_m1] at *
    have k1 := wfC_r hp.1 (x := x1) (by omega) (by omega)
    simp only [bt] at k1
    have t0 : (x1 * 6).toInt = ((x1).toInt * 6) := (ti_mul (a := (x1)) (b := (6 : Int32)) rfl tl_6 (by omega) (by omega))
    have t1 : ((x1 * 6) + (S.1 13 x1.toNatClampNeg)).toInt = (((x1).toInt * 6) + (S.1 13 x1.toNatClampNeg).toInt) := (ti_add (a := (x1 * 6)) (b := (S.1 13 x1.toNatClampNeg)) (ti_mul (a := (x1)) (b := (6 : Int32)) rfl tl_6 (by omega) (by omega)) rfl (by omega) (by omega))
    omega)⟩
theorem vc_FJO_turnRows_mu018_11 (S : hS) (x1 : Int32) (x2 : Int32) (hp : wfC S ∧ rg x1 40) : ((((x1 * 6) + (S.1 13 x1.toNatClampNeg)).toInt - (x1 * 6).toInt).toNat) < 300 := by
    have k0 := hp.2
    have wa := hp.1.1
    have wb := hp.1.2.1
    have wg := hp.1.2.2.1
    have wp := hp.1.2.2.2.1
    have wq := hp.1.2.2.2.2.1
    have wr := hp.1.2.2.2.2.2.2.2
    simp only [rg, bt, lp, vp_rg, Int32.lt_iff_toInt_lt, Int32.le_iff_toInt_le, Int64.lt_iff_toInt_lt, Int64.le_iff_toInt_le, l32, sI_2, tq_0, tq_1, tq_2, tq_6, tq_8, tq_10, tq_20, tq_30, tq_40, tl_0, tl_1, tl_2, tl_3, tl_4, tl_5, tl_6, tl_8, tl_10, tl_14, tl_20, tl_24, tl_30, tl_40, tl_50, tl_60, tl_70, tl_80, tl_100, tl_120, tl_140, tl_180, tl_220, tl_240, tl_260, tl_280, tl_300, tl_540, tl_780, tl_1020, tl_1180, tl_1190, tl_1200, tl_1220, tl_m1] at *
    have k1 := wfC_r hp.1 (x := x1) (by omega) (by omega)
    simp only [bt] at k1
    have t0 : ((x1 * 6) + (S.1 13 x1.toNatClampNeg)).toInt = (((x1).toInt * 6) + (S.1 13 x1.toNatClampNeg).toInt) := (ti_add (a := (x1 * 6)) (b := (S.1 13 x1.toNatClampNeg)) (ti_mul (a := (x1)) (b := (6 : Int32)) rfl tl_6 (by omega) (by omega)) rfl (by omega) (by omega))
    have t1 : (x1 * 6).toInt = ((x1).toInt * 6) := (ti_mul (a := (x1)) (b := (6 : Int32)) rfl tl_6 (by omega) (by omega))
    omega
theorem vc_FJO_clearItems_ix11_1 (S : hS) (x1 : Int32) (hp : wfC S ∧ rg x1 40) : vp_in x1 40 := by
    have k0 := hp.2
    have wa := hp.1.1
    have wb := hp.1.2.1
    have wg := hp.1.2.2.1
    have wp := hp.1.2.2.2.1
    have wq := hp.1.2.2.2.2.1
    have wr := hp.1.2.2.2.2.2.2.2
    simp only [rg, bt, lp, vp_rg, Int32.lt_iff_toInt_lt, Int32.le_iff_toInt_le, Int64.lt_iff_toInt_lt, Int64.le_iff_toInt_le, l32, sI_2, tq_0, tq_1, tq_2, tq_6, tq_8, tq_10, tq_20, tq_30, tq_40, tl_0, tl_1, tl_2, tl_3, tl_4, tl_5, tl_6, tl_8, tl_10, tl_14, tl_20, tl_24, tl_30, tl_40, tl_50, tl_60, tl_70, tl_80, tl_100, tl_120, tl_140, tl_180, tl_220, tl_240, tl_260, tl_280, tl_300, tl_540, tl_780, tl_1020, tl_1180, tl_1190, tl_1200, tl_1220, tl_m1] at *
    omega
theorem vc_FJO_clearItems_ix29_3 (S : hS) (x1 : Int32) (x2 : Int32) (x3 : Int32) (x4 : Int32) (hJ : wfC S ∧ lp x4 x3) (c2 : ¬ (x3 ≤ x4)) : vp_in x4 240 := by
    have k0 := hJ.2
    have wa := hJ.1.1
    have wb := hJ.1.2.1
    have wg := hJ.1.2.2.1
    have wp := hJ.1.2.2.2.1
    have wq := hJ.1.2.2.2.2.1
    have wr := hJ.1.2.2.2.2.2.2.2
    simp only [rg, bt, lp, vp_rg, Int32.lt_iff_toInt_lt, Int32.le_iff_toInt_le, Int64.lt_iff_toInt_lt, Int64.le_iff_toInt_le, l32, sI_2, tq_0, tq_1, tq_2, tq_6, tq_8, tq_10, tq_20, tq_30, tq_40, tl_0, tl_1, tl_2, tl_3, tl_4, tl_5, tl_6, tl_8, tl_10, tl_14, tl_20, tl_24, tl_30, tl_40, tl_50, tl_60, tl_70, tl_80, tl_100, tl_120, tl_140, tl_180, tl_220, tl_240, tl_260, tl_280, tl_300, tl_540, tl_780, tl_1020, tl_1180, tl_1190, tl_1200, tl_1220, tl_m1] at *
    omega
theorem vc_FJO_clearItems_inv17_5 (S : hS) (x1 : Int32) (x2 : Int32) (x3 : Int32) (x4 : Int32) (hJ : wfC S ∧ lp x4 x3) (c2 : ¬ (x3 ≤ x4)) (c4 : (S.2 17 x4.toNatClampNeg) = (-1)) : wfC S ∧ lp (x4 + 1) x3 := ⟨hJ.1, (by
    have k0 := hJ.2
    have wa := hJ.1.1
    have wb := hJ.1.2.1
    have wg := hJ.1.2.2.1
    have wp := hJ.1.2.2.2.1
    have wq := hJ.1.2.2.2.2.1
    have wr := hJ.1.2.2.2.2.2.2.2
    simp only [rg, bt, lp, vp_rg, Int32.lt_iff_toInt_lt, Int32.le_iff_toInt_le, Int64.lt_iff_toInt_lt, Int64.le_iff_toInt_le, l32, sI_2, tq_0, tq_1, tq_2, tq_6, tq_8, tq_10, tq_20, tq_30, tq_40, tl_0, tl_1, tl_2, tl_3, tl_4, tl_5, tl_6, tl_8, tl_10, tl_14, tl_20, tl_24, tl_30, tl_40, tl_50, tl_60, tl_70, tl_80, tl_100, tl_120, tl_140, tl_180, tl_220, tl_240, tl_260, tl_280, tl_300, tl_540, tl_780, tl_1020, tl_1180, tl_1190, tl_1200, tl_1220, tl_m1] at *
    have t0 : (x4 + 1).toInt = ((x4).toInt + 1) := (ti_add (a := (x4)) (b := (1 : Int32)) rfl tl_1 (by omega) (by omega))
    omega)⟩
theorem vc_FJO_clearItems_mu17_6 (S : hS) (x1 : Int32) (x2 : Int32) (x3 : Int32) (x4 : Int32) (hJ : wfC S ∧ lp x4 x3) (c2 : ¬ (x3 ≤ x4)) (c4 : (S.2 17 x4.toNatClampNeg) = (-1)) : ((x3.toInt - (x4 + 1).toInt).toNat) < ((x3.toInt - x4.toInt).toNat) := by
    have k0 := hJ.2
    have wa := hJ.1.1
    have wb := hJ.1.2.1
    have wg := hJ.1.2.2.1
    have wp := hJ.1.2.2.2.1
    have wq := hJ.1.2.2.2.2.1
    have wr := hJ.1.2.2.2.2.2.2.2
    simp only [rg, bt, lp, vp_rg, Int32.lt_iff_toInt_lt, Int32.le_iff_toInt_le, Int64.lt_iff_toInt_lt, Int64.le_iff_toInt_le, l32, sI_2, tq_0, tq_1, tq_2, tq_6, tq_8, tq_10, tq_20, tq_30, tq_40, tl_0, tl_1, tl_2, tl_3, tl_4, tl_5, tl_6, tl_8, tl_10, tl_14, tl_20, tl_24, tl_30, tl_40, tl_50, tl_60, tl_70, tl_80, tl_100, tl_120, tl_140, tl_180, tl_220, tl_240, tl_260, tl_280, tl_300, tl_540, tl_780, tl_1020, tl_1180, tl_1190, tl_1200, tl_1220, tl_m1] at *
    have t0 : (x4 + 1).toInt = ((x4).toInt + 1) := (ti_add (a := (x4)) (b := (1 : Int32)) rfl tl_1 (by omega) (by omega))
    omega
theorem vc_FJO_clearItems_ix44_7 (S : hS) (x1 : Int32) (x2 : Int32) (x3 : Int32) (x4 : Int32) (hJ : wfC S ∧ lp x4 x3) (c2 : ¬ (x3 ≤ x4)) (c4 : ¬ ((S.2 17 x4.toNatClampNeg) = (-1))) : vp_in x4 240 := by
    have k0 := hJ.2
    have wa := hJ.1.1
    have wb := hJ.1.2.1
    have wg := hJ.1.2.2.1
    have wp := hJ.1.2.2.2.1
    have wq := hJ.1.2.2.2.2.1
    have wr := hJ.1.2.2.2.2.2.2.2
    simp only [rg, bt, lp, vp_rg, Int32.lt_iff_toInt_lt, Int32.le_iff_toInt_le, Int64.lt_iff_toInt_lt, Int64.le_iff_toInt_le, l32, sI_2, tq_0, tq_1, tq_2, tq_6, tq_8, tq_10, tq_20, tq_30, tq_40, tl_0, tl_1, tl_2, tl_3, tl_4, tl_5, tl_6, tl_8, tl_10, tl_14, tl_20, tl_24, tl_30, tl_40, tl_50, tl_60, tl_70, tl_80, tl_100, tl_120, tl_140, tl_180, tl_220, tl_240, tl_260, tl_280, tl_300, tl_540, tl_780, tl_1020, tl_1180, tl_1190, tl_1200, tl_1220, tl_m1] at *
    omega
theorem vc_FJO_clearItems_inv17_8 (S : hS) (x1 : Int32) (x2 : Int32) (x3 : Int32) (x4 : Int32) (hJ : wfC S ∧ lp x4 x3) (c2 : ¬ (x3 ≤ x4)) (c4 : ¬ ((S.2 17 x4.toNatClampNeg) = (-1))) : wfC (sL S 17 x4.toNatClampNeg 0) ∧ lp (x4 + 1) x3 := ⟨(wfC_L hJ.1 (by decide)), (by
    have k0 := hJ.2
    have wa := hJ.1.1
    have wb := hJ.1.2.1
    have wg := hJ.1.2.2.1
    have wp := hJ.1.2.2.2.1
    have wq := hJ.1.2.2.2.2.1
    have wr := hJ.1.2.2.2.2.2.2.2
    simp only [rg, bt, lp, vp_rg, Int32.lt_iff_toInt_lt, Int32.le_iff_toInt_le, Int64.lt_iff_toInt_lt, Int64.le_iff_toInt_le, l32, sI_2, tq_0, tq_1, tq_2, tq_6, tq_8, tq_10, tq_20, tq_30, tq_40, tl_0, tl_1, tl_2, tl_3, tl_4, tl_5, tl_6, tl_8, tl_10, tl_14, tl_20, tl_24, tl_30, tl_40, tl_50, tl_60, tl_70, tl_80, tl_100, tl_120, tl_140, tl_180, tl_220, tl_240, tl_260, tl_280, tl_300, tl_540, tl_780, tl_1020, tl_1180, tl_1190, tl_1200, tl_1220, tl_m1] at *
    have t0 : (x4 + 1).toInt = ((x4).toInt + 1) := (ti_add (a := (x4)) (b := (1 : Int32)) rfl tl_1 (by omega) (by omega))
    omega)⟩
theorem vc_FJO_clearItems_mu17_9 (S : hS) (x1 : Int32) (x2 : Int32) (x3 : Int32) (x4 : Int32) (hJ : wfC S ∧ lp x4 x3) (c2 : ¬ (x3 ≤ x4)) (c4 : ¬ ((S.2 17 x4.toNatClampNeg) = (-1))) : ((x3.toInt - (x4 + 1).toInt).toNat) < ((x3.toInt - x4.toInt).toNat) := by
    have k0 := hJ.2
    have wa := hJ.1.1
    have wb := hJ.1.2.1
    have wg := hJ.1.2.2.1
    have wp := hJ.1.2.2.2.1
    have wq := hJ.1.2.2.2.2.1
    have wr := hJ.1.2.2.2.2.2.2.2
    simp only [rg, bt, lp, vp_rg, Int32.lt_iff_toInt_lt, Int32.le_iff_toInt_le, Int64.lt_iff_toInt_lt, Int64.le_iff_toInt_le, l32, sI_2, tq_0, tq_1, tq_2, tq_6, tq_8, tq_10, tq_20, tq_30, tq_40, tl_0, tl_1, tl_2, tl_3, tl_4, tl_5, tl_6, tl_8, tl_10, tl_14, tl_20, tl_24, tl_30, tl_40, tl_50, tl_60, tl_70, tl_80, tl_100, tl_120, tl_140, tl_180, tl_220, tl_240, tl_260, tl_280, tl_300, tl_540, tl_780, tl_1020, tl_1180, tl_1190, tl_1200, tl_1220, tl_m1] at *
    have t0 : (x4 + 1).toInt = ((x4).toInt + 1) := (ti_add (a := (x4)) (b := (1 : Int32)) rfl tl_1 (by omega) (by omega))
    omega
theorem vc_FJO_clearItems_inv017_11 (S : hS) (x1 : Int32) (hp : wfC S ∧ rg x1 40) : wfC S ∧ lp (x1 * 6) ((x1 * 6) + (S.1 13 x1.toNatClampNeg)) := ⟨hp.1, (by
    have k0 := hp.2
    have wa := hp.1.1
    have wb := hp.1.2.1
    have wg := hp.1.2.2.1
    have wp := hp.1.2.2.2.1
    have wq := hp.1.2.2.2.2.1
    have wr := hp.1.2.2.2.2.2.2.2
    simp only [rg, bt, lp, vp_rg, Int32.lt_iff_toInt_lt, Int32.le_iff_toInt_le, Int64.lt_iff_toInt_lt, Int64.le_iff_toInt_le, l32, sI_2, tq_0, tq_1, tq_2, tq_6, tq_8, tq_10, tq_20, tq_30, tq_40, tl_0, tl_1, tl_2, tl_3, tl_4, tl_5, tl_6, tl_8, tl_10, tl_14, tl_20, tl_24, tl_30, tl_40, tl_50, tl_60, tl_70, tl_80, tl_100, tl_120, tl_140, tl_180, tl_220, tl_240, tl_260, tl_280, tl_300, tl_540, tl_780, tl_1020, tl_1180, tl_1190, tl_1200, tl_1220, tl_m1] at *
    have k1 := wfC_r hp.1 (x := x1) (by omega) (by omega)
    simp only [bt] at k1
    have t0 : (x1 * 6).toInt = ((x1).toInt * 6) := (ti_mul (a := (x1)) (b := (6 : Int32)) rfl tl_6 (by omega) (by omega))
    have t1 : ((x1 * 6) + (S.1 13 x1.toNatClampNeg)).toInt = (((x1).toInt * 6) + (S.1 13 x1.toNatClampNeg).toInt) := (ti_add (a := (x1 * 6)) (b := (S.1 13 x1.toNatClampNeg)) (ti_mul (a := (x1)) (b := (6 : Int32)) rfl tl_6 (by omega) (by omega)) rfl (by omega) (by omega))
    omega)⟩
theorem vc_FJO_clearItems_mu017_12 (S : hS) (x1 : Int32) (hp : wfC S ∧ rg x1 40) : ((((x1 * 6) + (S.1 13 x1.toNatClampNeg)).toInt - (x1 * 6).toInt).toNat) < 300 := by
    have k0 := hp.2
    have wa := hp.1.1
    have wb := hp.1.2.1
    have wg := hp.1.2.2.1
    have wp := hp.1.2.2.2.1
    have wq := hp.1.2.2.2.2.1
    have wr := hp.1.2.2.2.2.2.2.2
    simp only [rg, bt, lp, vp_rg, Int32.lt_iff_toInt_lt, Int32.le_iff_toInt_le, Int64.lt_iff_toInt_lt, Int64.le_iff_toInt_le, l32, sI_2, tq_0, tq_1, tq_2, tq_6, tq_8, tq_10, tq_20, tq_30, tq_40, tl_0, tl_1, tl_2, tl_3, tl_4, tl_5, tl_6, tl_8, tl_10, tl_14, tl_20, tl_24, tl_30, tl_40, tl_50, tl_60, tl_70, tl_80, tl_100, tl_120, tl_140, tl_180, tl_220, tl_240, tl_260, tl_280, tl_300, tl_540, tl_780, tl_1020, tl_1180, tl_1190, tl_1200, tl_1220, tl_m1] at *
    have k1 := wfC_r hp.1 (x := x1) (by omega) (by omega)
    simp only [bt] at k1
    have t0 : ((x1 * 6) + (S.1 13 x1.toNatClampNeg)).toInt = (((x1).toInt * 6) + (S.1 13 x1.toNatClampNeg).toInt) := (ti_add (a := (x1 * 6)) (b := (S.1 13 x1.toNatClampNeg)) (ti_mul (a := (x1)) (b := (6 : Int32)) rfl tl_6 (by omega) (by omega)) rfl (by omega) (by omega))
    have t1 : (x1 * 6).toInt = ((x1).toInt * 6) := (ti_mul (a := (x1)) (b := (6 : Int32)) rfl tl_6 (by omega) (by omega))
    omega
theorem vc_FHL_reverse_pre12_1 (S : hS) (x1 : Int32) (x2 : Int64) (hp : wfC S) : wfC S := hp
