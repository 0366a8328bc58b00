theorem vc_FHL_reverse_pre27_4 (S : hS) (x1 : Int32) (x2 : Int64) (hp : wfC S) (c2 : ¬ ((FJO_isReversible S x1) = 0)) (c3 : ¬ ((FHL_isDay S x2) = 0)) : wfC S := hp
theorem vc_FHL_reverse_pre40_6 (S : hS) (x1 : Int32) (x2 : Int64) (hp : wfC S) (c2 : ¬ ((FJO_isReversible S x1) = 0)) (c3 : ¬ ((FHL_isDay S x2) = 0)) (c5 : (FJO_isFull S) = 0) : wfC S := hp
theorem vc_FHL_reverse_pre50_8 (S : hS) (x1 : Int32) (x2 : Int64) (hp : wfC S) (c2 : ¬ ((FJO_isReversible S x1) = 0)) (c3 : ¬ ((FHL_isDay S x2) = 0)) (c5 : (FJO_isFull S) = 0) (v7 : Int32) (S7 : hS) (hq7 : FJO_add S x2.toInt32 3 = (v7, S7)) : wfC S7 ∧ rg x1 40 := ⟨by have h := (wf_add hp x2.toInt32 3).1; rw [hq7] at h; exact h, rvC hp c2⟩
theorem vc_FHL_reverse_pre56_9 (S : hS) (x1 : Int32) (x2 : Int64) (hp : wfC S) (c2 : ¬ ((FJO_isReversible S x1) = 0)) (c3 : ¬ ((FHL_isDay S x2) = 0)) (c5 : (FJO_isFull S) = 0) (v7 : Int32) (S7 : hS) (hq7 : FJO_add S x2.toInt32 3 = (v7, S7)) : wfC (FJO_turnRows S7 x1 v7) ∧ rg x1 40 := ⟨wf_turnRows (by have h := (wf_add hp x2.toInt32 3).1; rw [hq7] at h; exact h) _ _, rvC hp c2⟩
theorem vc_FHL_reverse_ix66_10 (S : hS) (x1 : Int32) (x2 : Int64) (hp : wfC S) (c2 : ¬ ((FJO_isReversible S x1) = 0)) (c3 : ¬ ((FHL_isDay S x2) = 0)) (c5 : (FJO_isFull S) = 0) (v7 : Int32) (S7 : hS) (hq7 : FJO_add S x2.toInt32 3 = (v7, S7)) : vp_in x1 40 := by
    have wa := hp.1
    have wb := hp.2.1
    have wg := hp.2.2.1
    have wp := hp.2.2.2.1
    have wq := hp.2.2.2.2.1
    have wr := hp.2.2.2.2.2.2.2
    have k0 := rvC hp c2
    have k1 := fuC hp c5
    simp only [rg, bt, lp, vp_rg, Int32.lt_iff_toInt_lt, Int32.le_iff_toInt_le, Int64.lt_iff_toInt_lt, Int64.le_iff_toInt_le, l32, sI_2, tq_0, tq_1, tq_2, tq_6, tq_8, tq_10, tq_20, tq_30, tq_40, tl_0, tl_1, tl_2, tl_3, tl_4, tl_5, tl_6, tl_8, tl_10, tl_14, tl_20, tl_24, tl_30, tl_40, tl_50, tl_60, tl_70, tl_80, tl_100, tl_120, tl_140, tl_180, tl_220, tl_240, tl_260, tl_280, tl_300, tl_540, tl_780, tl_1020, tl_1180, tl_1190, tl_1200, tl_1220, tl_m1] at *
    omega
theorem vc_FJO_centDays_pre25_2 (S : hS) (x1 : Int32) (x2 : Int32) (x3 : Int64) (x5 : Int32) (x6 : Int32) (hJ : wfC S ∧ lp x6 x5) (c1 : ¬ (x5 ≤ x6)) : wfC S ∧ rg x6 240 := ⟨hJ.1, (by
    have k0 := hJ.2
    have wa := hJ.1.1
    have wb := hJ.1.2.1
    have wg := hJ.1.2.2.1
    have wp := hJ.1.2.2.2.1
    have wq := hJ.1.2.2.2.2.1
    have wr := hJ.1.2.2.2.2.2.2.2
    simp only [rg, bt, lp, vp_rg, Int32.lt_iff_toInt_lt, Int32.le_iff_toInt_le, Int64.lt_iff_toInt_lt, Int64.le_iff_toInt_le, l32, sI_2, tq_0, tq_1, tq_2, tq_6, tq_8, tq_10, tq_20, tq_30, tq_40, tl_0, tl_1, tl_2, tl_3, tl_4, tl_5, tl_6, tl_8, tl_10, tl_14, tl_20, tl_24, tl_30, tl_40, tl_50, tl_60, tl_70, tl_80, tl_100, tl_120, tl_140, tl_180, tl_220, tl_240, tl_260, tl_280, tl_300, tl_540, tl_780, tl_1020, tl_1180, tl_1190, tl_1200, tl_1220, tl_m1] at *
    omega)⟩
theorem vc_FJO_centDays_inv14_4 (S : hS) (x1 : Int32) (x2 : Int32) (x3 : Int64) (x5 : Int32) (x6 : Int32) (hJ : wfC S ∧ lp x6 x5) (c1 : ¬ (x5 ≤ x6)) (c3 : (FJO_itemAt S x6 x1) = (-1)) : wfC S ∧ lp (x6 + 1) x5 := ⟨hJ.1, (by
    have k0 := hJ.2
    have wa := hJ.1.1
    have wb := hJ.1.2.1
    have wg := hJ.1.2.2.1
    have wp := hJ.1.2.2.2.1
    have wq := hJ.1.2.2.2.2.1
    have wr := hJ.1.2.2.2.2.2.2.2
    simp only [rg, bt, lp, vp_rg, Int32.lt_iff_toInt_lt, Int32.le_iff_toInt_le, Int64.lt_iff_toInt_lt, Int64.le_iff_toInt_le, l32, sI_2, tq_0, tq_1, tq_2, tq_6, tq_8, tq_10, tq_20, tq_30, tq_40, tl_0, tl_1, tl_2, tl_3, tl_4, tl_5, tl_6, tl_8, tl_10, tl_14, tl_20, tl_24, tl_30, tl_40, tl_50, tl_60, tl_70, tl_80, tl_100, tl_120, tl_140, tl_180, tl_220, tl_240, tl_260, tl_280, tl_300, tl_540, tl_780, tl_1020, tl_1180, tl_1190, tl_1200, tl_1220, tl_m1] at *
    have t0 : (x6 + 1).toInt = ((x6).toInt + 1) := (ti_add (a := (x6)) (b := (1 : Int32)) rfl tl_1 (by omega) (by omega))
    omega)⟩
theorem vc_FJO_centDays_mu14_5 (S : hS) (x1 : Int32) (x2 : Int32) (x3 : Int64) (x5 : Int32) (x6 : Int32) (hJ : wfC S ∧ lp x6 x5) (c1 : ¬ (x5 ≤ x6)) (c3 : (FJO_itemAt S x6 x1) = (-1)) : ((x5.toInt - (x6 + 1).toInt).toNat) < ((x5.toInt - x6.toInt).toNat) := by
    have k0 := hJ.2
    have wa := hJ.1.1
    have wb := hJ.1.2.1
    have wg := hJ.1.2.2.1
    have wp := hJ.1.2.2.2.1
    have wq := hJ.1.2.2.2.2.1
    have wr := hJ.1.2.2.2.2.2.2.2
    simp only [rg, bt, lp, vp_rg, Int32.lt_iff_toInt_lt, Int32.le_iff_toInt_le, Int64.lt_iff_toInt_lt, Int64.le_iff_toInt_le, l32, sI_2, tq_0, tq_1, tq_2, tq_6, tq_8, tq_10, tq_20, tq_30, tq_40, tl_0, tl_1, tl_2, tl_3, tl_4, tl_5, tl_6, tl_8, tl_10, tl_14, tl_20, tl_24, tl_30, tl_40, tl_50, tl_60, tl_70, tl_80, tl_100, tl_120, tl_140, tl_180, tl_220, tl_240, tl_260, tl_280, tl_300, tl_540, tl_780, tl_1020, tl_1180, tl_1190, tl_1200, tl_1220, tl_m1] at *
    have t0 : (x6 + 1).toInt = ((x6).toInt + 1) := (ti_add (a := (x6)) (b := (1 : Int32)) rfl tl_1 (by omega) (by omega))
    omega
theorem vc_FJO_centDays_ix43_6 (S : hS) (x1 : Int32) (x2 : Int32) (x3 : Int64) (x5 : Int32) (x6 : Int32) (hJ : wfC S ∧ lp x6 x5) (c1 : ¬ (x5 ≤ x6)) (c3 : ¬ ((FJO_itemAt S x6 x1) = (-1))) : vp_in (FJO_itemAt S x6 x1) 240 := by
    have k0 := hJ.2
    have wa := hJ.1.1
    have wb := hJ.1.2.1
    have wg := hJ.1.2.2.1
    have wp := hJ.1.2.2.2.1
    have wq := hJ.1.2.2.2.2.1
    have wr := hJ.1.2.2.2.2.2.2.2
    simp only [rg, bt, lp, vp_rg, Int32.lt_iff_toInt_lt, Int32.le_iff_toInt_le, Int64.lt_iff_toInt_lt, Int64.le_iff_toInt_le, l32, sI_2, tq_0, tq_1, tq_2, tq_6, tq_8, tq_10, tq_20, tq_30, tq_40, tl_0, tl_1, tl_2, tl_3, tl_4, tl_5, tl_6, tl_8, tl_10, tl_14, tl_20, tl_24, tl_30, tl_40, tl_50, tl_60, tl_70, tl_80, tl_100, tl_120, tl_140, tl_180, tl_220, tl_240, tl_260, tl_280, tl_300, tl_540, tl_780, tl_1020, tl_1180, tl_1190, tl_1200, tl_1220, tl_m1] at *
    have k1 := itC hJ.1 (by simp only [rg]; omega) c3
    simp only [rg] at k1
    omega
theorem vc_FJO_centDays_pre48_7 (S : hS) (x1 : Int32) (x2 : Int32) (x3 : Int64) (x5 : Int32) (x6 : Int32) (hJ : wfC S ∧ lp x6 x5) (c1 : ¬ (x5 ≤ x6)) (c3 : ¬ ((FJO_itemAt S x6 x1) = (-1))) : wfC S ∧ rg (FJO_itemAt S x6 x1) 240 := ⟨hJ.1, (by
    have k0 := hJ.2
    have wa := hJ.1.1
    have wb := hJ.1.2.1
    have wg := hJ.1.2.2.1
    have wp := hJ.1.2.2.2.1
    have wq := hJ.1.2.2.2.2.1
    have wr := hJ.1.2.2.2.2.2.2.2
    simp only [rg, bt, lp, vp_rg, Int32.lt_iff_toInt_lt, Int32.le_iff_toInt_le, Int64.lt_iff_toInt_lt, Int64.le_iff_toInt_le, l32, sI_2, tq_0, tq_1, tq_2, tq_6, tq_8, tq_10, tq_20, tq_30, tq_40, tl_0, tl_1, tl_2, tl_3, tl_4, tl_5, tl_6, tl_8, tl_10, tl_14, tl_20, tl_24, tl_30, tl_40, tl_50, tl_60, tl_70, tl_80, tl_100, tl_120, tl_140, tl_180, tl_220, tl_240, tl_260, tl_280, tl_300, tl_540, tl_780, tl_1020, tl_1180, tl_1190, tl_1200, tl_1220, tl_m1] at *
    have k1 := itC hJ.1 (by simp only [rg]; omega) c3
    simp only [rg] at k1
    omega)⟩
theorem vc_FJO_centDays_inv14_8 (S : hS) (x1 : Int32) (x2 : Int32) (x3 : Int64) (x5 : Int32) (x6 : Int32) (hJ : wfC S ∧ lp x6 x5) (c1 : ¬ (x5 ≤ x6)) (c3 : ¬ ((FJO_itemAt S x6 x1) = (-1))) : wfC S ∧ lp (x6 + 1) x5 := ⟨hJ.1, (by
    have k0 := hJ.2
    have wa := hJ.1.1
    have wb := hJ.1.2.1
    have wg := hJ.1.2.2.1
    have wp := hJ.1.2.2.2.1
    have wq := hJ.1.2.2.2.2.1
    have wr := hJ.1.2.2.2.2.2.2.2
    simp only [rg, bt, lp, vp_rg, Int32.lt_iff_toInt_lt, Int32.le_iff_toInt_le, Int64.lt_iff_toInt_lt, Int64.le_iff_toInt_le, l32, sI_2, tq_0, tq_1, tq_2, tq_6, tq_8, tq_10, tq_20, tq_30, tq_40, tl_0, tl_1, tl_2, tl_3, tl_4, tl_5, tl_6, tl_8, tl_10, tl_14, tl_20, tl_24, tl_30, tl_40, tl_50, tl_60, tl_70, tl_80, tl_100, tl_120, tl_140, tl_180, tl_220, tl_240, tl_260, tl_280, tl_300, tl_540, tl_780, tl_1020, tl_1180, tl_1190, tl_1200, tl_1220, tl_m1] at *
    have k1 := itC hJ.1 (by simp only [rg]; omega) c3
    simp only [rg] at k1
    have t0 : (x6 + 1).toInt = ((x6).toInt + 1) := (ti_add (a := (x6)) (b := (1 : Int32)) rfl tl_1 (by omega) (by omega))
    omega)⟩
theorem vc_FJO_centDays_mu14_9 (S : hS) (x1 : Int32) (x2 : Int32) (x3 : Int64) (x5 : Int32) (x6 : Int32) (hJ : wfC S ∧ lp x6 x5) (c1 : ¬ (x5 ≤ x6)) (c3 : ¬ ((FJO_itemAt S x6 x1) = (-1))) : ((x5.toInt - (x6 + 1).toInt).toNat) < ((x5.toInt - x6.toInt).toNat) := by
    have k0 := hJ.2
    have wa := hJ.1.1
    have wb := hJ.1.2.1
    have wg := hJ.1.2.2.1
    have wp := hJ.1.2.2.2.1
    have wq := hJ.1.2.2.2.2.1
    have wr := hJ.1.2.2.2.2.2.2.2
    simp only [rg, bt, lp, vp_rg, Int32.lt_iff_toInt_lt, Int32.le_iff_toInt_le, Int64.lt_iff_toInt_lt, Int64.le_iff_toInt_le, l32, sI_2, tq_0, tq_1, tq_2, tq_6, tq_8, tq_10, tq_20, tq_30, tq_40, tl_0, tl_1, tl_2, tl_3, tl_4, tl_5, tl_6, tl_8, tl_10, tl_14, tl_20, tl_24, tl_30, tl_40, tl_50, tl_60, tl_70, tl_80, tl_100, tl_120, tl_140, tl_180, tl_220, tl_240, tl_260, tl_280, tl_300, tl_540, tl_780, tl_1020, tl_1180, tl_1190, tl_1200, tl_1220, tl_m1] at *
    have k1 := itC hJ.1 (by simp only [rg]; omega) c3
    simp only [rg] at k1
    have t0 : (x6 + 1).toInt = ((x6).toInt + 1) := (ti_add (a := (x6)) (b := (1 : Int32)) rfl tl_1 (by omega) (by omega))
    omega
theorem vc_FJO_centDays_inv014_11 (S : hS) (x1 : Int32) (x2 : Int32) (hp : wfC S) : wfC S ∧ lp (0 : Int32) ((S.1 10 0) * 6) := ⟨hp, (by
    have wa := hp.1
    have wb := hp.2.1
    have wg := hp.2.2.1
    have wp := hp.2.2.2.1
    have wq := hp.2.2.2.2.1
    have wr := hp.2.2.2.2.2.2.2
    simp only [rg, bt, lp, vp_rg, Int32.lt_iff_toInt_lt, Int32.le_iff_toInt_le, Int64.lt_iff_toInt_lt, Int64.le_iff_toInt_le, l32, sI_2, tq_0, tq_1, tq_2, tq_6, tq_8, tq_10, tq_20, tq_30, tq_40, tl_0, tl_1, tl_2, tl_3, tl_4, tl_5, tl_6, tl_8, tl_10, tl_14, tl_20, tl_24, tl_30, tl_40, tl_50, tl_60, tl_70, tl_80, tl_100, tl_120, tl_140, tl_180, tl_220, tl_240, tl_260, tl_280, tl_300, tl_540, tl_780, tl_1020, tl_1180, tl_1190, tl_1200, tl_1220, tl_m1] at *
    have t0 : (0 : Int32).toInt = 0 := tl_0
    have t1 : ((S.1 10 0) * 6).toInt = ((S.1 10 0).toInt * 6) := (ti_mul (a := (S.1 10 0)) (b := (6 : Int32)) rfl tl_6 (by omega) (by omega))
    omega)⟩
theorem vc_FJO_centDays_mu014_12 (S : hS) (x1 : Int32) (x2 : Int32) (hp : wfC S) : ((((S.1 10 0) * 6).toInt - (0 : Int32).toInt).toNat) < 300 := by
    have wa := hp.1
    have wb := hp.2.1
    have wg := hp.2.2.1
    have wp := hp.2.2.2.1
    have wq := hp.2.2.2.2.1
    have wr := hp.2.2.2.2.2.2.2
    simp only [rg, bt, lp, vp_rg, Int32.lt_iff_toInt_lt, Int32.le_iff_toInt_le, Int64.lt_iff_toInt_lt, Int64.le_iff_toInt_le, l32, sI_2, tq_0, tq_1, tq_2, tq_6, tq_8, tq_10, tq_20, tq_30, tq_40, tl_0, tl_1, tl_2, tl_3, tl_4, tl_5, tl_6, tl_8, tl_10, tl_14, tl_20, tl_24, tl_30, tl_40, tl_50, tl_60, tl_70, tl_80, tl_100, tl_120, tl_140, tl_180, tl_220, tl_240, tl_260, tl_280, tl_300, tl_540, tl_780, tl_1020, tl_1180, tl_1190, tl_1200, tl_1220, tl_m1] at *
    have t0 : ((S.1 10 0) * 6).toInt = ((S.1 10 0).toInt * 6) := (ti_mul (a := (S.1 10 0)) (b := (6 : Int32)) rfl tl_6 (by omega) (by omega))
    have t1 : (0 : Int32).toInt = 0 := tl_0
    omega
theorem vc_FHL_interest_pre8_1 (S : hS) (x1 : Int32) (x2 : Int64) (x4 : Int32) (hp : wfC S) : wfC S := hp
theorem vc_FHL_interest_pre46_6 (S : hS) (x1 : Int32) (x2 : Int64) (x4 : Int32) (hp : wfC S) (c2 : ¬ ((FAC_hasHousehold S x1) = 0)) (c3 : ¬ ((FHL_isDay S x2) = 0)) (c4 : ¬ (x4 < 0)) (c5 : x4 ≤ 2) : wfC S := hp
theorem vc_FHL_interest_nz97_8 (S : hS) (x1 : Int32) (x2 : Int64) (x4 : Int32) (hp : wfC S) (c2 : ¬ ((FAC_hasHousehold S x1) = 0)) (c3 : ¬ ((FHL_isDay S x2) = 0)) (c4 : ¬ (x4 < 0)) (c5 : x4 ≤ 2) (c7 : x4 = 2) : ¬ (2 * (if (360 * (S.2 1 7)) < 1 then 1 else (360 * (S.2 1 7)))) = 0 := nz_rate3 hp.2.2.2.2.2.2.2
theorem vc_FJO_isPostedRowIn_ix8_1 (S : hS) (x1 : Int32) (x2 : Int32) (x3 : Int32) (hp : wfC S ∧ rg x1 240) : vp_in (x1 / 6) 40 := by
    have k0 := hp.2
    have wa := hp.1.1
    have wb := hp.1.2.1
    have wg := hp.1.2.2.1
    have wp := hp.1.2.2.2.1
    have wq := hp.1.2.2.2.2.1
    have wr := hp.1.2.2.2.2.2.2.2
    simp only [rg, bt, lp, vp_rg, Int32.lt_iff_toInt_lt, Int32.le_iff_toInt_le, Int64.lt_iff_toInt_lt, Int64.le_iff_toInt_le, l32, sI_2, tq_0, tq_1, tq_2, tq_6, tq_8, tq_10, tq_20, tq_30, tq_40, tl_0, tl_1, tl_2, tl_3, tl_4, tl_5, tl_6, tl_8, tl_10, tl_14, tl_20, tl_24, tl_30, tl_40, tl_50, tl_60, tl_70, tl_80, tl_100, tl_120, tl_140, tl_180, tl_220, tl_240, tl_260, tl_280, tl_300, tl_540, tl_780, tl_1020, tl_1180, tl_1190, tl_1200, tl_1220, tl_m1] at *
    have t0 : (x1 / 6).toInt = ((x1).toInt / 6) := (ti_div (a := (x1)) (b := (6 : Int32)) rfl tl_6 (by omega) (by omega))
    omega
theorem vc_FJO_isPostedRowIn_pre19_3 (S : hS) (x1 : Int32) (x2 : Int32) (x3 : Int32) (hp : wfC S ∧ rg x1 240) (c2 : ((S.1 11 ((x1 / 6).toNatClampNeg)) / 30) = x3) : wfC S ∧ rg x1 240 := ⟨hp.1, hp.2⟩
theorem vc_FJO_toldRow_pre27_2 (S : hS) (x1 : Int32) (x2 : Int32) (x3 : Int32) (x4 : Int32) (x5 : Int32) (x6 : Int32) (hJ : wfC S ∧ lp x6 x5) (c1 : ¬ (x5 ≤ x6)) : wfC S ∧ rg x6 240 := ⟨hJ.1, (by
    have k0 := hJ.2
    have wa := hJ.1.1
    have wb := hJ.1.2.1
    have wg := hJ.1.2.2.1
    have wp := hJ.1.2.2.2.1
    have wq := hJ.1.2.2.2.2.1
    have wr := hJ.1.2.2.2.2.2.2.2
    simp only [rg, bt, lp, vp_rg, Int32.lt_iff_toInt_lt, Int32.le_iff_toInt_le, Int64.lt_iff_toInt_lt, Int64.le_iff_toInt_le, l32, sI_2, tq_0, tq_1, tq_2, tq_6, tq_8, tq_10, tq_20, tq_30, tq_40, tl_0, tl_1, tl_2, tl_3, tl_4, tl_5, tl_6, tl_8, tl_10, tl_14, tl_20, tl_24, tl_30, tl_40, tl_50, tl_60, tl_70, tl_80, tl_100, tl_120, tl_140, tl_180, tl_220, tl_240, tl_260, tl_280, tl_300, tl_540, tl_780, tl_1020, tl_1180, tl_1190, tl_1200, tl_1220, tl_m1] at *
    omega)⟩
theorem vc_FJO_toldRow_inv15_4 (S : hS) (x1 : Int32) (x2 : Int32) (x3 : Int32) (x4 : Int32) (x5 : Int32) (x6 : Int32) (hJ : wfC S ∧ lp x6 x5) (c1 : ¬ (x5 ≤ x6)) (c3 : (FJO_isPostedRowIn S x6 x1 x2) = 0) : wfC S ∧ lp (x6 + 1) x5 := ⟨hJ.1, (by
    have k0 := hJ.2
    have wa := hJ.1.1
    have wb := hJ.1.2.1
    have wg := hJ.1.2.2.1
    have wp := hJ.1.2.2.2.1
    have wq := hJ.1.2.2.2.2.1
    have wr := hJ.1.2.2.2.2.2.2.2
    simp only [rg, bt, lp, vp_rg, Int32.lt_iff_toInt_lt, Int32.le_iff_toInt_le, Int64.lt_iff_toInt_lt, Int64.le_iff_toInt_le, l32, sI_2, tq_0, tq_1, tq_2, tq_6, tq_8, tq_10, tq_20, tq_30, tq_40, tl_0, tl_1, tl_2, tl_3, tl_4, tl_5, tl_6, tl_8, tl_10, tl_14, tl_20, tl_24, tl_30, tl_40, tl_50, tl_60, tl_70, tl_80, tl_100, tl_120, tl_140, tl_180, tl_220, tl_240, tl_260, tl_280, tl_300, tl_540, tl_780, tl_1020, tl_1180, tl_1190, tl_1200, tl_1220, tl_m1] at *
    have t0 : (x6 + 1).toInt = ((x6).toInt + 1) := (ti_add (a := (x6)) (b := (1 : Int32)) rfl tl_1 (by omega) (by omega))
    omega)⟩
theorem vc_FJO_toldRow_mu15_5 (S : hS) (x1 : Int32) (x2 : Int32) (x3 : Int32) (x4 : Int32) (x5 : Int32) (x6 : Int32) (hJ : wfC S ∧ lp x6 x5) (c1 : ¬ (x5 ≤ x6)) (c3 : (FJO_isPostedRowIn S x6 x1 x2) = 0) : ((x5.toInt - (x6 + 1).toInt).toNat) < ((x5.toInt - x6.toInt).toNat) := by
    have k0 := hJ.2
    have wa := hJ.1.1
    have wb := hJ.1.2.1
    have wg := hJ.1.2.2.1
    have wp := hJ.1.2.2.2.1
    have wq := hJ.1.2.2.2.2.1
    have wr := hJ.1.2.2.2.2.2.2.2
    simp only [rg, bt, lp, vp_rg, Int32.lt_iff_toInt_lt, Int32.le_iff_toInt_le, Int64.lt_iff_toInt_lt, Int64.le_iff_toInt_le, l32, sI_2, tq_0, tq_1, tq_2, tq_6, tq_8, tq_10, tq_20, tq_30, tq_40, tl_0, tl_1, tl_2, tl_3, tl_4, tl_5, tl_6, tl_8, tl_10, tl_14, tl_20, tl_24, tl_30, tl_40, tl_50, tl_60, tl_70, tl_80, tl_100, tl_120, tl_140, tl_180, tl_220, tl_240, tl_260, tl_280, tl_300, tl_540, tl_780, tl_1020, tl_1180, tl_1190, tl_1200, tl_1220, tl_m1] at *
    have t0 : (x6 + 1).toInt = ((x6).toInt + 1) := (ti_add (a := (x6)) (b := (1 : Int32)) rfl tl_1 (by omega) (by omega))
    omega
theorem vc_FJO_toldRow_inv15_7 (S : hS) (x1 : Int32) (x2 : Int32) (x3 : Int32) (x4 : Int32) (x5 : Int32) (x6 : Int32) (hJ : wfC S ∧ lp x6 x5) (c1 : ¬ (x5 ≤ x6)) (c3 : ¬ ((FJO_isPostedRowIn S x6 x1 x2) = 0)) (c6 : ¬ (x4 = x3)) : wfC S ∧ lp (x6 + 1) x5 := ⟨hJ.1, (by
    have k0 := hJ.2
    have wa := hJ.1.1
    have wb := hJ.1.2.1
    have wg := hJ.1.2.2.1
    have wp := hJ.1.2.2.2.1
    have wq := hJ.1.2.2.2.2.1
    have wr := hJ.1.2.2.2.2.2.2.2
    simp only [rg, bt, lp, vp_rg, Int32.lt_iff_toInt_lt, Int32.le_iff_toInt_le, Int64.lt_iff_toInt_lt, Int64.le_iff_toInt_le, l32, sI_2, tq_0, tq_1, tq_2, tq_6, tq_8, tq_10, tq_20, tq_30, tq_40, tl_0, tl_1, tl_2, tl_3, tl_4, tl_5, tl_6, tl_8, tl_10, tl_14, tl_20, tl_24, tl_30, tl_40, tl_50, tl_60, tl_70, tl_80, tl_100, tl_120, tl_140, tl_180, tl_220, tl_240, tl_260, tl_280, tl_300, tl_540, tl_780, tl_1020, tl_1180, tl_1190, tl_1200, tl_1220, tl_m1] at *
    have t0 : (x6 + 1).toInt = ((x6).toInt + 1) := (ti_add (a := (x6)) (b := (1 : Int32)) rfl tl_1 (by omega) (by omega))
    omega)⟩
theorem vc_FJO_toldRow_mu15_8 (S : hS) (x1 : Int32) (x2 : Int32) (x3 : Int32) (x4 : Int32) (x5 : Int32) (x6 : Int32) (hJ : wfC S ∧ lp x6 x5) (c1 : ¬ (x5 ≤ x6)) (c3 : ¬ ((FJO_isPostedRowIn S x6 x1 x2) = 0)) (c6 : ¬ (x4 = x3)) : ((x5.toInt - (x6 + 1).toInt).toNat) < ((x5.toInt - x6.toInt).toNat) := by
    have k0 := hJ.2
    have wa := hJ.1.1
    have wb := hJ.1.2.1
    have wg := hJ.1.2.2.1
    have wp := hJ.1.2.2.2.1
    have wq := hJ.1.2.2.2.2.1
    have wr := hJ.1.2.2.2.2.2.2.2
    simp only [rg, bt, lp, vp_rg, Int32.lt_iff_toInt_lt, Int32.le_iff_toInt_le, Int64.lt_iff_toInt_lt, Int64.le_iff_toInt_le, l32, sI_2, tq_0, tq_1, tq_2, tq_6, tq_8, tq_10, tq_20, tq_30, tq_40, tl_0, tl_1, tl_2, tl_3, tl_4, tl_5, tl_6, tl_8, tl_10, tl_14, tl_20, tl_24, tl_30, tl_40, tl_50, tl_60, tl_70, tl_80, tl_100, tl_120, tl_140, tl_180, tl_220, tl_240, tl_260, tl_280, tl_300, tl_540, tl_780, tl_1020, tl_1180, tl_1190, tl_1200, tl_1220, tl_m1] at *
    have t0 : (x6 + 1).toInt = ((x6).toInt + 1) := (ti_add (a := (x6)) (b := (1 : Int32)) rfl tl_1 (by omega) (by omega))
    omega
theorem vc_FJO_toldRow_inv015_10 (S : hS) (x1 : Int32) (x2 : Int32) (x3 : Int32) (hp : wfC S) : wfC S ∧ lp (0 : Int32) ((S.1 10 0) * 6) := ⟨hp, (by
    have wa := hp.1
    have wb := hp.2.1
    have wg := hp.2.2.1
    have wp := hp.2.2.2.1
    have wq := hp.2.2.2.2.1
    have wr := hp.2.2.2.2.2.2.2
    simp only [rg, bt, lp, vp_rg, Int32.lt_iff_toInt_lt, Int32.le_iff_toInt_le, Int64.lt_iff_toInt_lt, Int64.le_iff_toInt_le, l32, sI_2, tq_0, tq_1, tq_2, tq_6, tq_8, tq_10, tq_20, tq_30, tq_40, tl_0, tl_1, tl_2, tl_3, tl_4, tl_5, tl_6, tl_8, tl_10, tl_14, tl_20, tl_24, tl_30, tl_40, tl_50, tl_60, tl_70, tl_80, tl_100, tl_120, tl_140, tl_180, tl_220, tl_240, tl_260, tl_280, tl_300, tl_540, tl_780, tl_1020, tl_1180, tl_1190, tl_1200, tl_1220, tl_m1] at *
    have t0 : (0 : Int32).toInt = 0 := tl_0
    have t1 : ((S.1 10 0) * 6).toInt = ((S.1 10 0).toInt * 6) := (ti_mul (a := (S.1 10 0)) (b := (6 : Int32)) rfl tl_6 (by omega) (by omega))
    omega)⟩
theorem vc_FJO_toldRow_mu015_11 (S : hS) (x1 : Int32) (x2 : Int32) (x3 : Int32) (hp : wfC S) : ((((S.1 10 0) * 6).toInt - (0 : Int32).toInt).toNat) < 300 := by
    have wa := hp.1
    have wb := hp.2.1
    have wg := hp.2.2.1
    have wp := hp.2.2.2.1
    have wq := hp.2.2.2.2.1
    have wr := hp.2.2.2.2.2.2.2
    simp only [rg, bt, lp, vp_rg, Int32.lt_iff_toInt_lt, Int32.le_iff_toInt_le, Int64.lt_iff_toInt_lt, Int64.le_iff_toInt_le, l32, sI_2, tq_0, tq_1, tq_2, tq_6, tq_8, tq_10, tq_20, tq_30, tq_40, tl_0, tl_1, tl_2, tl_3, tl_4, tl_5, tl_6, tl_8, tl_10, tl_14, tl_20, tl_24, tl_30, tl_40, tl_50, tl_60, tl_70, tl_80, tl_100, tl_120, tl_140, tl_180, tl_220, tl_240, tl_260, tl_280, tl_300, tl_540, tl_780, tl_1020, tl_1180, tl_1190, tl_1200, tl_1220, tl_m1] at *
    have t0 : ((S.1 10 0) * 6).toInt = ((S.1 10 0).toInt * 6) := (ti_mul (a := (S.1 10 0)) (b := (6 : Int32)) rfl tl_6 (by omega) (by omega))
    have t1 : (0 : Int32).toInt = 0 := tl_0
    omega
theorem vc_FHL_statement_pre8_1 (S : hS) (x1 : Int32) (x2 : Int32) (x3 : Int32) (hp : wfC S) : wfC S := hp
theorem vc_FHL_statement_pre33_4 (S : hS) (x1 : Int32) (x2 : Int32) (x3 : Int32) (hp : wfC S) (c2 : ¬ ((FAC_has S x1) = 0)) (c3 : ¬ ((FHL_isMonth S x2) = 0)) : wfC S := hp
theorem vc_FJO_sumIn_pre26_2 (S : hS) (x1 : Int32) (x2 : Int32) (x3 : Int64) (x5 : Int32) (x6 : Int32) (hJ : wfC S ∧ lp x6 x5) (c1 : ¬ (x5 ≤ x6)) : wfC S ∧ rg x6 240 := ⟨hJ.1, (by
    have k0 := hJ.2
    have wa := hJ.1.1
    have wb := hJ.1.2.1
    have wg := hJ.1.2.2.1
    have wp := hJ.1.2.2.2.1
    have wq := hJ.1.2.2.2.2.1
    have wr := hJ.1.2.2.2.2.2.2.2
    simp only [rg, bt, lp, vp_rg, Int32.lt_iff_toInt_lt, Int32.le_iff_toInt_le, Int64.lt_iff_toInt_lt, Int64.le_iff_toInt_le, l32, sI_2, tq_0, tq_1, tq_2, tq_6, tq_8, tq_10, tq_20, tq_30, tq_40, tl_0, tl_1, tl_2, tl_3, tl_4, tl_5, tl_6, tl_8, tl_10, tl_14, tl_20, tl_24, tl_30, tl_40, tl_50, tl_60, tl_70, tl_80, tl_100, tl_120, tl_140, tl_180, tl_220, tl_240, tl_260, tl_280, tl_300, tl_540, tl_780, tl_1020, tl_1180, tl_1190, tl_1200, tl_1220, tl_m1] at *
    omega)⟩
theorem vc_FJO_sumIn_inv14_4 (S : hS) (x1 : Int32) (x2 : Int32) (x3 : Int64) (x5 : Int32) (x6 : Int32) (hJ : wfC S ∧ lp x6 x5) (c1 : ¬ (x5 ≤ x6)) (c3 : (FJO_isPostedRowIn S x6 x1 x2) = 0) : wfC S ∧ lp (x6 + 1) x5 := ⟨hJ.1, (by
    have k0 := hJ.2
    have wa := hJ.1.1
    have wb := hJ.1.2.1
    have wg := hJ.1.2.2.1
    have wp := hJ.1.2.2.2.1
    have wq := hJ.1.2.2.2.2.1
    have wr := hJ.1.2.2.2.2.2.2.2
    simp only [rg, bt, lp, vp_rg, Int32.lt_iff_toInt_lt, Int32.le_iff_toInt_le, Int64.lt_iff_toInt_lt, Int64.le_iff_toInt_le, l32, sI_2, tq_0, tq_1, tq_2, tq_6, tq_8, tq_10, tq_20, tq_30, tq_40, tl_0, tl_1, tl_2, tl_3, tl_4, tl_5, tl_6, tl_8, tl_10, tl_14, tl_20, tl_24, tl_30, tl_40, tl_50, tl_60, tl_70, tl_80, tl_100, tl_120, tl_140, tl_180, tl_220, tl_240, tl_260, tl_280, tl_300, tl_540, tl_780, tl_1020, tl_1180, tl_1190, tl_1200, tl_1220, tl_m1] at *
    have t0 : (x6 + 1).toInt = ((x6).toInt + 1) := (ti_add (a := (x6)) (b := (1 : Int32)) rfl tl_1 (by omega) (by omega))
    omega)⟩
theorem vc_FJO_sumIn_mu14_5 (S : hS) (x1 : Int32) (x2 : Int32) (x3 : Int64) (x5 : Int32) (x6 : Int32) (hJ : wfC S ∧ lp x6 x5) (c1 : ¬ (x5 ≤ x6)) (c3 : (FJO_isPostedRowIn S x6 x1 x2) = 0) : ((x5.toInt - (x6 + 1).toInt).toNat) < ((x5.toInt - x6.toInt).toNat) := by
    have k0 := hJ.2
    have wa := hJ.1.1
    have wb := hJ.1.2.1
    have wg := hJ.1.2.2.1
    have wp := hJ.1.2.2.2.1
    have wq := hJ.1.2.2.2.2.1
    have wr := hJ.1.2.2.2.2.2.2.2
    simp only [rg, bt, lp, vp_rg, Int32.lt_iff_toInt_lt, Int32.le_iff_toInt_le, Int64.lt_iff_toInt_lt, Int64.le_iff_toInt_le, l32, sI_2, tq_0, tq_1, tq_2, tq_6, tq_8, tq_10, tq_20, tq_30, tq_40, tl_0, tl_1, tl_2, tl_3, tl_4, tl_5, tl_6, tl_8, tl_10, tl_14, tl_20, tl_24, tl_30, tl_40, tl_50, tl_60, tl_70, tl_80, tl_100, tl_120, tl_140, tl_180, tl_220, tl_240, tl_260, tl_280, tl_300, tl_540, tl_780, tl_1020, tl_1180, tl_1190, tl_1200, tl_1220, tl_m1] at *
    have t0 : (x6 + 1).toInt = ((x6).toInt + 1) := (ti_add (a := (x6)) (b := (1 : Int32)) rfl tl_1 (by omega) (by omega))
    omega
theorem vc_FJO_sumIn_ix39_6 (S : hS) (x1 : Int32) (x2 : Int32) (x3 : Int64) (x5 : Int32) (x6 : Int32) (hJ : wfC S ∧ lp x6 x5) (c1 : ¬ (x5 ≤ x6)) (c3 : ¬ ((FJO_isPostedRowIn S x6 x1 x2) = 0)) : vp_in x6 240 := by
    have k0 := hJ.2
    have wa := hJ.1.1
    have wb := hJ.1.2.1
    have wg := hJ.1.2.2.1
    have wp := hJ.1.2.2.2.1
    have wq := hJ.1.2.2.2.2.1
    have wr := hJ.1.2.2.2.2.2.2.2
    simp only [rg, bt, lp, vp_rg, Int32.lt_iff_toInt_lt, Int32.le_iff_toInt_le, Int64.lt_iff_toInt_lt, Int64.le_iff_toInt_le, l32, sI_2, tq_0, tq_1, tq_2, tq_6, tq_8, tq_10, tq_20, tq_30, tq_40, tl_0, tl_1, tl_2, tl_3, tl_4, tl_5, tl_6, tl_8, tl_10, tl_14, tl_20, tl_24, tl_30, tl_40, tl_50, tl_60, tl_70, tl_80, tl_100, tl_120, tl_140, tl_180, tl_220, tl_240, tl_260, tl_280, tl_300, tl_540, tl_780, tl_1020, tl_1180, tl_1190, tl_1200, tl_1220, tl_m1] at *
    omega
theorem vc_FJO_sumIn_inv14_7 (S : hS) (x1 : Int32) (x2 : Int32) (x3 : Int64) (x5 : Int32) (x6 : Int32) (hJ : wfC S ∧ lp x6 x5) (c1 : ¬ (x5 ≤ x6)) (c3 : ¬ ((FJO_isPostedRowIn S x6 x1 x2) = 0)) : wfC S ∧ lp (x6 + 1) x5 := ⟨hJ.1, (by
    have k0 := hJ.2
    have wa := hJ.1.1
    have wb := hJ.1.2.1
    have wg := hJ.1.2.2.1
    have wp := hJ.1.2.2.2.1
    have wq := hJ.1.2.2.2.2.1
    have wr := hJ.1.2.2.2.2.2.2.2
    simp only [rg, bt, lp, vp_rg, Int32.lt_iff_toInt_lt, Int32.le_iff_toInt_le, Int64.lt_iff_toInt_lt, Int64.le_iff_toInt_le, l32, sI_2, tq_0, tq_1, tq_2, tq_6, tq_8, tq_10, tq_20, tq_30, tq_40, tl_0, tl_1, tl_2, tl_3, tl_4, tl_5, tl_6, tl_8, tl_10, tl_14, tl_20, tl_24, tl_30, tl_40, tl_50, tl_60, tl_70, tl_80, tl_100, tl_120, tl_140, tl_180, tl_220, tl_240, tl_260, tl_280, tl_300, tl_540, tl_780, tl_1020, tl_1180, tl_1190, tl_1200, tl_1220, tl_m1] at *
    have t0 : (x6 + 1).toInt = ((x6).toInt + 1) := (ti_add (a := (x6)) (b := (1 : Int32)) rfl tl_1 (by omega) (by omega))
    omega)⟩
theorem vc_FJO_sumIn_mu14_8 (S : hS) (x1 : Int32) (x2 : Int32) (x3 : Int64) (x5 : Int32) (x6 : Int32) (hJ : wfC S ∧ lp x6 x5) (c1 : ¬ (x5 ≤ x6)) (c3 : ¬ ((FJO_isPostedRowIn S x6 x1 x2) = 0)) : ((x5.toInt - (x6 + 1).toInt).toNat) < ((x5.toInt - x6.toInt).toNat) := by
    have k0 := hJ.2
    have wa := hJ.1.1
    have wb := hJ.1.2.1
    have wg := hJ.1.2.2.1
    have wp := hJ.1.2.2.2.1
    have wq := hJ.1.2.2.2.2.1
    have wr := hJ.1.2.2.2.2.2.2.2
    simp only [rg, bt, lp, vp_rg, Int32.lt_iff_toInt_lt, Int32.le_iff_toInt_le, Int64.lt_iff_toInt_lt, Int64.le_iff_toInt_le, l32, sI_2, tq_0, tq_1, tq_2, tq_6, tq_8, tq_10, tq_20, tq_30, tq_40, tl_0, tl_1, tl_2, tl_3, tl_4, tl_5, tl_6, tl_8, tl_10, tl_14, tl_20, tl_24, tl_30, tl_40, tl_50, tl_60, tl_70, tl_80, tl_100, tl_120, tl_140, tl_180, tl_220, tl_240, tl_260, tl_280, tl_300, tl_540, tl_780, tl_1020, tl_1180, tl_1190, tl_1200, tl_1220, tl_m1] at *
    have t0 : (x6 + 1).toInt = ((x6).toInt + 1) := (ti_add (a := (x6)) (b := (1 : Int32)) rfl tl_1 (by omega) (by omega))
    omega
theorem vc_FJO_sumIn_inv014_10 (S : hS) (x1 : Int32) (x2 : Int32) (hp : wfC S) : wfC S ∧ lp (0 : Int32) ((S.1 10 0) * 6) := ⟨hp, (by
    have wa := hp.1
    have wb := hp.2.1
    have wg := hp.2.2.1
    have wp := hp.2.2.2.1
    have wq := hp.2.2.2.2.1
    have wr := hp.2.2.2.2.2.2.2
    simp only [rg, bt, lp, vp_rg, Int32.lt_iff_toInt_lt, Int32.le_iff_toInt_le, Int64.lt_iff_toInt_lt, Int64.le_iff_toInt_le, l32, sI_2, tq_0, tq_1, tq_2, tq_6, tq_8, tq_10, tq_20, tq_30, tq_40, tl_0, tl_1, tl_2, tl_3, tl_4, tl_5, tl_6, tl_8, tl_10, tl_14, tl_20, tl_24, tl_30, tl_40, tl_50, tl_60, tl_70, tl_80, tl_100, tl_120, tl_140, tl_180, tl_220, tl_240, tl_260, tl_280, tl_300, tl_540, tl_780, tl_1020, tl_1180, tl_1190, tl_1200, tl_1220, tl_m1] at *
    have t0 : (0 : Int32).toInt = 0 := tl_0
    have t1 : ((S.1 10 0) * 6).toInt = ((S.1 10 0).toInt * 6) := (ti_mul (a := (S.1 10 0)) (b := (6 : Int32)) rfl tl_6 (by omega) (by omega))
    omega)⟩
theorem vc_FJO_sumIn_mu014_11 (S : hS) (x1 : Int32) (x2 : Int32) (hp : wfC S) : ((((S.1 10 0) * 6).toInt - (0 : Int32).toInt).toNat) < 300 := by
    have wa := hp.1
    have wb := hp.2.1
    have wg := hp.2.2.1
    have wp := hp.2.2.2.1
    have wq := hp.2.2.2.2.1
    have wr := hp.2.2.2.2.2.2.2
    simp only [rg, bt, lp, vp_rg, Int32.lt_iff_toInt_lt, Int32.le_iff_toInt_le, Int64.lt_iff_toInt_lt, Int64.le_iff_toInt_le, l32, sI_2, tq_0, tq_1, tq_2, tq_6, tq_8, tq_10, tq_20, tq_30, tq_40, tl_0, tl_1, tl_2, tl_3, tl_4, tl_5, tl_6, tl_8, tl_10, tl_14, tl_20, tl_24, tl_30, tl_40, tl_50, tl_60, tl_70, tl_80, tl_100, tl_120, tl_140, tl_180, tl_220, tl_240, tl_260, tl_280, tl_300, tl_540, tl_780, tl_1020, tl_1180, tl_1190, tl_1200, tl_1220, tl_m1] at *
    have t0 : ((S.1 10 0) * 6).toInt = ((S.1 10 0).toInt * 6) := (ti_mul (a := (S.1 10 0)) (b := (6 : Int32)) rfl tl_6 (by omega) (by omega))
    have t1 : (0 : Int32).toInt = 0 := tl_0
    omega
theorem vc_FBO_incomeOf_ix26_2 (S : hS) (x1 : Int32) (x2 : Int64) (x4 : Int32) (hJ : wfC S ∧ 0 ≤ x4.toInt) (c1 : ¬ ((S.1 2 0) ≤ x4)) : vp_in x4 8 := by
    have k0 := hJ.2
    have wa := hJ.1.1
    have wb := hJ.1.2.1
    have wg := hJ.1.2.2.1
    have wp := hJ.1.2.2.2.1
    have wq := hJ.1.2.2.2.2.1
    have wr := hJ.1.2.2.2.2.2.2.2
    simp only [rg, bt, lp, vp_rg, Int32.lt_iff_toInt_lt, Int32.le_iff_toInt_le, Int64.lt_iff_toInt_lt, Int64.le_iff_toInt_le, l32, sI_2, tq_0, tq_1, tq_2, tq_6, tq_8, tq_10, tq_20, tq_30, tq_40, tl_0, tl_1, tl_2, tl_3, tl_4, tl_5, tl_6, tl_8, tl_10, tl_14, tl_20, tl_24, tl_30, tl_40, tl_50, tl_60, tl_70, tl_80, tl_100, tl_120, tl_140, tl_180, tl_220, tl_240, tl_260, tl_280, tl_300, tl_540, tl_780, tl_1020, tl_1180, tl_1190, tl_1200, tl_1220, tl_m1] at *
    omega
theorem vc_FBO_incomeOf_inv5_4 (S : hS) (x1 : Int32) (x2 : Int64) (x4 : Int32) (hJ : wfC S ∧ 0 ≤ x4.toInt) (c1 : ¬ ((S.1 2 0) ≤ x4)) (c3 : ¬ ((S.1 3 x4.toNatClampNeg) = 2)) : wfC S ∧ 0 ≤ (x4 + 1).toInt := ⟨hJ.1, (by
    have k0 := hJ.2
    have wa := hJ.1.1
    have wb := hJ.1.2.1
    have wg := hJ.1.2.2.1
    have wp := hJ.1.2.2.2.1
    have wq := hJ.1.2.2.2.2.1
    have wr := hJ.1.2.2.2.2.2.2.2
    simp only [rg, bt, lp, vp_rg, Int32.lt_iff_toInt_lt, Int32.le_iff_toInt_le, Int64.lt_iff_toInt_lt, Int64.le_iff_toInt_le, l32, sI_2, tq_0, tq_1, tq_2, tq_6, tq_8, tq_10, tq_20, tq_30, tq_40, tl_0, tl_1, tl_2, tl_3, tl_4, tl_5, tl_6, tl_8, tl_10, tl_14, tl_20, tl_24, tl_30, tl_40, tl_50, tl_60, tl_70, tl_80, tl_100, tl_120, tl_140, tl_180, tl_220, tl_240, tl_260, tl_280, tl_300, tl_540, tl_780, tl_1020, tl_1180, tl_1190, tl_1200, tl_1220, tl_m1] at *
    have t0 : (x4 + 1).toInt = ((x4).toInt + 1) := (ti_add (a := (x4)) (b := (1 : Int32)) rfl tl_1 (by omega) (by omega))
    omega)⟩
theorem vc_FBO_incomeOf_mu5_5 (S : hS) (x1 : Int32) (x2 : Int64) (x4 : Int32) (hJ : wfC S ∧ 0 ≤ x4.toInt) (c1 : ¬ ((S.1 2 0) ≤ x4)) (c3 : ¬ ((S.1 3 x4.toNatClampNeg) = 2)) : (((S.1 2 0).toInt - (x4 + 1).toInt).toNat) < (((S.1 2 0).toInt - x4.toInt).toNat) := by
    have k0 := hJ.2
    have wa := hJ.1.1
    have wb := hJ.1.2.1
    have wg := hJ.1.2.2.1
    have wp := hJ.1.2.2.2.1
    have wq := hJ.1.2.2.2.2.1
    have wr := hJ.1.2.2.2.2.2.2.2
    simp only [rg, bt, lp, vp_rg, Int32.lt_iff_toInt_lt, Int32.le_iff_toInt_le, Int64.lt_iff_toInt_lt, Int64.le_iff_toInt_le, l32, sI_2, tq_0, tq_1, tq_2, tq_6, tq_8, tq_10, tq_20, tq_30, tq_40, tl_0, tl_1, tl_2, tl_3, tl_4, tl_5, tl_6, tl_8, tl_10, tl_14, tl_20, tl_24, tl_30, tl_40, tl_50, tl_60, tl_70, tl_80, tl_100, tl_120, tl_140, tl_180, tl_220, tl_240, tl_260, tl_280, tl_300, tl_540, tl_780, tl_1020, tl_1180, tl_1190, tl_1200, tl_1220, tl_m1] at *
    have t1 : (x4 + 1).toInt = ((x4).toInt + 1) := (ti_add (a := (x4)) (b := (1 : Int32)) rfl tl_1 (by omega) (by omega))
    omega
theorem vc_FBO_incomeOf_pre39_6 (S : hS) (x1 : Int32) (x2 : Int64) (x4 : Int32) (hJ : wfC S ∧ 0 ≤ x4.toInt) (c1 : ¬ ((S.1 2 0) ≤ x4)) (c3 : (S.1 3 x4.toNatClampNeg) = 2) : wfC S := hJ.1
theorem vc_FBO_incomeOf_inv5_7 (S : hS) (x1 : Int32) (x2 : Int64) (x4 : Int32) (hJ : wfC S ∧ 0 ≤ x4.toInt) (c1 : ¬ ((S.1 2 0) ≤ x4)) (c3 : (S.1 3 x4.toNatClampNeg) = 2) : wfC S ∧ 0 ≤ (x4 + 1).toInt := ⟨hJ.1, (by
    have k0 := hJ.2
    have wa := hJ.1.1
    have wb := hJ.1.2.1
    have wg := hJ.1.2.2.1
    have wp := hJ.1.2.2.2.1
    have wq := hJ.1.2.2.2.2.1
    have wr := hJ.1.2.2.2.2.2.2.2
    simp only [rg, bt, lp, vp_rg, Int32.lt_iff_toInt_lt, Int32.le_iff_toInt_le, Int64.lt_iff_toInt_lt, Int64.le_iff_toInt_le, l32, sI_2, tq_0, tq_1, tq_2, tq_6, tq_8, tq_10, tq_20, tq_30, tq_40, tl_0, tl_1, tl_2, tl_3, tl_4, tl_5, tl_6, tl_8, tl_10, tl_14, tl_20, tl_24, tl_30, tl_40, tl_50, tl_60, tl_70, tl_80, tl_100, tl_120, tl_140, tl_180, tl_220, tl_240, tl_260, tl_280, tl_300, tl_540, tl_780, tl_1020, tl_1180, tl_1190, tl_1200, tl_1220, tl_m1] at *
    have t0 : (x4 + 1).toInt = ((x4).toInt + 1) := (ti_add (a := (x4)) (b := (1 : Int32)) rfl tl_1 (by omega) (by omega))
    omega)⟩
theorem vc_FBO_incomeOf_mu5_8 (S : hS) (x1 : Int32) (x2 : Int64) (x4 : Int32) (hJ : wfC S ∧ 0 ≤ x4.toInt) (c1 : ¬ ((S.1 2 0) ≤ x4)) (c3 : (S.1 3 x4.toNatClampNeg) = 2) : (((S.1 2 0).toInt - (x4 + 1).toInt).toNat) < (((S.1 2 0).toInt - x4.toInt).toNat) := by
    have k0 := hJ.2
    have wa := hJ.1.1
    have wb := hJ.1.2.1
    have wg := hJ.1.2.2.1
    have wp := hJ.1.2.2.2.1
    have wq := hJ.1.2.2.2.2.1
    have wr := hJ.1.2.2.2.2.2.2.2
    simp only [rg, bt, lp, vp_rg, Int32.lt_iff_toInt_lt, Int32.le_iff_toInt_le, Int64.lt_iff_toInt_lt, Int64.le_iff_toInt_le, l32, sI_2, tq_0, tq_1, tq_2, tq_6, tq_8, tq_10, tq_20, tq_30, tq_40, tl_0, tl_1, tl_2, tl_3, tl_4, tl_5, tl_6, tl_8, tl_10, tl_14, tl_20, tl_24, tl_30, tl_40, tl_50, tl_60, tl_70, tl_80, tl_100, tl_120, tl_140, tl_180, tl_220, tl_240, tl_260, tl_280, tl_300, tl_540, tl_780, tl_1020, tl_1180, tl_1190, tl_1200, tl_1220, tl_m1] at *
    have t1 : (x4 + 1).toInt = ((x4).toInt + 1) := (ti_add (a := (x4)) (b := (1 : Int32)) rfl tl_1 (by omega) (by omega))
    omega
theorem vc_FBO_incomeOf_inv05_10 (S : hS) (x1 : Int32) (hp : wfC S) : wfC S ∧ 0 ≤ (0 : Int32).toInt := ⟨hp, (by
    have wa := hp.1
    have wb := hp.2.1
    have wg := hp.2.2.1
    have wp := hp.2.2.2.1
    have wq := hp.2.2.2.2.1
    have wr := hp.2.2.2.2.2.2.2
    simp only [rg, bt, lp, vp_rg, Int32.lt_iff_toInt_lt, Int32.le_iff_toInt_le, Int64.lt_iff_toInt_lt, Int64.le_iff_toInt_le, l32, sI_2, tq_0, tq_1, tq_2, tq_6, tq_8, tq_10, tq_20, tq_30, tq_40, tl_0, tl_1, tl_2, tl_3, tl_4, tl_5, tl_6, tl_8, tl_10, tl_14, tl_20, tl_24, tl_30, tl_40, tl_50, tl_60, tl_70, tl_80, tl_100, tl_120, tl_140, tl_180, tl_220, tl_240, tl_260, tl_280, tl_300, tl_540, tl_780, tl_1020, tl_1180, tl_1190, tl_1200, tl_1220, tl_m1] at *
    have t0 : (0 : Int32).toInt = 0 := tl_0
    omega)⟩
theorem vc_FBO_incomeOf_mu05_11 (S : hS) (x1 : Int32) (hp : wfC S) : (((S.1 2 0).toInt - (0 : Int32).toInt).toNat) < 300 := by
    have wa := hp.1
    have wb := hp.2.1
    have wg := hp.2.2.1
    have wp := hp.2.2.2.1
    have wq := hp.2.2.2.2.1
    have wr := hp.2.2.2.2.2.2.2
    simp only [rg, bt, lp, vp_rg, Int32.lt_iff_toInt_lt, Int32.le_iff_toInt_le, Int64.lt_iff_toInt_lt, Int64.le_iff_toInt_le, l32, sI_2, tq_0, tq_1, tq_2, tq_6, tq_8, tq_10, tq_20, tq_30, tq_40, tl_0, tl_1, tl_2, tl_3, tl_4, tl_5, tl_6, tl_8, tl_10, tl_14, tl_20, tl_24, tl_30, tl_40, tl_50, tl_60, tl_70, tl_80, tl_100, tl_120, tl_140, tl_180, tl_220, tl_240, tl_260, tl_280, tl_300, tl_540, tl_780, tl_1020, tl_1180, tl_1190, tl_1200, tl_1220, tl_m1] at *
    have t1 : (0 : Int32).toInt = 0 := tl_0
    omega
theorem vc_FHL_tax_pre14_2 (S : hS) (x1 : Int32) (hp : wfC S) (c1 : ¬ ((FHL_isMonth S x1) = 0)) : wfC S := hp
theorem vc_FHL_found_ix29_3 (S : hS) (x1 : Int32) (hp : wfC S) (c1 : ¬ (x1 < 0)) (c2 : x1 < (S.1 1 4)) : vp_in x1 20 := by
    have wa := hp.1
    have wb := hp.2.1
    have wg := hp.2.2.1
    have wp := hp.2.2.2.1
    have wq := hp.2.2.2.2.1
    have wr := hp.2.2.2.2.2.2.2
    simp only [rg, bt, lp, vp_rg, Int32.lt_iff_toInt_lt, Int32.le_iff_toInt_le, Int64.lt_iff_toInt_lt, Int64.le_iff_toInt_le, l32, sI_2, tq_0, tq_1, tq_2, tq_6, tq_8, tq_10, tq_20, tq_30, tq_40, tl_0, tl_1, tl_2, tl_3, tl_4, tl_5, tl_6, tl_8, tl_10, tl_14, tl_20, tl_24, tl_30, tl_40, tl_50, tl_60, tl_70, tl_80, tl_100, tl_120, tl_140, tl_180, tl_220, tl_240, tl_260, tl_280, tl_300, tl_540, tl_780, tl_1020, tl_1180, tl_1190, tl_1200, tl_1220, tl_m1] at *
    omega
theorem vc_FMO_isAccount_ix11_2 (S : hS) (x1 : Int32) (hp : wfM S) (c1 : ¬ (x1 < 0)) : vp_in 0 1220 := by
    have m0 := hp.1
    have m1 := hp.2.1
    have m3 := hp.2.2.1
    have m4 := hp.2.2.2.1
    have m6 := hp.2.2.2.2.2.2.1
    simp only [rg, bt, lp, vp_rg, Int32.lt_iff_toInt_lt, Int32.le_iff_toInt_le, Int64.lt_iff_toInt_lt, Int64.le_iff_toInt_le, l32, sI_2, tq_0, tq_1, tq_2, tq_6, tq_8, tq_10, tq_20, tq_30, tq_40, tl_0, tl_1, tl_2, tl_3, tl_4, tl_5, tl_6, tl_8, tl_10, tl_14, tl_20, tl_24, tl_30, tl_40, tl_50, tl_60, tl_70, tl_80, tl_100, tl_120, tl_140, tl_180, tl_220, tl_240, tl_260, tl_280, tl_300, tl_540, tl_780, tl_1020, tl_1180, tl_1190, tl_1200, tl_1220, tl_m1] at *
    have t0 : (0 : Int32).toInt = 0 := tl_0
    omega
theorem vc_FMO_isHousehold_pre2_1 (S : hS) (x1 : Int32) (hp : wfM S) : wfM S := hp
theorem vc_FMO_isHousehold_ix16_3 (S : hS) (x1 : Int32) (hp : wfM S) (c2 : ¬ ((FMO_isAccount S x1) = 0)) : vp_in (10 + x1) 1220 := by
    have m0 := hp.1
    have m1 := hp.2.1
    have m3 := hp.2.2.1
    have m4 := hp.2.2.2.1
    have m6 := hp.2.2.2.2.2.2.1
    have k0 := acM hp c2
    simp only [rg, bt, lp, vp_rg, Int32.lt_iff_toInt_lt, Int32.le_iff_toInt_le, Int64.lt_iff_toInt_lt, Int64.le_iff_toInt_le, l32, sI_2, tq_0, tq_1, tq_2, tq_6, tq_8, tq_10, tq_20, tq_30, tq_40, tl_0, tl_1, tl_2, tl_3, tl_4, tl_5, tl_6, tl_8, tl_10, tl_14, tl_20, tl_24, tl_30, tl_40, tl_50, tl_60, tl_70, tl_80, tl_100, tl_120, tl_140, tl_180, tl_220, tl_240, tl_260, tl_280, tl_300, tl_540, tl_780, tl_1020, tl_1180, tl_1190, tl_1200, tl_1220, tl_m1] at *
    have t0 : (10 + x1).toInt = (10 + (x1).toInt) := (ti_add (a := (10 : Int32)) (b := (x1)) tl_10 rfl (by omega) (by omega))
    omega
theorem vc_FMO_isEntry_ix11_2 (S : hS) (x1 : Int32) (hp : wfM S) (c1 : ¬ (x1 < 0)) : vp_in 1 1220 := by
    have m0 := hp.1
    have m1 := hp.2.1
    have m3 := hp.2.2.1
    have m4 := hp.2.2.2.1
    have m6 := hp.2.2.2.2.2.2.1
    simp only [rg, bt, lp, vp_rg, Int32.lt_iff_toInt_lt, Int32.le_iff_toInt_le, Int64.lt_iff_toInt_lt, Int64.le_iff_toInt_le, l32, sI_2, tq_0, tq_1, tq_2, tq_6, tq_8, tq_10, tq_20, tq_30, tq_40, tl_0, tl_1, tl_2, tl_3, tl_4, tl_5, tl_6, tl_8, tl_10, tl_14, tl_20, tl_24, tl_30, tl_40, tl_50, tl_60, tl_70, tl_80, tl_100, tl_120, tl_140, tl_180, tl_220, tl_240, tl_260, tl_280, tl_300, tl_540, tl_780, tl_1020, tl_1180, tl_1190, tl_1200, tl_1220, tl_m1] at *
    have t0 : (1 : Int32).toInt = 1 := tl_1
    omega
theorem vc_FMO_isDay_bz8_1 (S : hS) (x0 : Int64) : (FMO_isIn S x0 0 3599) &&& 1 = (FMO_isIn S x0 0 3599) := bz01 (isIn01 _ _ _ _)
theorem vc_FMO_isLate_ix10_1 (S : hS) (x1 : Int64) (hp : wfM S) : vp_in 2 1220 := by
    have m0 := hp.1
    have m1 := hp.2.1
    have m3 := hp.2.2.1
    have m4 := hp.2.2.2.1
    have m6 := hp.2.2.2.2.2.2.1
    simp only [rg, bt, lp, vp_rg, Int32.lt_iff_toInt_lt, Int32.le_iff_toInt_le, Int64.lt_iff_toInt_lt, Int64.le_iff_toInt_le, l32, sI_2, tq_0, tq_1, tq_2, tq_6, tq_8, tq_10, tq_20, tq_30, tq_40, tl_0, tl_1, tl_2, tl_3, tl_4, tl_5, tl_6, tl_8, tl_10, tl_14, tl_20, tl_24, tl_30, tl_40, tl_50, tl_60, tl_70, tl_80, tl_100, tl_120, tl_140, tl_180, tl_220, tl_240, tl_260, tl_280, tl_300, tl_540, tl_780, tl_1020, tl_1180, tl_1190, tl_1200, tl_1220, tl_m1] at *
    have t0 : (2 : Int32).toInt = 2 := tl_2
    omega
theorem vc_FMO_account_ix10_1 (S : hS) (x1 : Int32) (hp : wfM S) : vp_in 0 1220 := by
    have m0 := hp.1
    have m1 := hp.2.1
    have m3 := hp.2.2.1
    have m4 := hp.2.2.2.1
    have m6 := hp.2.2.2.2.2.2.1
    simp only [rg, bt, lp, vp_rg, Int32.lt_iff_toInt_lt, Int32.le_iff_toInt_le, Int64.lt_iff_toInt_lt, Int64.le_iff_toInt_le, l32, sI_2, tq_0, tq_1, tq_2, tq_6, tq_8, tq_10, tq_20, tq_30, tq_40, tl_0, tl_1, tl_2, tl_3, tl_4, tl_5, tl_6, tl_8, tl_10, tl_14, tl_20, tl_24, tl_30, tl_40, tl_50, tl_60, tl_70, tl_80, tl_100, tl_120, tl_140, tl_180, tl_220, tl_240, tl_260, tl_280, tl_300, tl_540, tl_780, tl_1020, tl_1180, tl_1190, tl_1200, tl_1220, tl_m1] at *
    have t0 : (0 : Int32).toInt = 0 := tl_0
    omega
theorem vc_FMO_account_ix40_5 (S : hS) (x1 : Int32) (hp : wfM S) (c2 : ¬ ((S.2 50 0) = 8)) (c3 : ¬ (x1 < 0)) (c4 : x1 ≤ 2) : vp_in 0 1220 := by
    have m0 := hp.1
    have m1 := hp.2.1
    have m3 := hp.2.2.1
    have m4 := hp.2.2.2.1
    have m6 := hp.2.2.2.2.2.2.1
    have k0 := ne64 c2
    simp only [rg, bt, lp, vp_rg, Int32.lt_iff_toInt_lt, Int32.le_iff_toInt_le, Int64.lt_iff_toInt_lt, Int64.le_iff_toInt_le, l32, sI_2, tq_0, tq_1, tq_2, tq_6, tq_8, tq_10, tq_20, tq_30, tq_40, tl_0, tl_1, tl_2, tl_3, tl_4, tl_5, tl_6, tl_8, tl_10, tl_14, tl_20, tl_24, tl_30, tl_40, tl_50, tl_60, tl_70, tl_80, tl_100, tl_120, tl_140, tl_180, tl_220, tl_240, tl_260, tl_280, tl_300, tl_540, tl_780, tl_1020, tl_1180, tl_1190, tl_1200, tl_1220, tl_m1] at *
    have t0 : (0 : Int32).toInt = 0 := tl_0
    omega
theorem vc_FMO_account_ix45_6 (S : hS) (x1 : Int32) (hp : wfM S) (c2 : ¬ ((S.2 50 0) = 8)) (c3 : ¬ (x1 < 0)) (c4 : x1 ≤ 2) : vp_in (10 + ((S.2 50 0).toInt32)) 1220 := by
    have m0 := hp.1
    have m1 := hp.2.1
    have m3 := hp.2.2.1
    have m4 := hp.2.2.2.1
    have m6 := hp.2.2.2.2.2.2.1
    have k0 := ne64 c2
    simp only [rg, bt, lp, vp_rg, Int32.lt_iff_toInt_lt, Int32.le_iff_toInt_le, Int64.lt_iff_toInt_lt, Int64.le_iff_toInt_le, l32, sI_2, tq_0, tq_1, tq_2, tq_6, tq_8, tq_10, tq_20, tq_30, tq_40, tl_0, tl_1, tl_2, tl_3, tl_4, tl_5, tl_6, tl_8, tl_10, tl_14, tl_20, tl_24, tl_30, tl_40, tl_50, tl_60, tl_70, tl_80, tl_100, tl_120, tl_140, tl_180, tl_220, tl_240, tl_260, tl_280, tl_300, tl_540, tl_780, tl_1020, tl_1180, tl_1190, tl_1200, tl_1220, tl_m1] at *
    have t0 : (10 + ((S.2 50 0).toInt32)).toInt = (10 + (S.2 50 0).toInt) := (ti_add (a := (10 : Int32)) (b := ((S.2 50 0).toInt32)) tl_10 (ti_32 (a := (S.2 50 0)) rfl (by omega) (by omega)) (by omega) (by omega))
    omega
theorem vc_FMO_account_ix52_7 (S : hS) (x1 : Int32) (hp : wfM S) (c2 : ¬ ((S.2 50 0) = 8)) (c3 : ¬ (x1 < 0)) (c4 : x1 ≤ 2) : vp_in 0 1220 := by
    have m0 := hp.1
    have m1 := hp.2.1
    have m3 := hp.2.2.1
    have m4 := hp.2.2.2.1
    have m6 := hp.2.2.2.2.2.2.1
    have k0 := ne64 c2
    simp only [rg, bt, lp, vp_rg, Int32.lt_iff_toInt_lt, Int32.le_iff_toInt_le, Int64.lt_iff_toInt_lt, Int64.le_iff_toInt_le, l32, sI_2, tq_0, tq_1, tq_2, tq_6, tq_8, tq_10, tq_20, tq_30, tq_40, tl_0, tl_1, tl_2, tl_3, tl_4, tl_5, tl_6, tl_8, tl_10, tl_14, tl_20, tl_24, tl_30, tl_40, tl_50, tl_60, tl_70, tl_80, tl_100, tl_120, tl_140, tl_180, tl_220, tl_240, tl_260, tl_280, tl_300, tl_540, tl_780, tl_1020, tl_1180, tl_1190, tl_1200, tl_1220, tl_m1] at *
    have t0 : (0 : Int32).toInt = 0 := tl_0
    omega
theorem vc_FMO_account_ix55_8 (S : hS) (x1 : Int32) (hp : wfM S) (c2 : ¬ ((S.2 50 0) = 8)) (c3 : ¬ (x1 < 0)) (c4 : x1 ≤ 2) : vp_in 0 1220 := by
    have m0 := hp.1
    have m1 := hp.2.1
    have m3 := hp.2.2.1
    have m4 := hp.2.2.2.1
    have m6 := hp.2.2.2.2.2.2.1
    have k0 := ne64 c2
    simp only [rg, bt, lp, vp_rg, Int32.lt_iff_toInt_lt, Int32.le_iff_toInt_le, Int64.lt_iff_toInt_lt, Int64.le_iff_toInt_le, l32, sI_2, tq_0, tq_1, tq_2, tq_6, tq_8, tq_10, tq_20, tq_30, tq_40, tl_0, tl_1, tl_2, tl_3, tl_4, tl_5, tl_6, tl_8, tl_10, tl_14, tl_20, tl_24, tl_30, tl_40, tl_50, tl_60, tl_70, tl_80, tl_100, tl_120, tl_140, tl_180, tl_220, tl_240, tl_260, tl_280, tl_300, tl_540, tl_780, tl_1020, tl_1180, tl_1190, tl_1200, tl_1220, tl_m1] at *
    have t0 : (0 : Int32).toInt = 0 := tl_0
    omega
theorem vc_FMO_account_ix61_9 (S : hS) (x1 : Int32) (hp : wfM S) (c2 : ¬ ((S.2 50 0) = 8)) (c3 : ¬ (x1 < 0)) (c4 : x1 ≤ 2) : vp_in 0 1220 := by
    have m0 := hp.1
    have m1 := hp.2.1
    have m3 := hp.2.2.1
    have m4 := hp.2.2.2.1
    have m6 := hp.2.2.2.2.2.2.1
    have k0 := ne64 c2
    simp only [rg, bt, lp, vp_rg, Int32.lt_iff_toInt_lt, Int32.le_iff_toInt_le, Int64.lt_iff_toInt_lt, Int64.le_iff_toInt_le, l32, sI_2, tq_0, tq_1, tq_2, tq_6, tq_8, tq_10, tq_20, tq_30, tq_40, tl_0, tl_1, tl_2, tl_3, tl_4, tl_5, tl_6, tl_8, tl_10, tl_14, tl_20, tl_24, tl_30, tl_40, tl_50, tl_60, tl_70, tl_80, tl_100, tl_120, tl_140, tl_180, tl_220, tl_240, tl_260, tl_280, tl_300, tl_540, tl_780, tl_1020, tl_1180, tl_1190, tl_1200, tl_1220, tl_m1] at *
    have t0 : (0 : Int32).toInt = 0 := tl_0
    omega
theorem vc_FMO_addEntry_ix5_1 (S : hS) (x1 : Int64) (x3 : Int32) (hp : wfM S ∧ (S.2 50 1).toInt < 40) : vp_in 1 1220 := by
    have k0 := hp.2
    have m0 := hp.1.1
    have m1 := hp.1.2.1
    have m3 := hp.1.2.2.1
    have m4 := hp.1.2.2.2.1
    have m6 := hp.1.2.2.2.2.2.2.1
    simp only [rg, bt, lp, vp_rg, Int32.lt_iff_toInt_lt, Int32.le_iff_toInt_le, Int64.lt_iff_toInt_lt, Int64.le_iff_toInt_le, l32, sI_2, tq_0, tq_1, tq_2, tq_6, tq_8, tq_10, tq_20, tq_30, tq_40, tl_0, tl_1, tl_2, tl_3, tl_4, tl_5, tl_6, tl_8, tl_10, tl_14, tl_20, tl_24, tl_30, tl_40, tl_50, tl_60, tl_70, tl_80, tl_100, tl_120, tl_140, tl_180, tl_220, tl_240, tl_260, tl_280, tl_300, tl_540, tl_780, tl_1020, tl_1180, tl_1190, tl_1200, tl_1220, tl_m1] at *
    have t0 : (1 : Int32).toInt = 1 := tl_1
    omega
theorem vc_FMO_addEntry_ix19_2 (S : hS) (x1 : Int64) (x3 : Int32) (hp : wfM S ∧ (S.2 50 1).toInt < 40) : vp_in (100 + ((S.2 50 1).toInt32)) 1220 := by
    have k0 := hp.2
    have m0 := hp.1.1
    have m1 := hp.1.2.1
    have m3 := hp.1.2.2.1
    have m4 := hp.1.2.2.2.1
    have m6 := hp.1.2.2.2.2.2.2.1
    simp only [rg, bt, lp, vp_rg, Int32.lt_iff_toInt_lt, Int32.le_iff_toInt_le, Int64.lt_iff_toInt_lt, Int64.le_iff_toInt_le, l32, sI_2, tq_0, tq_1, tq_2, tq_6, tq_8, tq_10, tq_20, tq_30, tq_40, tl_0, tl_1, tl_2, tl_3, tl_4, tl_5, tl_6, tl_8, tl_10, tl_14, tl_20, tl_24, tl_30, tl_40, tl_50, tl_60, tl_70, tl_80, tl_100, tl_120, tl_140, tl_180, tl_220, tl_240, tl_260, tl_280, tl_300, tl_540, tl_780, tl_1020, tl_1180, tl_1190, tl_1200, tl_1220, tl_m1] at *
    have t0 : (100 + ((S.2 50 1).toInt32)).toInt = (100 + (S.2 50 1).toInt) := (ti_add (a := (100 : Int32)) (b := ((S.2 50 1).toInt32)) tl_100 (ti_32 (a := (S.2 50 1)) rfl (by omega) (by omega)) (by omega) (by omega))
    omega
theorem vc_FMO_addEntry_ix32_3 (S : hS) (x1 : Int64) (x3 : Int32) (hp : wfM S ∧ (S.2 50 1).toInt < 40) : vp_in (180 + ((S.2 50 1).toInt32)) 1220 := by
    have k0 := hp.2
    have m0 := hp.1.1
    have m1 := hp.1.2.1
    have m3 := hp.1.2.2.1
    have m4 := hp.1.2.2.2.1
    have m6 := hp.1.2.2.2.2.2.2.1
    simp only [rg, bt, lp, vp_rg, Int32.lt_iff_toInt_lt, Int32.le_iff_toInt_le, Int64.lt_iff_toInt_lt, Int64.le_iff_toInt_le, l32, sI_2, tq_0, tq_1, tq_2, tq_6, tq_8, tq_10, tq_20, tq_30, tq_40, tl_0, tl_1, tl_2, tl_3, tl_4, tl_5, tl_6, tl_8, tl_10, tl_14, tl_20, tl_24, tl_30, tl_40, tl_50, tl_60, tl_70, tl_80, tl_100, tl_120, tl_140, tl_180, tl_220, tl_240, tl_260, tl_280, tl_300, tl_540, tl_780, tl_1020, tl_1180, tl_1190, tl_1200, tl_1220, tl_m1] at *
    have t0 : (180 + ((S.2 50 1).toInt32)).toInt = (180 + (S.2 50 1).toInt) := (ti_add (a := (180 : Int32)) (b := ((S.2 50 1).toInt32)) tl_180 (ti_32 (a := (S.2 50 1)) rfl (by omega) (by omega)) (by omega) (by omega))
    omega
theorem vc_FMO_addEntry_ix39_4 (S : hS) (x1 : Int64) (x3 : Int32) (hp : wfM S ∧ (S.2 50 1).toInt < 40) : vp_in 1 1220 := by
    have k0 := hp.2
    have m0 := hp.1.1
    have m1 := hp.1.2.1
    have m3 := hp.1.2.2.1
    have m4 := hp.1.2.2.2.1
    have m6 := hp.1.2.2.2.2.2.2.1
    simp only [rg, bt, lp, vp_rg, Int32.lt_iff_toInt_lt, Int32.le_iff_toInt_le, Int64.lt_iff_toInt_lt, Int64.le_iff_toInt_le, l32, sI_2, tq_0, tq_1, tq_2, tq_6, tq_8, tq_10, tq_20, tq_30, tq_40, tl_0, tl_1, tl_2, tl_3, tl_4, tl_5, tl_6, tl_8, tl_10, tl_14, tl_20, tl_24, tl_30, tl_40, tl_50, tl_60, tl_70, tl_80, tl_100, tl_120, tl_140, tl_180, tl_220, tl_240, tl_260, tl_280, tl_300, tl_540, tl_780, tl_1020, tl_1180, tl_1190, tl_1200, tl_1220, tl_m1] at *
    have t0 : (1 : Int32).toInt = 1 := tl_1
    omega
theorem vc_FMO_addEntry_ix42_5 (S : hS) (x1 : Int64) (x3 : Int32) (hp : wfM S ∧ (S.2 50 1).toInt < 40) : vp_in 1 1220 := by
    have k0 := hp.2
    have m0 := hp.1.1
    have m1 := hp.1.2.1
    have m3 := hp.1.2.2.1
    have m4 := hp.1.2.2.2.1
    have m6 := hp.1.2.2.2.2.2.2.1
    simp only [rg, bt, lp, vp_rg, Int32.lt_iff_toInt_lt, Int32.le_iff_toInt_le, Int64.lt_iff_toInt_lt, Int64.le_iff_toInt_le, l32, sI_2, tq_0, tq_1, tq_2, tq_6, tq_8, tq_10, tq_20, tq_30, tq_40, tl_0, tl_1, tl_2, tl_3, tl_4, tl_5, tl_6, tl_8, tl_10, tl_14, tl_20, tl_24, tl_30, tl_40, tl_50, tl_60, tl_70, tl_80, tl_100, tl_120, tl_140, tl_180, tl_220, tl_240, tl_260, tl_280, tl_300, tl_540, tl_780, tl_1020, tl_1180, tl_1190, tl_1200, tl_1220, tl_m1] at *
    have t0 : (1 : Int32).toInt = 1 := tl_1
    omega
theorem vc_FMO_entry_ix10_1 (S : hS) (x1 : Int64) (hp : wfM S) : vp_in 1 1220 := by
    have m0 := hp.1
    have m1 := hp.2.1
    have m3 := hp.2.2.1
    have m4 := hp.2.2.2.1
    have m6 := hp.2.2.2.2.2.2.1
    simp only [rg, bt, lp, vp_rg, Int32.lt_iff_toInt_lt, Int32.le_iff_toInt_le, Int64.lt_iff_toInt_lt, Int64.le_iff_toInt_le, l32, sI_2, tq_0, tq_1, tq_2, tq_6, tq_8, tq_10, tq_20, tq_30, tq_40, tl_0, tl_1, tl_2, tl_3, tl_4, tl_5, tl_6, tl_8, tl_10, tl_14, tl_20, tl_24, tl_30, tl_40, tl_50, tl_60, tl_70, tl_80, tl_100, tl_120, tl_140, tl_180, tl_220, tl_240, tl_260, tl_280, tl_300, tl_540, tl_780, tl_1020, tl_1180, tl_1190, tl_1200, tl_1220, tl_m1] at *
    have t0 : (1 : Int32).toInt = 1 := tl_1
    omega
theorem vc_FMO_entry_pre27_4 (S : hS) (x1 : Int64) (hp : wfM S) (c2 : ¬ ((S.2 50 1) = 40)) (c3 : ¬ ((FMO_isDay (sI S 49 4 0) x1) = 0)) : wfM (sI S 49 4 0) := (wfM_I hp)
theorem vc_FMO_entry_pre40_6 (S : hS) (x1 : Int64) (hp : wfM S) (c2 : ¬ ((S.2 50 1) = 40)) (c3 : ¬ ((FMO_isDay (sI S 49 4 0) x1) = 0)) (c5 : (FMO_isLate (sI S 49 4 0) x1) = 0) : wfM (sI S 49 4 0) ∧ ((sI S 49 4 0).2 50 1).toInt < 40 := ⟨(wfM_I hp), (by
    have m0 := hp.1
    have m1 := hp.2.1
    have m3 := hp.2.2.1
    have m4 := hp.2.2.2.1
    have m6 := hp.2.2.2.2.2.2.1
    have k0 := ne64 c2
    simp only [rg, bt, lp, vp_rg, Int32.lt_iff_toInt_lt, Int32.le_iff_toInt_le, Int64.lt_iff_toInt_lt, Int64.le_iff_toInt_le, l32, sI_2, tq_0, tq_1, tq_2, tq_6, tq_8, tq_10, tq_20, tq_30, tq_40, tl_0, tl_1, tl_2, tl_3, tl_4, tl_5, tl_6, tl_8, tl_10, tl_14, tl_20, tl_24, tl_30, tl_40, tl_50, tl_60, tl_70, tl_80, tl_100, tl_120, tl_140, tl_180, tl_220, tl_240, tl_260, tl_280, tl_300, tl_540, tl_780, tl_1020, tl_1180, tl_1190, tl_1200, tl_1220, tl_m1] at *
    omega)⟩
theorem vc_FMO_addRow_ix13_1 (S : hS) (x1 : Int32) (x2 : Int32) (x3 : Int64) (hp : wfM S ∧ rg x1 40 ∧ (S.2 50 (260 + x1).toNatClampNeg).toInt < 6) : vp_in (260 + x1) 1220 := by
    have k0 := hp.2.1
    have k1 := hp.2.2
    have m0 := hp.1.1
    have m1 := hp.1.2.1
    have m3 := hp.1.2.2.1
    have m4 := hp.1.2.2.2.1
    have m6 := hp.1.2.2.2.2.2.2.1
    simp only [rg, bt, lp, vp_rg, Int32.lt_iff_toInt_lt, Int32.le_iff_toInt_le, Int64.lt_iff_toInt_lt, Int64.le_iff_toInt_le, l32, sI_2, tq_0, tq_1, tq_2, tq_6, tq_8, tq_10, tq_20, tq_30, tq_40, tl_0, tl_1, tl_2, tl_3, tl_4, tl_5, tl_6, tl_8, tl_10, tl_14, tl_20, tl_24, tl_30, tl_40, tl_50, tl_60, tl_70, tl_80, tl_100, tl_120, tl_140, tl_180, tl_220, tl_240, tl_260, tl_280, tl_300, tl_540, tl_780, tl_1020, tl_1180, tl_1190, tl_1200, tl_1220, tl_m1] at *
    have t0 : (260 + x1).toInt = (260 + (x1).toInt) := (ti_add (a := (260 : Int32)) (b := (x1)) tl_260 rfl (by omega) (by omega))
    omega
theorem vc_FMO_addRow_ix30_2 (S : hS) (x1 : Int32) (x2 : Int32) (x3 : Int64) (hp : wfM S ∧ rg x1 40 ∧ (S.2 50 (260 + x1).toNatClampNeg).toInt < 6) : vp_in (300 + ((6 * x1) + ((S.2 50 ((260 + x1).toNatClampNeg)).toInt32))) 1220 := by
    have k0 := hp.2.1
    have k1 := hp.2.2
    have m0 := hp.1.1
    have m1 := hp.1.2.1
    have m3 := hp.1.2.2.1
    have m4 := hp.1.2.2.2.1
    have m6 := hp.1.2.2.2.2.2.2.1
    simp only [rg, bt, lp, vp_rg, Int32.lt_iff_toInt_lt, Int32.le_iff_toInt_le, Int64.lt_iff_toInt_lt, Int64.le_iff_toInt_le, l32, sI_2, tq_0, tq_1, tq_2, tq_6, tq_8, tq_10, tq_20, tq_30, tq_40, tl_0, tl_1, tl_2, tl_3, tl_4, tl_5, tl_6, tl_8, tl_10, tl_14, tl_20, tl_24, tl_30, tl_40, tl_50, tl_60, tl_70, tl_80, tl_100, tl_120, tl_140, tl_180, tl_220, tl_240, tl_260, tl_280, tl_300, tl_540, tl_780, tl_1020, tl_1180, tl_1190, tl_1200, tl_1220, tl_m1] at *
    have k2 := wfM_r hp.1 (x := x1) (by simp only [rg]; omega)
    have t0 : (300 + ((6 * x1) + ((S.2 50 ((260 + x1).toNatClampNeg)).toInt32))).toInt = (300 + ((6 * (x1).toInt) + (S.2 50 ((260 + x1).toNatClampNeg)).toInt)) := (ti_add (a := (300 : Int32)) (b := ((6 * x1) + ((S.2 50 ((260 + x1).toNatClampNeg)).toInt32))) tl_300 (ti_add (a := (6 * x1)) (b := ((S.2 50 ((260 + x1).toNatClampNeg)).toInt32)) (ti_mul (a := (6 : Int32)) (b := (x1)) tl_6 rfl (by omega) (by omega)) (ti_32 (a := (S.2 50 ((260 + x1).toNatClampNeg))) rfl (by omega) (by omega)) (by omega) (by omega)) (by omega) (by omega))
    omega
theorem vc_FMO_addRow_ix42_3 (S : hS) (x1 : Int32) (x2 : Int32) (x3 : Int64) (hp : wfM S ∧ rg x1 40 ∧ (S.2 50 (260 + x1).toNatClampNeg).toInt < 6) : vp_in (540 + ((6 * x1) + ((S.2 50 ((260 + x1).toNatClampNeg)).toInt32))) 1220 := by
    have k0 := hp.2.1
    have k1 := hp.2.2
    have m0 := hp.1.1
    have m1 := hp.1.2.1
    have m3 := hp.1.2.2.1
    have m4 := hp.1.2.2.2.1
    have m6 := hp.1.2.2.2.2.2.2.1
    simp only [rg, bt, lp, vp_rg, Int32.lt_iff_toInt_lt, Int32.le_iff_toInt_le, Int64.lt_iff_toInt_lt, Int64.le_iff_toInt_le, l32, sI_2, tq_0, tq_1, tq_2, tq_6, tq_8, tq_10, tq_20, tq_30, tq_40, tl_0, tl_1, tl_2, tl_3, tl_4, tl_5, tl_6, tl_8, tl_10, tl_14, tl_20, tl_24, tl_30, tl_40, tl_50, tl_60, tl_70, tl_80, tl_100, tl_120, tl_140, tl_180, tl_220, tl_240, tl_260, tl_280, tl_300, tl_540, tl_780, tl_1020, tl_1180, tl_1190, tl_1200, tl_1220, tl_m1] at *
    have k2 := wfM_r hp.1 (x := x1) (by simp only [rg]; omega)
    have t0 : (540 + ((6 * x1) + ((S.2 50 ((260 + x1).toNatClampNeg)).toInt32))).toInt = (540 + ((6 * (x1).toInt) + (S.2 50 ((260 + x1).toNatClampNeg)).toInt)) := (ti_add (a := (540 : Int32)) (b := ((6 * x1) + ((S.2 50 ((260 + x1).toNatClampNeg)).toInt32))) tl_540 (ti_add (a := (6 * x1)) (b := ((S.2 50 ((260 + x1).toNatClampNeg)).toInt32)) (ti_mul (a := (6 : Int32)) (b := (x1)) tl_6 rfl (by omega) (by omega)) (ti_32 (a := (S.2 50 ((260 + x1).toNatClampNeg))) rfl (by omega) (by omega)) (by omega) (by omega)) (by omega) (by omega))
    omega
theorem vc_FMO_addRow_ix53_4 (S : hS) (x1 : Int32) (x2 : Int32) (x3 : Int64) (hp : wfM S ∧ rg x1 40 ∧ (S.2 50 (260 + x1).toNatClampNeg).toInt < 6) : vp_in (260 + x1) 1220 := by
    have k0 := hp.2.1
    have k1 := hp.2.2
    have m0 := hp.1.1
    have m1 := hp.1.2.1
    have m3 := hp.1.2.2.1
    have m4 := hp.1.2.2.2.1
    have m6 := hp.1.2.2.2.2.2.2.1
    simp only [rg, bt, lp, vp_rg, Int32.lt_iff_toInt_lt, Int32.le_iff_toInt_le, Int64.lt_iff_toInt_lt, Int64.le_iff_toInt_le, l32, sI_2, tq_0, tq_1, tq_2, tq_6, tq_8, tq_10, tq_20, tq_30, tq_40, tl_0, tl_1, tl_2, tl_3, tl_4, tl_5, tl_6, tl_8, tl_10, tl_14, tl_20, tl_24, tl_30, tl_40, tl_50, tl_60, tl_70, tl_80, tl_100, tl_120, tl_140, tl_180, tl_220, tl_240, tl_260, tl_280, tl_300, tl_540, tl_780, tl_1020, tl_1180, tl_1190, tl_1200, tl_1220, tl_m1] at *
    have t0 : (260 + x1).toInt = (260 + (x1).toInt) := (ti_add (a := (260 : Int32)) (b := (x1)) tl_260 rfl (by omega) (by omega))
    omega
theorem vc_FMO_addRow_ix56_5 (S : hS) (x1 : Int32) (x2 : Int32) (x3 : Int64) (hp : wfM S ∧ rg x1 40 ∧ (S.2 50 (260 + x1).toNatClampNeg).toInt < 6) : vp_in (260 + x1) 1220 := by
    have k0 := hp.2.1
    have k1 := hp.2.2
    have m0 := hp.1.1
    have m1 := hp.1.2.1
    have m3 := hp.1.2.2.1
    have m4 := hp.1.2.2.2.1
    have m6 := hp.1.2.2.2.2.2.2.1
    simp only [rg, bt, lp, vp_rg, Int32.lt_iff_toInt_lt, Int32.le_iff_toInt_le, Int64.lt_iff_toInt_lt, Int64.le_iff_toInt_le, l32, sI_2, tq_0, tq_1, tq_2, tq_6, tq_8, tq_10, tq_20, tq_30, tq_40, tl_0, tl_1, tl_2, tl_3, tl_4, tl_5, tl_6, tl_8, tl_10, tl_14, tl_20, tl_24, tl_30, tl_40, tl_50, tl_60, tl_70, tl_80, tl_100, tl_120, tl_140, tl_180, tl_220, tl_240, tl_260, tl_280, tl_300, tl_540, tl_780, tl_1020, tl_1180, tl_1190, tl_1200, tl_1220, tl_m1] at *
    have t0 : (260 + x1).toInt = (260 + (x1).toInt) := (ti_add (a := (260 : Int32)) (b := (x1)) tl_260 rfl (by omega) (by omega))
    omega
theorem vc_FMO_row_pre7_1 (S : hS) (x1 : Int32) (x2 : Int32) (x3 : Int64) (hp : wfM S) : wfM (sI S 49 4 0) := (wfM_I hp)
theorem vc_FMO_row_pre15_3 (S : hS) (x1 : Int32) (x2 : Int32) (x3 : Int64) (hp : wfM S) (c2 : ¬ ((FMO_isEntry (sI S 49 4 0) x1) = 0)) : wfM (sI S 49 4 0) := (wfM_I hp)
theorem vc_FMO_row_ix30_5 (S : hS) (x1 : Int32) (x2 : Int32) (x3 : Int64) (hp : wfM S) (c2 : ¬ ((FMO_isEntry (sI S 49 4 0) x1) = 0)) (c4 : ¬ ((FMO_isAccount (sI S 49 4 0) x2) = 0)) : vp_in (140 + x1) 1220 := by
    have m0 := hp.1
    have m1 := hp.2.1
    have m3 := hp.2.2.1
    have m4 := hp.2.2.2.1
    have m6 := hp.2.2.2.2.2.2.1
    have k0 := enM (wfM_I hp) c2
    have k1 := acM (wfM_I hp) c4
    simp only [rg, bt, lp, vp_rg, Int32.lt_iff_toInt_lt, Int32.le_iff_toInt_le, Int64.lt_iff_toInt_lt, Int64.le_iff_toInt_le, l32, sI_2, tq_0, tq_1, tq_2, tq_6, tq_8, tq_10, tq_20, tq_30, tq_40, tl_0, tl_1, tl_2, tl_3, tl_4, tl_5, tl_6, tl_8, tl_10, tl_14, tl_20, tl_24, tl_30, tl_40, tl_50, tl_60, tl_70, tl_80, tl_100, tl_120, tl_140, tl_180, tl_220, tl_240, tl_260, tl_280, tl_300, tl_540, tl_780, tl_1020, tl_1180, tl_1190, tl_1200, tl_1220, tl_m1] at *
    have t0 : (140 + x1).toInt = (140 + (x1).toInt) := (ti_add (a := (140 : Int32)) (b := (x1)) tl_140 rfl (by omega) (by omega))
    omega
theorem vc_FMO_row_ix45_7 (S : hS) (x1 : Int32) (x2 : Int32) (x3 : Int64) (hp : wfM S) (c2 : ¬ ((FMO_isEntry (sI S 49 4 0) x1) = 0)) (c4 : ¬ ((FMO_isAccount (sI S 49 4 0) x2) = 0)) (c6 : ¬ (0 < (S.2 50 ((140 + x1).toNatClampNeg)))) : vp_in (260 + x1) 1220 := by
    have m0 := hp.1
    have m1 := hp.2.1
    have m3 := hp.2.2.1
    have m4 := hp.2.2.2.1
    have m6 := hp.2.2.2.2.2.2.1
    have k0 := enM (wfM_I hp) c2
    have k1 := acM (wfM_I hp) c4
    simp only [rg, bt, lp, vp_rg, Int32.lt_iff_toInt_lt, Int32.le_iff_toInt_le, Int64.lt_iff_toInt_lt, Int64.le_iff_toInt_le, l32, sI_2, tq_0, tq_1, tq_2, tq_6, tq_8, tq_10, tq_20, tq_30, tq_40, tl_0, tl_1, tl_2, tl_3, tl_4, tl_5, tl_6, tl_8, tl_10, tl_14, tl_20, tl_24, tl_30, tl_40, tl_50, tl_60, tl_70, tl_80, tl_100, tl_120, tl_140, tl_180, tl_220, tl_240, tl_260, tl_280, tl_300, tl_540, tl_780, tl_1020, tl_1180, tl_1190, tl_1200, tl_1220, tl_m1] at *
    have t0 : (260 + x1).toInt = (260 + (x1).toInt) := (ti_add (a := (260 : Int32)) (b := (x1)) tl_260 rfl (by omega) (by omega))
    omega
theorem vc_FMO_row_pre78_11 (S : hS) (x1 : Int32) (x2 : Int32) (x3 : Int64) (hp : wfM S) (c2 : ¬ ((FMO_isEntry (sI S 49 4 0) x1) = 0)) (c4 : ¬ ((FMO_isAccount (sI S 49 4 0) x2) = 0)) (c6 : ¬ (0 < (S.2 50 ((140 + x1).toNatClampNeg)))) (c8 : ¬ ((S.2 50 ((260 + x1).toNatClampNeg)) = 6)) (c9 : ¬ (x3 = 0)) (c10 : ¬ ((FMO_isIn (sI S 49 4 0) x3 (-100000000) 100000000) = 0)) : wfM (sI S 49 4 0) ∧ rg x1 40 ∧ ((sI S 49 4 0).2 50 (260 + x1).toNatClampNeg).toInt < 6 := ⟨(wfM_I hp), (by
    have m0 := hp.1
    have m1 := hp.2.1
    have m3 := hp.2.2.1
    have m4 := hp.2.2.2.1
    have m6 := hp.2.2.2.2.2.2.1
    have k0 := enM (wfM_I hp) c2
    have k1 := acM (wfM_I hp) c4
    have k2 := ne64 c8
    simp only [rg, bt, lp, vp_rg, Int32.lt_iff_toInt_lt, Int32.le_iff_toInt_le, Int64.lt_iff_toInt_lt, Int64.le_iff_toInt_le, l32, sI_2, tq_0, tq_1, tq_2, tq_6, tq_8, tq_10, tq_20, tq_30, tq_40, tl_0, tl_1, tl_2, tl_3, tl_4, tl_5, tl_6, tl_8, tl_10, tl_14, tl_20, tl_24, tl_30, tl_40, tl_50, tl_60, tl_70, tl_80, tl_100, tl_120, tl_140, tl_180, tl_220, tl_240, tl_260, tl_280, tl_300, tl_540, tl_780, tl_1020, tl_1180, tl_1190, tl_1200, tl_1220, tl_m1] at *
    have k3 := wfM_r hp (x := x1) (by simp only [rg]; omega)
    omega), (by
    have m0 := hp.1
    have m1 := hp.2.1
    have m3 := hp.2.2.1
    have m4 := hp.2.2.2.1
    have m6 := hp.2.2.2.2.2.2.1
    have k0 := enM (wfM_I hp) c2
    have k1 := acM (wfM_I hp) c4
    have k2 := ne64 c8
    simp only [rg, bt, lp, vp_rg, Int32.lt_iff_toInt_lt, Int32.le_iff_toInt_le, Int64.lt_iff_toInt_lt, Int64.le_iff_toInt_le, l32, sI_2, tq_0, tq_1, tq_2, tq_6, tq_8, tq_10, tq_20, tq_30, tq_40, tl_0, tl_1, tl_2, tl_3, tl_4, tl_5, tl_6, tl_8, tl_10, tl_14, tl_20, tl_24, tl_30, tl_40, tl_50, tl_60, tl_70, tl_80, tl_100, tl_120, tl_140, tl_180, tl_220, tl_240, tl_260, tl_280, tl_300, tl_540, tl_780, tl_1020, tl_1180, tl_1190, tl_1200, tl_1220, tl_m1] at *
    have k3 := wfM_r hp (x := x1) (by simp only [rg]; omega)
    omega)⟩
theorem vc_FMO_isItem_ix18_1 (S : hS) (x1 : Int32) (x2 : Int32) (hp : wfM S ∧ rg x1 40 ∧ rg x2 6) : vp_in (260 + x1) 1220 := by
    have k0 := hp.2.1
    have k1 := hp.2.2
    have m0 := hp.1.1
    have m1 := hp.1.2.1
    have m3 := hp.1.2.2.1
    have m4 := hp.1.2.2.2.1
    have m6 := hp.1.2.2.2.2.2.2.1
    simp only [rg, bt, lp, vp_rg, Int32.lt_iff_toInt_lt, Int32.le_iff_toInt_le, Int64.lt_iff_toInt_lt, Int64.le_iff_toInt_le, l32, sI_2, tq_0, tq_1, tq_2, tq_6, tq_8, tq_10, tq_20, tq_30, tq_40, tl_0, tl_1, tl_2, tl_3, tl_4, tl_5, tl_6, tl_8, tl_10, tl_14, tl_20, tl_24, tl_30, tl_40, tl_50, tl_60, tl_70, tl_80, tl_100, tl_120, tl_140, tl_180, tl_220, tl_240, tl_260, tl_280, tl_300, tl_540, tl_780, tl_1020, tl_1180, tl_1190, tl_1200, tl_1220, tl_m1] at *
    have t0 : (260 + x1).toInt = (260 + (x1).toInt) := (ti_add (a := (260 : Int32)) (b := (x1)) tl_260 rfl (by omega) (by omega))
    omega
theorem vc_FMO_isItem_ix32_3 (S : hS) (x1 : Int32) (x2 : Int32) (hp : wfM S ∧ rg x1 40 ∧ rg x2 6) (c2 : ¬ ((S.2 50 ((260 + x1).toNatClampNeg)) ≤ x2.toInt64)) : vp_in (140 + x1) 1220 := by
    have k0 := hp.2.1
    have k1 := hp.2.2
    have m0 := hp.1.1
    have m1 := hp.1.2.1
    have m3 := hp.1.2.2.1
    have m4 := hp.1.2.2.2.1
    have m6 := hp.1.2.2.2.2.2.2.1
    simp only [rg, bt, lp, vp_rg, Int32.lt_iff_toInt_lt, Int32.le_iff_toInt_le, Int64.lt_iff_toInt_lt, Int64.le_iff_toInt_le, l32, sI_2, tq_0, tq_1, tq_2, tq_6, tq_8, tq_10, tq_20, tq_30, tq_40, tl_0, tl_1, tl_2, tl_3, tl_4, tl_5, tl_6, tl_8, tl_10, tl_14, tl_20, tl_24, tl_30, tl_40, tl_50, tl_60, tl_70, tl_80, tl_100, tl_120, tl_140, tl_180, tl_220, tl_240, tl_260, tl_280, tl_300, tl_540, tl_780, tl_1020, tl_1180, tl_1190, tl_1200, tl_1220, tl_m1] at *
    have k2 := wfM_r hp.1 (x := x1) (by simp only [rg]; omega)
    have t0 : (140 + x1).toInt = (140 + (x1).toInt) := (ti_add (a := (140 : Int32)) (b := (x1)) tl_140 rfl (by omega) (by omega))
    omega
theorem vc_FMO_isItem_ix47_5 (S : hS) (x1 : Int32) (x2 : Int32) (hp : wfM S ∧ rg x1 40 ∧ rg x2 6) (c2 : ¬ ((S.2 50 ((260 + x1).toNatClampNeg)) ≤ x2.toInt64)) (c4 : ¬ ((S.2 50 ((140 + x1).toNatClampNeg)) ≤ 0)) : vp_in (180 + x1) 1220 := by
    have k0 := hp.2.1
    have k1 := hp.2.2
    have m0 := hp.1.1
    have m1 := hp.1.2.1
    have m3 := hp.1.2.2.1
    have m4 := hp.1.2.2.2.1
    have m6 := hp.1.2.2.2.2.2.2.1
    simp only [rg, bt, lp, vp_rg, Int32.lt_iff_toInt_lt, Int32.le_iff_toInt_le, Int64.lt_iff_toInt_lt, Int64.le_iff_toInt_le, l32, sI_2, tq_0, tq_1, tq_2, tq_6, tq_8, tq_10, tq_20, tq_30, tq_40, tl_0, tl_1, tl_2, tl_3, tl_4, tl_5, tl_6, tl_8, tl_10, tl_14, tl_20, tl_24, tl_30, tl_40, tl_50, tl_60, tl_70, tl_80, tl_100, tl_120, tl_140, tl_180, tl_220, tl_240, tl_260, tl_280, tl_300, tl_540, tl_780, tl_1020, tl_1180, tl_1190, tl_1200, tl_1220, tl_m1] at *
    have k2 := wfM_r hp.1 (x := x1) (by simp only [rg]; omega)
    have t0 : (180 + x1).toInt = (180 + (x1).toInt) := (ti_add (a := (180 : Int32)) (b := (x1)) tl_180 rfl (by omega) (by omega))
    omega
theorem vc_FMO_isItem_ix62_7 (S : hS) (x1 : Int32) (x2 : Int32) (hp : wfM S ∧ rg x1 40 ∧ rg x2 6) (c2 : ¬ ((S.2 50 ((260 + x1).toNatClampNeg)) ≤ x2.toInt64)) (c4 : ¬ ((S.2 50 ((140 + x1).toNatClampNeg)) ≤ 0)) (c6 : (S.2 50 ((180 + x1).toNatClampNeg)) = 0) : vp_in (540 + ((6 * x1) + x2)) 1220 := by
    have k0 := hp.2.1
    have k1 := hp.2.2
    have m0 := hp.1.1
    have m1 := hp.1.2.1
    have m3 := hp.1.2.2.1
    have m4 := hp.1.2.2.2.1
    have m6 := hp.1.2.2.2.2.2.2.1
    simp only [rg, bt, lp, vp_rg, Int32.lt_iff_toInt_lt, Int32.le_iff_toInt_le, Int64.lt_iff_toInt_lt, Int64.le_iff_toInt_le, l32, sI_2, tq_0, tq_1, tq_2, tq_6, tq_8, tq_10, tq_20, tq_30, tq_40, tl_0, tl_1, tl_2, tl_3, tl_4, tl_5, tl_6, tl_8, tl_10, tl_14, tl_20, tl_24, tl_30, tl_40, tl_50, tl_60, tl_70, tl_80, tl_100, tl_120, tl_140, tl_180, tl_220, tl_240, tl_260, tl_280, tl_300, tl_540, tl_780, tl_1020, tl_1180, tl_1190, tl_1200, tl_1220, tl_m1] at *
    have k2 := wfM_r hp.1 (x := x1) (by simp only [rg]; omega)
    have t0 : (540 + ((6 * x1) + x2)).toInt = (540 + ((6 * (x1).toInt) + (x2).toInt)) := (ti_add (a := (540 : Int32)) (b := ((6 * x1) + x2)) tl_540 (ti_add (a := (6 * x1)) (b := (x2)) (ti_mul (a := (6 : Int32)) (b := (x1)) tl_6 rfl (by omega) (by omega)) rfl (by omega) (by omega)) (by omega) (by omega))
    omega
theorem vc_FMO_isItem_ix83_9 (S : hS) (x1 : Int32) (x2 : Int32) (hp : wfM S ∧ rg x1 40 ∧ rg x2 6) (c2 : ¬ ((S.2 50 ((260 + x1).toNatClampNeg)) ≤ x2.toInt64)) (c4 : ¬ ((S.2 50 ((140 + x1).toNatClampNeg)) ≤ 0)) (c6 : (S.2 50 ((180 + x1).toNatClampNeg)) = 0) (c8 : ¬ ((S.2 50 ((540 + ((6 * x1) + x2)).toNatClampNeg)) ≤ 0)) : vp_in (300 + ((6 * x1) + x2)) 1220 := by
    have k0 := hp.2.1
    have k1 := hp.2.2
    have m0 := hp.1.1
    have m1 := hp.1.2.1
    have m3 := hp.1.2.2.1
    have m4 := hp.1.2.2.2.1
    have m6 := hp.1.2.2.2.2.2.2.1
    simp only [rg, bt, lp, vp_rg, Int32.lt_iff_toInt_lt, Int32.le_iff_toInt_le, Int64.lt_iff_toInt_lt, Int64.le_iff_toInt_le, l32, sI_2, tq_0, tq_1, tq_2, tq_6, tq_8, tq_10, tq_20, tq_30, tq_40, tl_0, tl_1, tl_2, tl_3, tl_4, tl_5, tl_6, tl_8, tl_10, tl_14, tl_20, tl_24, tl_30, tl_40, tl_50, tl_60, tl_70, tl_80, tl_100, tl_120, tl_140, tl_180, tl_220, tl_240, tl_260, tl_280, tl_300, tl_540, tl_780, tl_1020, tl_1180, tl_1190, tl_1200, tl_1220, tl_m1] at *
    have k2 := wfM_r hp.1 (x := x1) (by simp only [rg]; omega)
    have t0 : (300 + ((6 * x1) + x2)).toInt = (300 + ((6 * (x1).toInt) + (x2).toInt)) := (ti_add (a := (300 : Int32)) (b := ((6 * x1) + x2)) tl_300 (ti_add (a := (6 * x1)) (b := (x2)) (ti_mul (a := (6 : Int32)) (b := (x1)) tl_6 rfl (by omega) (by omega)) rfl (by omega) (by omega)) (by omega) (by omega))
    omega
theorem vc_FMO_isItem_ix86_10 (S : hS) (x1 : Int32) (x2 : Int32) (hp : wfM S ∧ rg x1 40 ∧ rg x2 6) (c2 : ¬ ((S.2 50 ((260 + x1).toNatClampNeg)) ≤ x2.toInt64)) (c4 : ¬ ((S.2 50 ((140 + x1).toNatClampNeg)) ≤ 0)) (c6 : (S.2 50 ((180 + x1).toNatClampNeg)) = 0) (c8 : ¬ ((S.2 50 ((540 + ((6 * x1) + x2)).toNatClampNeg)) ≤ 0)) : vp_in (10 + ((S.2 50 ((300 + ((6 * x1) + x2)).toNatClampNeg)).toInt32)) 1220 := by
    have k0 := hp.2.1
    have k1 := hp.2.2
    have m0 := hp.1.1
    have m1 := hp.1.2.1
    have m3 := hp.1.2.2.1
    have m4 := hp.1.2.2.2.1
    have m6 := hp.1.2.2.2.2.2.2.1
    simp only [rg, bt, lp, vp_rg, Int32.lt_iff_toInt_lt, Int32.le_iff_toInt_le, Int64.lt_iff_toInt_lt, Int64.le_iff_toInt_le, l32, sI_2, tq_0, tq_1, tq_2, tq_6, tq_8, tq_10, tq_20, tq_30, tq_40, tl_0, tl_1, tl_2, tl_3, tl_4, tl_5, tl_6, tl_8, tl_10, tl_14, tl_20, tl_24, tl_30, tl_40, tl_50, tl_60, tl_70, tl_80, tl_100, tl_120, tl_140, tl_180, tl_220, tl_240, tl_260, tl_280, tl_300, tl_540, tl_780, tl_1020, tl_1180, tl_1190, tl_1200, tl_1220, tl_m1] at *
    have k2 := wfM_r hp.1 (x := x1) (by simp only [rg]; omega)
    have k3 : ((6 * x1) + x2).toInt = ((6 * (x1).toInt) + (x2).toInt) := (ti_add (a := (6 * x1)) (b := (x2)) (ti_mul (a := (6 : Int32)) (b := (x1)) tl_6 rfl (by omega) (by omega)) rfl (by omega) (by omega))
    have k4 := wfM_a hp.1 (x := ((6 * x1) + x2)) (by simp only [rg]; omega)
    have t0 : (10 + ((S.2 50 ((300 + ((6 * x1) + x2)).toNatClampNeg)).toInt32)).toInt = (10 + (S.2 50 ((300 + ((6 * x1) + x2)).toNatClampNeg)).toInt) := (ti_add (a := (10 : Int32)) (b := ((S.2 50 ((300 + ((6 * x1) + x2)).toNatClampNeg)).toInt32)) tl_10 (ti_32 (a := (S.2 50 ((300 + ((6 * x1) + x2)).toNatClampNeg))) rfl (by omega) (by omega)) (by omega) (by omega))
    omega
theorem vc_FMO_close_pre7_1 (S : hS) (x1 : Int32) (hp : wfM S) : wfM (sI S 49 4 0) := (wfM_I hp)
theorem vc_FMO_close_ix22_3 (S : hS) (x1 : Int32) (hp : wfM S) (c2 : ¬ ((FMO_isEntry (sI S 49 4 0) x1) = 0)) : vp_in (140 + x1) 1220 := by
    have m0 := hp.1
    have m1 := hp.2.1
    have m3 := hp.2.2.1
    have m4 := hp.2.2.2.1
    have m6 := hp.2.2.2.2.2.2.1
    have k0 := enM (wfM_I hp) c2
    simp only [rg, bt, lp, vp_rg, Int32.lt_iff_toInt_lt, Int32.le_iff_toInt_le, Int64.lt_iff_toInt_lt, Int64.le_iff_toInt_le, l32, sI_2, tq_0, tq_1, tq_2, tq_6, tq_8, tq_10, tq_20, tq_30, tq_40, tl_0, tl_1, tl_2, tl_3, tl_4, tl_5, tl_6, tl_8, tl_10, tl_14, tl_20, tl_24, tl_30, tl_40, tl_50, tl_60, tl_70, tl_80, tl_100, tl_120, tl_140, tl_180, tl_220, tl_240, tl_260, tl_280, tl_300, tl_540, tl_780, tl_1020, tl_1180, tl_1190, tl_1200, tl_1220, tl_m1] at *
    have t0 : (140 + x1).toInt = (140 + (x1).toInt) := (ti_add (a := (140 : Int32)) (b := (x1)) tl_140 rfl (by omega) (by omega))
    omega
theorem vc_FMO_close_ix37_5 (S : hS) (x1 : Int32) (hp : wfM S) (c2 : ¬ ((FMO_isEntry (sI S 49 4 0) x1) = 0)) (c4 : ¬ (0 < (S.2 50 ((140 + x1).toNatClampNeg)))) : vp_in (100 + x1) 1220 := by
    have m0 := hp.1
    have m1 := hp.2.1
    have m3 := hp.2.2.1
    have m4 := hp.2.2.2.1
    have m6 := hp.2.2.2.2.2.2.1
    have k0 := enM (wfM_I hp) c2
    simp only [rg, bt, lp, vp_rg, Int32.lt_iff_toInt_lt, Int32.le_iff_toInt_le, Int64.lt_iff_toInt_lt, Int64.le_iff_toInt_le, l32, sI_2, tq_0, tq_1, tq_2, tq_6, tq_8, tq_10, tq_20, tq_30, tq_40, tl_0, tl_1, tl_2, tl_3, tl_4, tl_5, tl_6, tl_8, tl_10, tl_14, tl_20, tl_24, tl_30, tl_40, tl_50, tl_60, tl_70, tl_80, tl_100, tl_120, tl_140, tl_180, tl_220, tl_240, tl_260, tl_280, tl_300, tl_540, tl_780, tl_1020, tl_1180, tl_1190, tl_1200, tl_1220, tl_m1] at *
    have t0 : (100 + x1).toInt = (100 + (x1).toInt) := (ti_add (a := (100 : Int32)) (b := (x1)) tl_100 rfl (by omega) (by omega))
    omega
theorem vc_FMO_close_pre38_6 (S : hS) (x1 : Int32) (hp : wfM S) (c2 : ¬ ((FMO_isEntry (sI S 49 4 0) x1) = 0)) (c4 : ¬ (0 < (S.2 50 ((140 + x1).toNatClampNeg)))) : wfM (sI S 49 4 0) := (wfM_I hp)
theorem vc_FMO_close_ix63_8 (S : hS) (x1 : Int32) (x2 : Int64) (x4 : Int32) (hJ : wfM S ∧ bt x4 6 ∧ rg x1 40) : vp_in (260 + x1) 1220 := by
    have k0 := hJ.2.1
    have k1 := hJ.2.2
    have m0 := hJ.1.1
    have m1 := hJ.1.2.1
    have m3 := hJ.1.2.2.1
    have m4 := hJ.1.2.2.2.1
    have m6 := hJ.1.2.2.2.2.2.2.1
    simp only [rg, bt, lp, vp_rg, Int32.lt_iff_toInt_lt, Int32.le_iff_toInt_le, Int64.lt_iff_toInt_lt, Int64.le_iff_toInt_le, l32, sI_2, tq_0, tq_1, tq_2, tq_6, tq_8, tq_10, tq_20, tq_30, tq_40, tl_0, tl_1, tl_2, tl_3, tl_4, tl_5, tl_6, tl_8, tl_10, tl_14, tl_20, tl_24, tl_30, tl_40, tl_50, tl_60, tl_70, tl_80, tl_100, tl_120, tl_140, tl_180, tl_220, tl_240, tl_260, tl_280, tl_300, tl_540, tl_780, tl_1020, tl_1180, tl_1190, tl_1200, tl_1220, tl_m1] at *
    have t0 : (260 + x1).toInt = (260 + (x1).toInt) := (ti_add (a := (260 : Int32)) (b := (x1)) tl_260 rfl (by omega) (by omega))
    omega
theorem vc_FMO_close_ix84_10 (S : hS) (x1 : Int32) (x2 : Int64) (x4 : Int32) (hJ : wfM S ∧ bt x4 6 ∧ rg x1 40) (c9 : ¬ ((S.2 50 ((260 + x1).toNatClampNeg)) ≤ x4.toInt64)) : vp_in ((540 + (6 * x1)) + x4) 1220 := by
    have k0 := hJ.2.1
    have k1 := hJ.2.2
    have m0 := hJ.1.1
    have m1 := hJ.1.2.1
    have m3 := hJ.1.2.2.1
    have m4 := hJ.1.2.2.2.1
    have m6 := hJ.1.2.2.2.2.2.2.1
    simp only [rg, bt, lp, vp_rg, Int32.lt_iff_toInt_lt, Int32.le_iff_toInt_le, Int64.lt_iff_toInt_lt, Int64.le_iff_toInt_le, l32, sI_2, tq_0, tq_1, tq_2, tq_6, tq_8, tq_10, tq_20, tq_30, tq_40, tl_0, tl_1, tl_2, tl_3, tl_4, tl_5, tl_6, tl_8, tl_10, tl_14, tl_20, tl_24, tl_30, tl_40, tl_50, tl_60, tl_70, tl_80, tl_100, tl_120, tl_140, tl_180, tl_220, tl_240, tl_260, tl_280, tl_300, tl_540, tl_780, tl_1020, tl_1180, tl_1190, tl_1200, tl_1220, tl_m1] at *
    have k2 := wfM_r hJ.1 (x := x1) (by simp only [rg]; omega)
    have t0 : ((540 + (6 * x1)) + x4).toInt = ((540 + (6 * (x1).toInt)) + (x4).toInt) := (ti_add (a := (540 + (6 * x1))) (b := (x4)) (ti_add (a := (540 : Int32)) (b := (6 * x1)) tl_540 (ti_mul (a := (6 : Int32)) (b := (x1)) tl_6 rfl (by omega) (by omega)) (by omega) (by omega)) rfl (by omega) (by omega))
    omega
theorem vc_FMO_close_inv51_11 (S : hS) (x1 : Int32) (x2 : Int64) (x4 : Int32) (hJ : wfM S ∧ bt x4 6 ∧ rg x1 40) (c9 : ¬ ((S.2 50 ((260 + x1).toNatClampNeg)) ≤ x4.toInt64)) : wfM S ∧ bt (x4 + 1) 6 ∧ rg x1 40 := ⟨hJ.1, (by
    have k0 := hJ.2.1
    have k1 := hJ.2.2
    have m0 := hJ.1.1
    have m1 := hJ.1.2.1
    have m3 := hJ.1.2.2.1
    have m4 := hJ.1.2.2.2.1
    have m6 := hJ.1.2.2.2.2.2.2.1
    simp only [rg, bt, lp, vp_rg, Int32.lt_iff_toInt_lt, Int32.le_iff_toInt_le, Int64.lt_iff_toInt_lt, Int64.le_iff_toInt_le, l32, sI_2, tq_0, tq_1, tq_2, tq_6, tq_8, tq_10, tq_20, tq_30, tq_40, tl_0, tl_1, tl_2, tl_3, tl_4, tl_5, tl_6, tl_8, tl_10, tl_14, tl_20, tl_24, tl_30, tl_40, tl_50, tl_60, tl_70, tl_80, tl_100, tl_120, tl_140, tl_180, tl_220, tl_240, tl_260, tl_280, tl_300, tl_540, tl_780, tl_1020, tl_1180, tl_1190, tl_1200, tl_1220, tl_m1] at *
    have k2 := wfM_r hJ.1 (x := x1) (by simp only [rg]; omega)
    have t0 : (x4 + 1).toInt = ((x4).toInt + 1) := (ti_add (a := (x4)) (b := (1 : Int32)) rfl tl_1 (by omega) (by omega))
    omega), hJ.2.2⟩
theorem vc_FMO_close_mu51_12 (S : hS) (x1 : Int32) (x2 : Int64) (x4 : Int32) (hJ : wfM S ∧ bt x4 6 ∧ rg x1 40) (c9 : ¬ ((S.2 50 ((260 + x1).toNatClampNeg)) ≤ x4.toInt64)) : ((6 - (x4 + 1).toInt).toNat) < ((6 - x4.toInt).toNat) := by
    have k0 := hJ.2.1
    have k1 := hJ.2.2
    have m0 := hJ.1.1
    have m1 := hJ.1.2.1
    have m3 := hJ.1.2.2.1
    have m4 := hJ.1.2.2.2.1
    have m6 := hJ.1.2.2.2.2.2.2.1
    simp only [rg, bt, lp, vp_rg, Int32.lt_iff_toInt_lt, Int32.le_iff_toInt_le, Int64.lt_iff_toInt_lt, Int64.le_iff_toInt_le, l32, sI_2, tq_0, tq_1, tq_2, tq_6, tq_8, tq_10, tq_20, tq_30, tq_40, tl_0, tl_1, tl_2, tl_3, tl_4, tl_5, tl_6, tl_8, tl_10, tl_14, tl_20, tl_24, tl_30, tl_40, tl_50, tl_60, tl_70, tl_80, tl_100, tl_120, tl_140, tl_180, tl_220, tl_240, tl_260, tl_280, tl_300, tl_540, tl_780, tl_1020, tl_1180, tl_1190, tl_1200, tl_1220, tl_m1] at *
    have k2 := wfM_r hJ.1 (x := x1) (by simp only [rg]; omega)
    have t0 : (x4 + 1).toInt = ((x4).toInt + 1) := (ti_add (a := (x4)) (b := (1 : Int32)) rfl tl_1 (by omega) (by omega))
    omega
theorem vc_FMO_close_inv051_14 (S : hS) (x1 : Int32) (hp : wfM S) (c2 : ¬ ((FMO_isEntry (sI S 49 4 0) x1) = 0)) (c4 : ¬ (0 < (S.2 50 ((140 + x1).toNatClampNeg)))) (c7 : (FMO_isLate (sI S 49 4 0) (S.2 50 ((100 + x1).toNatClampNeg))) = 0) : wfM (sI S 49 4 0) ∧ bt (0 : Int32) 6 ∧ rg x1 40 := ⟨(wfM_I hp), (by
    have m0 := hp.1
    have m1 := hp.2.1
    have m3 := hp.2.2.1
    have m4 := hp.2.2.2.1
    have m6 := hp.2.2.2.2.2.2.1
    have k0 := enM (wfM_I hp) c2
    simp only [rg, bt, lp, vp_rg, Int32.lt_iff_toInt_lt, Int32.le_iff_toInt_le, Int64.lt_iff_toInt_lt, Int64.le_iff_toInt_le, l32, sI_2, tq_0, tq_1, tq_2, tq_6, tq_8, tq_10, tq_20, tq_30, tq_40, tl_0, tl_1, tl_2, tl_3, tl_4, tl_5, tl_6, tl_8, tl_10, tl_14, tl_20, tl_24, tl_30, tl_40, tl_50, tl_60, tl_70, tl_80, tl_100, tl_120, tl_140, tl_180, tl_220, tl_240, tl_260, tl_280, tl_300, tl_540, tl_780, tl_1020, tl_1180, tl_1190, tl_1200, tl_1220, tl_m1] at *
    have t0 : (0 : Int32).toInt = 0 := tl_0
    omega), (by
    have m0 := hp.1
    have m1 := hp.2.1
    have m3 := hp.2.2.1
    have m4 := hp.2.2.2.1
    have m6 := hp.2.2.2.2.2.2.1
    have k0 := enM (wfM_I hp) c2
    simp only [rg, bt, lp, vp_rg, Int32.lt_iff_toInt_lt, Int32.le_iff_toInt_le, Int64.lt_iff_toInt_lt, Int64.le_iff_toInt_le, l32, sI_2, tq_0, tq_1, tq_2, tq_6, tq_8, tq_10, tq_20, tq_30, tq_40, tl_0, tl_1, tl_2, tl_3, tl_4, tl_5, tl_6, tl_8, tl_10, tl_14, tl_20, tl_24, tl_30, tl_40, tl_50, tl_60, tl_70, tl_80, tl_100, tl_120, tl_140, tl_180, tl_220, tl_240, tl_260, tl_280, tl_300, tl_540, tl_780, tl_1020, tl_1180, tl_1190, tl_1200, tl_1220, tl_m1] at *
    omega)⟩
theorem vc_FMO_close_mu051_15 (S : hS) (x1 : Int32) (hp : wfM S) (c2 : ¬ ((FMO_isEntry (sI S 49 4 0) x1) = 0)) (c4 : ¬ (0 < (S.2 50 ((140 + x1).toNatClampNeg)))) (c7 : (FMO_isLate (sI S 49 4 0) (S.2 50 ((100 + x1).toNatClampNeg))) = 0) : ((6 - (0 : Int32).toInt).toNat) < 300 := by
    have m0 := hp.1
    have m1 := hp.2.1
    have m3 := hp.2.2.1
    have m4 := hp.2.2.2.1
    have m6 := hp.2.2.2.2.2.2.1
    have k0 := enM (wfM_I hp) c2
    simp only [rg, bt, lp, vp_rg, Int32.lt_iff_toInt_lt, Int32.le_iff_toInt_le, Int64.lt_iff_toInt_lt, Int64.le_iff_toInt_le, l32, sI_2, tq_0, tq_1, tq_2, tq_6, tq_8, tq_10, tq_20, tq_30, tq_40, tl_0, tl_1, tl_2, tl_3, tl_4, tl_5, tl_6, tl_8, tl_10, tl_14, tl_20, tl_24, tl_30, tl_40, tl_50, tl_60, tl_70, tl_80, tl_100, tl_120, tl_140, tl_180, tl_220, tl_240, tl_260, tl_280, tl_300, tl_540, tl_780, tl_1020, tl_1180, tl_1190, tl_1200, tl_1220, tl_m1] at *
    have t0 : (0 : Int32).toInt = 0 := tl_0
    omega
theorem vc_FMO_close_ix116_17 (S : hS) (x1 : Int32) (hp : wfM S) (c2 : ¬ ((FMO_isEntry (sI S 49 4 0) x1) = 0)) (c4 : ¬ (0 < (S.2 50 ((140 + x1).toNatClampNeg)))) (c7 : (FMO_isLate (sI S 49 4 0) (S.2 50 ((100 + x1).toNatClampNeg))) = 0) (y13_2 : Int64) (y13_4 : Int32) (hq13 : LMO_close_51 300 (sI S 49 4 0) x1 0 0 = (y13_2, y13_4)) (c16 : y13_2 = 0) : vp_in (140 + x1) 1220 := by
    have m0 := hp.1
    have m1 := hp.2.1
    have m3 := hp.2.2.1
    have m4 := hp.2.2.2.1
    have m6 := hp.2.2.2.2.2.2.1
    have k0 := enM (wfM_I hp) c2
    simp only [rg, bt, lp, vp_rg, Int32.lt_iff_toInt_lt, Int32.le_iff_toInt_le, Int64.lt_iff_toInt_lt, Int64.le_iff_toInt_le, l32, sI_2, tq_0, tq_1, tq_2, tq_6, tq_8, tq_10, tq_20, tq_30, tq_40, tl_0, tl_1, tl_2, tl_3, tl_4, tl_5, tl_6, tl_8, tl_10, tl_14, tl_20, tl_24, tl_30, tl_40, tl_50, tl_60, tl_70, tl_80, tl_100, tl_120, tl_140, tl_180, tl_220, tl_240, tl_260, tl_280, tl_300, tl_540, tl_780, tl_1020, tl_1180, tl_1190, tl_1200, tl_1220, tl_m1] at *
    have t0 : (140 + x1).toInt = (140 + (x1).toInt) := (ti_add (a := (140 : Int32)) (b := (x1)) tl_140 rfl (by omega) (by omega))
    omega
theorem vc_FMO_close_ix132_18 (S : hS) (x1 : Int32) (x2 : Int64) (x4 : Int32) (hJ : wfM S ∧ bt x4 6 ∧ rg x1 40) : vp_in (260 + x1) 1220 := by
    have k0 := hJ.2.1
    have k1 := hJ.2.2
    have m0 := hJ.1.1
    have m1 := hJ.1.2.1
    have m3 := hJ.1.2.2.1
    have m4 := hJ.1.2.2.2.1
    have m6 := hJ.1.2.2.2.2.2.2.1
    simp only [rg, bt, lp, vp_rg, Int32.lt_iff_toInt_lt, Int32.le_iff_toInt_le, Int64.lt_iff_toInt_lt, Int64.le_iff_toInt_le, l32, sI_2, tq_0, tq_1, tq_2, tq_6, tq_8, tq_10, tq_20, tq_30, tq_40, tl_0, tl_1, tl_2, tl_3, tl_4, tl_5, tl_6, tl_8, tl_10, tl_14, tl_20, tl_24, tl_30, tl_40, tl_50, tl_60, tl_70, tl_80, tl_100, tl_120, tl_140, tl_180, tl_220, tl_240, tl_260, tl_280, tl_300, tl_540, tl_780, tl_1020, tl_1180, tl_1190, tl_1200, tl_1220, tl_m1] at *
    have t0 : (260 + x1).toInt = (260 + (x1).toInt) := (ti_add (a := (260 : Int32)) (b := (x1)) tl_260 rfl (by omega) (by omega))
    omega
theorem vc_FMO_close_pre160_20 (S : hS) (x1 : Int32) (x2 : Int64) (x4 : Int32) (hJ : wfM S ∧ bt x4 6 ∧ rg x1 40) (c19 : ¬ ((S.2 50 ((260 + x1).toNatClampNeg)) ≤ x4.toInt64)) : wfM S ∧ rg x1 40 ∧ rg x4 6 := ⟨hJ.1, hJ.2.2, (by
    have k0 := hJ.2.1
    have k1 := hJ.2.2
    have m0 := hJ.1.1
    have m1 := hJ.1.2.1
    have m3 := hJ.1.2.2.1
    have m4 := hJ.1.2.2.2.1
    have m6 := hJ.1.2.2.2.2.2.2.1
    simp only [rg, bt, lp, vp_rg, Int32.lt_iff_toInt_lt, Int32.le_iff_toInt_le, Int64.lt_iff_toInt_lt, Int64.le_iff_toInt_le, l32, sI_2, tq_0, tq_1, tq_2, tq_6, tq_8, tq_10, tq_20, tq_30, tq_40, tl_0, tl_1, tl_2, tl_3, tl_4, tl_5, tl_6, tl_8, tl_10, tl_14, tl_20, tl_24, tl_30, tl_40, tl_50, tl_60, tl_70, tl_80, tl_100, tl_120, tl_140, tl_180, tl_220, tl_240, tl_260, tl_280, tl_300, tl_540, tl_780, tl_1020, tl_1180, tl_1190, tl_1200, tl_1220, tl_m1] at *
    have k2 := wfM_r hJ.1 (x := x1) (by simp only [rg]; omega)
    omega)⟩
theorem vc_FMO_close_ix181_22 (S : hS) (x1 : Int32) (x2 : Int64) (x4 : Int32) (hJ : wfM S ∧ bt x4 6 ∧ rg x1 40) (c19 : ¬ ((S.2 50 ((260 + x1).toNatClampNeg)) ≤ x4.toInt64)) (c21 : (FMO_isItem S x1 x4) = 0) : vp_in (780 + ((6 * x1) + x4)) 1220 := by
    have k0 := hJ.2.1
    have k1 := hJ.2.2
    have m0 := hJ.1.1
    have m1 := hJ.1.2.1
    have m3 := hJ.1.2.2.1
    have m4 := hJ.1.2.2.2.1
    have m6 := hJ.1.2.2.2.2.2.2.1
    simp only [rg, bt, lp, vp_rg, Int32.lt_iff_toInt_lt, Int32.le_iff_toInt_le, Int64.lt_iff_toInt_lt, Int64.le_iff_toInt_le, l32, sI_2, tq_0, tq_1, tq_2, tq_6, tq_8, tq_10, tq_20, tq_30, tq_40, tl_0, tl_1, tl_2, tl_3, tl_4, tl_5, tl_6, tl_8, tl_10, tl_14, tl_20, tl_24, tl_30, tl_40, tl_50, tl_60, tl_70, tl_80, tl_100, tl_120, tl_140, tl_180, tl_220, tl_240, tl_260, tl_280, tl_300, tl_540, tl_780, tl_1020, tl_1180, tl_1190, tl_1200, tl_1220, tl_m1] at *
    have k2 := wfM_r hJ.1 (x := x1) (by simp only [rg]; omega)
    have t0 : (780 + ((6 * x1) + x4)).toInt = (780 + ((6 * (x1).toInt) + (x4).toInt)) := (ti_add (a := (780 : Int32)) (b := ((6 * x1) + x4)) tl_780 (ti_add (a := (6 * x1)) (b := (x4)) (ti_mul (a := (6 : Int32)) (b := (x1)) tl_6 rfl (by omega) (by omega)) rfl (by omega) (by omega)) (by omega) (by omega))
    omega
theorem vc_FMO_close_inv120_23 (S : hS) (x1 : Int32) (x2 : Int64) (x4 : Int32) (hJ : wfM S ∧ bt x4 6 ∧ rg x1 40) (c19 : ¬ ((S.2 50 ((260 + x1).toNatClampNeg)) ≤ x4.toInt64)) (c21 : (FMO_isItem S x1 x4) = 0) : wfM (sL S 50 ((780 + ((6 * x1) + x4)).toNatClampNeg) 0) ∧ bt (x4 + 1) 6 ∧ rg x1 40 := ⟨(wfM_L hJ.1 (by
    have k0 := hJ.2.1
    have k1 := hJ.2.2
    have m0 := hJ.1.1
    have m1 := hJ.1.2.1
    have m3 := hJ.1.2.2.1
    have m4 := hJ.1.2.2.2.1
    have m6 := hJ.1.2.2.2.2.2.2.1
    simp only [rg, bt, lp, vp_rg, Int32.lt_iff_toInt_lt, Int32.le_iff_toInt_le, Int64.lt_iff_toInt_lt, Int64.le_iff_toInt_le, l32, sI_2, tq_0, tq_1, tq_2, tq_6, tq_8, tq_10, tq_20, tq_30, tq_40, tl_0, tl_1, tl_2, tl_3, tl_4, tl_5, tl_6, tl_8, tl_10, tl_14, tl_20, tl_24, tl_30, tl_40, tl_50, tl_60, tl_70, tl_80, tl_100, tl_120, tl_140, tl_180, tl_220, tl_240, tl_260, tl_280, tl_300, tl_540, tl_780, tl_1020, tl_1180, tl_1190, tl_1200, tl_1220, tl_m1] at *
    have k2 := wfM_r hJ.1 (x := x1) (by simp only [rg]; omega)
    have t : (780 + ((6 * x1) + x4)).toInt = (780 + ((6 * (x1).toInt) + (x4).toInt)) := (ti_add (a := (780 : Int32)) (b := ((6 * x1) + x4)) tl_780 (ti_add (a := (6 * x1)) (b := (x4)) (ti_mul (a := (6 : Int32)) (b := (x1)) tl_6 rfl (by omega) (by omega)) rfl (by omega) (by omega)) (by omega) (by omega))
    have u := cl_toInt (x := (780 + ((6 * x1) + x4))) (by omega)
    omega)), (by
    have k0 := hJ.2.1
    have k1 := hJ.2.2
    have m0 := hJ.1.1
    have m1 := hJ.1.2.1
    have m3 := hJ.1.2.2.1
    have m4 := hJ.1.2.2.2.1
    have m6 := hJ.1.2.2.2.2.2.2.1
    simp only [rg, bt, lp, vp_rg, Int32.lt_iff_toInt_lt, Int32.le_iff_toInt_le, Int64.lt_iff_toInt_lt, Int64.le_iff_toInt_le, l32, sI_2, tq_0, tq_1, tq_2, tq_6, tq_8, tq_10, tq_20, tq_30, tq_40, tl_0, tl_1, tl_2, tl_3, tl_4, tl_5, tl_6, tl_8, tl_10, tl_14, tl_20, tl_24, tl_30, tl_40, tl_50, tl_60, tl_70, tl_80, tl_100, tl_120, tl_140, tl_180, tl_220, tl_240, tl_260, tl_280, tl_300, tl_540, tl_780, tl_1020, tl_1180, tl_1190, tl_1200, tl_1220, tl_m1] at *
    have k2 := wfM_r hJ.1 (x := x1) (by simp only [rg]; omega)
    have t0 : (x4 + 1).toInt = ((x4).toInt + 1) := (ti_add (a := (x4)) (b := (1 : Int32)) rfl tl_1 (by omega) (by omega))
    omega), hJ.2.2⟩
theorem vc_FMO_close_mu120_24 (S : hS) (x1 : Int32) (x2 : Int64) (x4 : Int32) (hJ : wfM S ∧ bt x4 6 ∧ rg x1 40) (c19 : ¬ ((S.2 50 ((260 + x1).toNatClampNeg)) ≤ x4.toInt64)) (c21 : (FMO_isItem S x1 x4) = 0) : ((6 - (x4 + 1).toInt).toNat) < ((6 - x4.toInt).toNat) := by
    have k0 := hJ.2.1
    have k1 := hJ.2.2
    have m0 := hJ.1.1
    have m1 := hJ.1.2.1
    have m3 := hJ.1.2.2.1
    have m4 := hJ.1.2.2.2.1
    have m6 := hJ.1.2.2.2.2.2.2.1
    simp only [rg, bt, lp, vp_rg, Int32.lt_iff_toInt_lt, Int32.le_iff_toInt_le, Int64.lt_iff_toInt_lt, Int64.le_iff_toInt_le, l32, sI_2, tq_0, tq_1, tq_2, tq_6, tq_8, tq_10, tq_20, tq_30, tq_40, tl_0, tl_1, tl_2, tl_3, tl_4, tl_5, tl_6, tl_8, tl_10, tl_14, tl_20, tl_24, tl_30, tl_40, tl_50, tl_60, tl_70, tl_80, tl_100, tl_120, tl_140, tl_180, tl_220, tl_240, tl_260, tl_280, tl_300, tl_540, tl_780, tl_1020, tl_1180, tl_1190, tl_1200, tl_1220, tl_m1] at *
    have k2 := wfM_r hJ.1 (x := x1) (by simp only [rg]; omega)
    have t0 : (x4 + 1).toInt = ((x4).toInt + 1) := (ti_add (a := (x4)) (b := (1 : Int32)) rfl tl_1 (by omega) (by omega))
    omega
theorem vc_FMO_close_ix176_25 (S : hS) (x1 : Int32) (x2 : Int64) (x4 : Int32) (hJ : wfM S ∧ bt x4 6 ∧ rg x1 40) (c19 : ¬ ((S.2 50 ((260 + x1).toNatClampNeg)) ≤ x4.toInt64)) (c21 : ¬ ((FMO_isItem S x1 x4) = 0)) : vp_in (540 + ((6 * x1) + x4)) 1220 := by
    have k0 := hJ.2.1
    have k1 := hJ.2.2
    have m0 := hJ.1.1
    have m1 := hJ.1.2.1
    have m3 := hJ.1.2.2.1
    have m4 := hJ.1.2.2.2.1
    have m6 := hJ.1.2.2.2.2.2.2.1
    simp only [rg, bt, lp, vp_rg, Int32.lt_iff_toInt_lt, Int32.le_iff_toInt_le, Int64.lt_iff_toInt_lt, Int64.le_iff_toInt_le, l32, sI_2, tq_0, tq_1, tq_2, tq_6, tq_8, tq_10, tq_20, tq_30, tq_40, tl_0, tl_1, tl_2, tl_3, tl_4, tl_5, tl_6, tl_8, tl_10, tl_14, tl_20, tl_24, tl_30, tl_40, tl_50, tl_60, tl_70, tl_80, tl_100, tl_120, tl_140, tl_180, tl_220, tl_240, tl_260, tl_280, tl_300, tl_540, tl_780, tl_1020, tl_1180, tl_1190, tl_1200, tl_1220, tl_m1] at *
    have k2 := wfM_r hJ.1 (x := x1) (by simp only [rg]; omega)
    have t0 : (540 + ((6 * x1) + x4)).toInt = (540 + ((6 * (x1).toInt) + (x4).toInt)) := (ti_add (a := (540 : Int32)) (b := ((6 * x1) + x4)) tl_540 (ti_add (a := (6 * x1)) (b := (x4)) (ti_mul (a := (6 : Int32)) (b := (x1)) tl_6 rfl (by omega) (by omega)) rfl (by omega) (by omega)) (by omega) (by omega))
    omega
theorem vc_FMO_close_ix181_26 (S : hS) (x1 : Int32) (x2 : Int64) (x4 : Int32) (hJ : wfM S ∧ bt x4 6 ∧ rg x1 40) (c19 : ¬ ((S.2 50 ((260 + x1).toNatClampNeg)) ≤ x4.toInt64)) (c21 : ¬ ((FMO_isItem S x1 x4) = 0)) : vp_in (780 + ((6 * x1) + x4)) 1220 := by
    have k0 := hJ.2.1
    have k1 := hJ.2.2
    have m0 := hJ.1.1
    have m1 := hJ.1.2.1
    have m3 := hJ.1.2.2.1
    have m4 := hJ.1.2.2.2.1
    have m6 := hJ.1.2.2.2.2.2.2.1
    simp only [rg, bt, lp, vp_rg, Int32.lt_iff_toInt_lt, Int32.le_iff_toInt_le, Int64.lt_iff_toInt_lt, Int64.le_iff_toInt_le, l32, sI_2, tq_0, tq_1, tq_2, tq_6, tq_8, tq_10, tq_20, tq_30, tq_40, tl_0, tl_1, tl_2, tl_3, tl_4, tl_5, tl_6, tl_8, tl_10, tl_14, tl_20, tl_24, tl_30, tl_40, tl_50, tl_60, tl_70, tl_80, tl_100, tl_120, tl_140, tl_180, tl_220, tl_240, tl_260, tl_280, tl_300, tl_540, tl_780, tl_1020, tl_1180, tl_1190, tl_1200, tl_1220, tl_m1] at *
    have k2 := wfM_r hJ.1 (x := x1) (by simp only [rg]; omega)
    have t0 : (780 + ((6 * x1) + x4)).toInt = (780 + ((6 * (x1).toInt) + (x4).toInt)) := (ti_add (a := (780 : Int32)) (b := ((6 * x1) + x4)) tl_780 (ti_add (a := (6 * x1)) (b := (x4)) (ti_mul (a := (6 : Int32)) (b := (x1)) tl_6 rfl (by omega) (by omega)) rfl (by omega) (by omega)) (by omega) (by omega))
    omega
theorem vc_FMO_close_inv120_27 (S : hS) (x1 : Int32) (x2 : Int64) (x4 : Int32) (hJ : wfM S ∧ bt x4 6 ∧ rg x1 40) (c19 : ¬ ((S.2 50 ((260 + x1).toNatClampNeg)) ≤ x4.toInt64)) (c21 : ¬ ((FMO_isItem S x1 x4) = 0)) : wfM (sL S 50 ((780 + ((6 * x1) + x4)).toNatClampNeg) (S.2 50 ((540 + ((6 * x1) + x4)).toNatClampNeg))) ∧ bt (x4 + 1) 6 ∧ rg x1 40 := ⟨(wfM_L hJ.1 (by
    have k0 := hJ.2.1
    have k1 := hJ.2.2
    have m0 := hJ.1.1
    have m1 := hJ.1.2.1
    have m3 := hJ.1.2.2.1
    have m4 := hJ.1.2.2.2.1
    have m6 := hJ.1.2.2.2.2.2.2.1
    simp only [rg, bt, lp, vp_rg, Int32.lt_iff_toInt_lt, Int32.le_iff_toInt_le, Int64.lt_iff_toInt_lt, Int64.le_iff_toInt_le, l32, sI_2, tq_0, tq_1, tq_2, tq_6, tq_8, tq_10, tq_20, tq_30, tq_40, tl_0, tl_1, tl_2, tl_3, tl_4, tl_5, tl_6, tl_8, tl_10, tl_14, tl_20, tl_24, tl_30, tl_40, tl_50, tl_60, tl_70, tl_80, tl_100, tl_120, tl_140, tl_180, tl_220, tl_240, tl_260, tl_280, tl_300, tl_540, tl_780, tl_1020, tl_1180, tl_1190, tl_1200, tl_1220, tl_m1] at *
    have k2 := wfM_r hJ.1 (x := x1) (by simp only [rg]; omega)
    have t : (780 + ((6 * x1) + x4)).toInt = (780 + ((6 * (x1).toInt) + (x4).toInt)) := (ti_add (a := (780 : Int32)) (b := ((6 * x1) + x4)) tl_780 (ti_add (a := (6 * x1)) (b := (x4)) (ti_mul (a := (6 : Int32)) (b := (x1)) tl_6 rfl (by omega) (by omega)) rfl (by omega) (by omega)) (by omega) (by omega))
    have u := cl_toInt (x := (780 + ((6 * x1) + x4))) (by omega)
    omega)), (by
    have k0 := hJ.2.1
    have k1 := hJ.2.2
    have m0 := hJ.1.1
    have m1 := hJ.1.2.1
    have m3 := hJ.1.2.2.1
    have m4 := hJ.1.2.2.2.1
    have m6 := hJ.1.2.2.2.2.2.2.1
    simp only [rg, bt, lp, vp_rg, Int32.lt_iff_toInt_lt, Int32.le_iff_toInt_le, Int64.lt_iff_toInt_lt, Int64.le_iff_toInt_le, l32, sI_2, tq_0, tq_1, tq_2, tq_6, tq_8, tq_10, tq_20, tq_30, tq_40, tl_0, tl_1, tl_2, tl_3, tl_4, tl_5, tl_6, tl_8, tl_10, tl_14, tl_20, tl_24, tl_30, tl_40, tl_50, tl_60, tl_70, tl_80, tl_100, tl_120, tl_140, tl_180, tl_220, tl_240, tl_260, tl_280, tl_300, tl_540, tl_780, tl_1020, tl_1180, tl_1190, tl_1200, tl_1220, tl_m1] at *
    have k2 := wfM_r hJ.1 (x := x1) (by simp only [rg]; omega)
    have t0 : (x4 + 1).toInt = ((x4).toInt + 1) := (ti_add (a := (x4)) (b := (1 : Int32)) rfl tl_1 (by omega) (by omega))
    omega), hJ.2.2⟩
theorem vc_FMO_close_mu120_28 (S : hS) (x1 : Int32) (x2 : Int64) (x4 : Int32) (hJ : wfM S ∧ bt x4 6 ∧ rg x1 40) (c19 : ¬ ((S.2 50 ((260 + x1).toNatClampNeg)) ≤ x4.toInt64)) (c21 : ¬ ((FMO_isItem S x1 x4) = 0)) : ((6 - (x4 + 1).toInt).toNat) < ((6 - x4.toInt).toNat) := by
    have k0 := hJ.2.1
    have k1 := hJ.2.2
    have m0 := hJ.1.1
    have m1 := hJ.1.2.1
    have m3 := hJ.1.2.2.1
    have m4 := hJ.1.2.2.2.1
    have m6 := hJ.1.2.2.2.2.2.2.1
    simp only [rg, bt, lp, vp_rg, Int32.lt_iff_toInt_lt, Int32.le_iff_toInt_le, Int64.lt_iff_toInt_lt, Int64.le_iff_toInt_le, l32, sI_2, tq_0, tq_1, tq_2, tq_6, tq_8, tq_10, tq_20, tq_30, tq_40, tl_0, tl_1, tl_2, tl_3, tl_4, tl_5, tl_6, tl_8, tl_10, tl_14, tl_20, tl_24, tl_30, tl_40, tl_50, tl_60, tl_70, tl_80, tl_100, tl_120, tl_140, tl_180, tl_220, tl_240, tl_260, tl_280, tl_300, tl_540, tl_780, tl_1020, tl_1180, tl_1190, tl_1200, tl_1220, tl_m1] at *
    have k2 := wfM_r hJ.1 (x := x1) (by simp only [rg]; omega)
    have t0 : (x4 + 1).toInt = ((x4).toInt + 1) := (ti_add (a := (x4)) (b := (1 : Int32)) rfl tl_1 (by omega) (by omega))
    omega
theorem vc_FMO_close_inv0120_30 (S : hS) (x1 : Int32) (hp : wfM S) (c2 : ¬ ((FMO_isEntry (sI S 49 4 0) x1) = 0)) (c4 : ¬ (0 < (S.2 50 ((140 + x1).toNatClampNeg)))) (c7 : (FMO_isLate (sI S 49 4 0) (S.2 50 ((100 + x1).toNatClampNeg))) = 0) (y13_2 : Int64) (y13_4 : Int32) (hq13 : LMO_close_51 300 (sI S 49 4 0) x1 0 0 = (y13_2, y13_4)) (c16 : y13_2 = 0) : wfM (sL (sI S 49 4 0) 50 ((140 + x1).toNatClampNeg) 1) ∧ bt (0 : Int32) 6 ∧ rg x1 40 := ⟨(wfM_L (wfM_I hp) (by
    have m0 := hp.1
    have m1 := hp.2.1
    have m3 := hp.2.2.1
    have m4 := hp.2.2.2.1
    have m6 := hp.2.2.2.2.2.2.1
    have k0 := enM (wfM_I hp) c2
    simp only [rg, bt, lp, vp_rg, Int32.lt_iff_toInt_lt, Int32.le_iff_toInt_le, Int64.lt_iff_toInt_lt, Int64.le_iff_toInt_le, l32, sI_2, tq_0, tq_1, tq_2, tq_6, tq_8, tq_10, tq_20, tq_30, tq_40, tl_0, tl_1, tl_2, tl_3, tl_4, tl_5, tl_6, tl_8, tl_10, tl_14, tl_20, tl_24, tl_30, tl_40, tl_50, tl_60, tl_70, tl_80, tl_100, tl_120, tl_140, tl_180, tl_220, tl_240, tl_260, tl_280, tl_300, tl_540, tl_780, tl_1020, tl_1180, tl_1190, tl_1200, tl_1220, tl_m1] at *
    have t : (140 + x1).toInt = (140 + (x1).toInt) := (ti_add (a := (140 : Int32)) (b := (x1)) tl_140 rfl (by omega) (by omega))
    have u := cl_toInt (x := (140 + x1)) (by omega)
    omega)), (by
    have m0 := hp.1
    have m1 := hp.2.1
    have m3 := hp.2.2.1
    have m4 := hp.2.2.2.1
    have m6 := hp.2.2.2.2.2.2.1
    have k0 := enM (wfM_I hp) c2
    simp only [rg, bt, lp, vp_rg, Int32.lt_iff_toInt_lt, Int32.le_iff_toInt_le, Int64.lt_iff_toInt_lt, Int64.le_iff_toInt_le, l32, sI_2, tq_0, tq_1, tq_2, tq_6, tq_8, tq_10, tq_20, tq_30, tq_40, tl_0, tl_1, tl_2, tl_3, tl_4, tl_5, tl_6, tl_8, tl_10, tl_14, tl_20, tl_24, tl_30, tl_40, tl_50, tl_60, tl_70, tl_80, tl_100, tl_120, tl_140, tl_180, tl_220, tl_240, tl_260, tl_280, tl_300, tl_540, tl_780, tl_1020, tl_1180, tl_1190, tl_1200, tl_1220, tl_m1] at *
    have t0 : (0 : Int32).toInt = 0 := tl_0
    omega), (by
    have m0 := hp.1
    have m1 := hp.2.1
    have m3 := hp.2.2.1
    have m4 := hp.2.2.2.1
    have m6 := hp.2.2.2.2.2.2.1
    have k0 := enM (wfM_I hp) c2
    simp only [rg, bt, lp, vp_rg, Int32.lt_iff_toInt_lt, Int32.le_iff_toInt_le, Int64.lt_iff_toInt_lt, Int64.le_iff_toInt_le, l32, sI_2, tq_0, tq_1, tq_2, tq_6, tq_8, tq_10, tq_20, tq_30, tq_40, tl_0, tl_1, tl_2, tl_3, tl_4, tl_5, tl_6, tl_8, tl_10, tl_14, tl_20, tl_24, tl_30, tl_40, tl_50, tl_60, tl_70, tl_80, tl_100, tl_120, tl_140, tl_180, tl_220, tl_240, tl_260, tl_280, tl_300, tl_540, tl_780, tl_1020, tl_1180, tl_1190, tl_1200, tl_1220, tl_m1] at *
    omega)⟩
theorem vc_FMO_close_mu0120_31 (S : hS) (x1 : Int32) (hp : wfM S) (c2 : ¬ ((FMO_isEntry (sI S 49 4 0) x1) = 0)) (c4 : ¬ (0 < (S.2 50 ((140 + x1).toNatClampNeg)))) (c7 : (FMO_isLate (sI S 49 4 0) (S.2 50 ((100 + x1).toNatClampNeg))) = 0) (y13_2 : Int64) (y13_4 : Int32) (hq13 : LMO_close_51 300 (sI S 49 4 0) x1 0 0 = (y13_2, y13_4)) (c16 : y13_2 = 0) : ((6 - (0 : Int32).toInt).toNat) < 300 := by
    have m0 := hp.1
    have m1 := hp.2.1
    have m3 := hp.2.2.1
    have m4 := hp.2.2.2.1
    have m6 := hp.2.2.2.2.2.2.1
    have k0 := enM (wfM_I hp) c2
    simp only [rg, bt, lp, vp_rg, Int32.lt_iff_toInt_lt, Int32.le_iff_toInt_le, Int64.lt_iff_toInt_lt, Int64.le_iff_toInt_le, l32, sI_2, tq_0, tq_1, tq_2, tq_6, tq_8, tq_10, tq_20, tq_30, tq_40, tl_0, tl_1, tl_2, tl_3, tl_4, tl_5, tl_6, tl_8, tl_10, tl_14, tl_20, tl_24, tl_30, tl_40, tl_50, tl_60, tl_70, tl_80, tl_100, tl_120, tl_140, tl_180, tl_220, tl_240, tl_260, tl_280, tl_300, tl_540, tl_780, tl_1020, tl_1180, tl_1190, tl_1200, tl_1220, tl_m1] at *
    have t0 : (0 : Int32).toInt = 0 := tl_0
    omega
theorem vc_FMO_close_ix197_32 (S : hS) (x1 : Int32) (hp : wfM S) (c2 : ¬ ((FMO_isEntry (sI S 49 4 0) x1) = 0)) (c4 : ¬ (0 < (S.2 50 ((140 + x1).toNatClampNeg)))) (c7 : (FMO_isLate (sI S 49 4 0) (S.2 50 ((100 + x1).toNatClampNeg))) = 0) (y13_2 : Int64) (y13_4 : Int32) (hq13 : LMO_close_51 300 (sI S 49 4 0) x1 0 0 = (y13_2, y13_4)) (c16 : y13_2 = 0) (y29_4 : Int32) (S29 : hS) (hq29 : LMO_close_120 300 (sL (sI S 49 4 0) 50 ((140 + x1).toNatClampNeg) 1) x1 y13_2 0 = (y29_4, S29)) : vp_in (260 + x1) 1220 := by
    have m0 := hp.1
    have m1 := hp.2.1
    have m3 := hp.2.2.1
    have m4 := hp.2.2.2.1
    have m6 := hp.2.2.2.2.2.2.1
    have k0 := enM (wfM_I hp) c2
    simp only [rg, bt, lp, vp_rg, Int32.lt_iff_toInt_lt, Int32.le_iff_toInt_le, Int64.lt_iff_toInt_lt, Int64.le_iff_toInt_le, l32, sI_2, tq_0, tq_1, tq_2, tq_6, tq_8, tq_10, tq_20, tq_30, tq_40, tl_0, tl_1, tl_2, tl_3, tl_4, tl_5, tl_6, tl_8, tl_10, tl_14, tl_20, tl_24, tl_30, tl_40, tl_50, tl_60, tl_70, tl_80, tl_100, tl_120, tl_140, tl_180, tl_220, tl_240, tl_260, tl_280, tl_300, tl_540, tl_780, tl_1020, tl_1180, tl_1190, tl_1200, tl_1220, tl_m1] at *
    have t0 : (260 + x1).toInt = (260 + (x1).toInt) := (ti_add (a := (260 : Int32)) (b := (x1)) tl_260 rfl (by omega) (by omega))
    omega
theorem vc_FMO_balance_ix19_1 (S : hS) (x1 : Int32) (x2 : Int64) (x4 : Int64) (x6 : Int32) (hJ : wfM S ∧ bt x6 40) : vp_in 1 1220 := by
    have k0 := hJ.2
    have m0 := hJ.1.1
    have m1 := hJ.1.2.1
    have m3 := hJ.1.2.2.1
    have m4 := hJ.1.2.2.2.1
    have m6 := hJ.1.2.2.2.2.2.2.1
    simp only [rg, bt, lp, vp_rg, Int32.lt_iff_toInt_lt, Int32.le_iff_toInt_le, Int64.lt_iff_toInt_lt, Int64.le_iff_toInt_le, l32, sI_2, tq_0, tq_1, tq_2, tq_6, tq_8, tq_10, tq_20, tq_30, tq_40, tl_0, tl_1, tl_2, tl_3, tl_4, tl_5, tl_6, tl_8, tl_10, tl_14, tl_20, tl_24, tl_30, tl_40, tl_50, tl_60, tl_70, tl_80, tl_100, tl_120, tl_140, tl_180, tl_220, tl_240, tl_260, tl_280, tl_300, tl_540, tl_780, tl_1020, tl_1180, tl_1190, tl_1200, tl_1220, tl_m1] at *
    have t0 : (1 : Int32).toInt = 1 := tl_1
    omega
theorem vc_FMO_balance_ix40_3 (S : hS) (x1 : Int32) (x2 : Int64) (x4 : Int64) (x6 : Int32) (x7 : Int32) (hJ : wfM S ∧ bt x7 6 ∧ rg x6 40) : vp_in (260 + x6) 1220 := by
    have k0 := hJ.2.1
    have k1 := hJ.2.2
    have m0 := hJ.1.1
    have m1 := hJ.1.2.1
    have m3 := hJ.1.2.2.1
    have m4 := hJ.1.2.2.2.1
    have m6 := hJ.1.2.2.2.2.2.2.1
    simp only [rg, bt, lp, vp_rg, Int32.lt_iff_toInt_lt, Int32.le_iff_toInt_le, Int64.lt_iff_toInt_lt, Int64.le_iff_toInt_le, l32, sI_2, tq_0, tq_1, tq_2, tq_6, tq_8, tq_10, tq_20, tq_30, tq_40, tl_0, tl_1, tl_2, tl_3, tl_4, tl_5, tl_6, tl_8, tl_10, tl_14, tl_20, tl_24, tl_30, tl_40, tl_50, tl_60, tl_70, tl_80, tl_100, tl_120, tl_140, tl_180, tl_220, tl_240, tl_260, tl_280, tl_300, tl_540, tl_780, tl_1020, tl_1180, tl_1190, tl_1200, tl_1220, tl_m1] at *
    have t0 : (260 + x6).toInt = (260 + (x6).toInt) := (ti_add (a := (260 : Int32)) (b := (x6)) tl_260 rfl (by omega) (by omega))
    omega
theorem vc_FMO_balance_pre57_5 (S : hS) (x1 : Int32) (x2 : Int64) (x4 : Int64) (x6 : Int32) (x7 : Int32) (hJ : wfM S ∧ bt x7 6 ∧ rg x6 40) (c4 : ¬ ((S.2 50 ((260 + x6).toNatClampNeg)) ≤ x7.toInt64)) : wfM S := hJ.1
theorem vc_FMO_balance_inv27_7 (S : hS) (x1 : Int32) (x2 : Int64) (x4 : Int64) (x6 : Int32) (x7 : Int32) (hJ : wfM S ∧ bt x7 6 ∧ rg x6 40) (c4 : ¬ ((S.2 50 ((260 + x6).toNatClampNeg)) ≤ x7.toInt64)) (c6 : (FMO_isAccount S x1) = 0) : wfM S ∧ bt (x7 + 1) 6 ∧ rg x6 40 := ⟨hJ.1, (by
    have k0 := hJ.2.1
    have k1 := hJ.2.2
    have m0 := hJ.1.1
    have m1 := hJ.1.2.1
    have m3 := hJ.1.2.2.1
    have m4 := hJ.1.2.2.2.1
    have m6 := hJ.1.2.2.2.2.2.2.1
    simp only [rg, bt, lp, vp_rg, Int32.lt_iff_toInt_lt, Int32.le_iff_toInt_le, Int64.lt_iff_toInt_lt, Int64.le_iff_toInt_le, l32, sI_2, tq_0, tq_1, tq_2, tq_6, tq_8, tq_10, tq_20, tq_30, tq_40, tl_0, tl_1, tl_2, tl_3, tl_4, tl_5, tl_6, tl_8, tl_10, tl_14, tl_20, tl_24, tl_30, tl_40, tl_50, tl_60, tl_70, tl_80, tl_100, tl_120, tl_140, tl_180, tl_220, tl_240, tl_260, tl_280, tl_300, tl_540, tl_780, tl_1020, tl_1180, tl_1190, tl_1200, tl_1220, tl_m1] at *
    have k2 := wfM_r hJ.1 (x := x6) (by simp only [rg]; omega)
    have t0 : (x7 + 1).toInt = ((x7).toInt + 1) := (ti_add (a := (x7)) (b := (1 : Int32)) rfl tl_1 (by omega) (by omega))
    omega), hJ.2.2⟩
theorem vc_FMO_balance_mu27_8 (S : hS) (x1 : Int32) (x2 : Int64) (x4 : Int64) (x6 : Int32) (x7 : Int32) (hJ : wfM S ∧ bt x7 6 ∧ rg x6 40) (c4 : ¬ ((S.2 50 ((260 + x6).toNatClampNeg)) ≤ x7.toInt64)) (c6 : (FMO_isAccount S x1) = 0) : ((6 - (x7 + 1).toInt).toNat) < ((6 - x7.toInt).toNat) := by
    have k0 := hJ.2.1
    have k1 := hJ.2.2
    have m0 := hJ.1.1
    have m1 := hJ.1.2.1
    have m3 := hJ.1.2.2.1
    have m4 := hJ.1.2.2.2.1
    have m6 := hJ.1.2.2.2.2.2.2.1
    simp only [rg, bt, lp, vp_rg, Int32.lt_iff_toInt_lt, Int32.le_iff_toInt_le, Int64.lt_iff_toInt_lt, Int64.le_iff_toInt_le, l32, sI_2, tq_0, tq_1, tq_2, tq_6, tq_8, tq_10, tq_20, tq_30, tq_40, tl_0, tl_1, tl_2, tl_3, tl_4, tl_5, tl_6, tl_8, tl_10, tl_14, tl_20, tl_24, tl_30, tl_40, tl_50, tl_60, tl_70, tl_80, tl_100, tl_120, tl_140, tl_180, tl_220, tl_240, tl_260, tl_280, tl_300, tl_540, tl_780, tl_1020, tl_1180, tl_1190, tl_1200, tl_1220, tl_m1] at *
    have k2 := wfM_r hJ.1 (x := x6) (by simp only [rg]; omega)
    have t0 : (x7 + 1).toInt = ((x7).toInt + 1) := (ti_add (a := (x7)) (b := (1 : Int32)) rfl tl_1 (by omega) (by omega))
    omega
theorem vc_FMO_balance_ix73_9 (S : hS) (x1 : Int32) (x2 : Int64) (x4 : Int64) (x6 : Int32) (x7 : Int32) (hJ : wfM S ∧ bt x7 6 ∧ rg x6 40) (c4 : ¬ ((S.2 50 ((260 + x6).toNatClampNeg)) ≤ x7.toInt64)) (c6 : ¬ ((FMO_isAccount S x1) = 0)) : vp_in (140 + x6) 1220 := by
    have k0 := hJ.2.1
    have k1 := hJ.2.2
    have m0 := hJ.1.1
    have m1 := hJ.1.2.1
    have m3 := hJ.1.2.2.1
    have m4 := hJ.1.2.2.2.1
    have m6 := hJ.1.2.2.2.2.2.2.1
    have k2 := acM hJ.1 c6
    simp only [rg, bt, lp, vp_rg, Int32.lt_iff_toInt_lt, Int32.le_iff_toInt_le, Int64.lt_iff_toInt_lt, Int64.le_iff_toInt_le, l32, sI_2, tq_0, tq_1, tq_2, tq_6, tq_8, tq_10, tq_20, tq_30, tq_40, tl_0, tl_1, tl_2, tl_3, tl_4, tl_5, tl_6, tl_8, tl_10, tl_14, tl_20, tl_24, tl_30, tl_40, tl_50, tl_60, tl_70, tl_80, tl_100, tl_120, tl_140, tl_180, tl_220, tl_240, tl_260, tl_280, tl_300, tl_540, tl_780, tl_1020, tl_1180, tl_1190, tl_1200, tl_1220, tl_m1] at *
    have k3 := wfM_r hJ.1 (x := x6) (by simp only [rg]; omega)
    have t0 : (140 + x6).toInt = (140 + (x6).toInt) := (ti_add (a := (140 : Int32)) (b := (x6)) tl_140 rfl (by omega) (by omega))
    omega
theorem vc_FMO_balance_inv27_11 (S : hS) (x1 : Int32) (x2 : Int64) (x4 : Int64) (x6 : Int32) (x7 : Int32) (hJ : wfM S ∧ bt x7 6 ∧ rg x6 40) (c4 : ¬ ((S.2 50 ((260 + x6).toNatClampNeg)) ≤ x7.toInt64)) (c6 : ¬ ((FMO_isAccount S x1) = 0)) (c10 : (S.2 50 ((140 + x6).toNatClampNeg)) ≤ 0) : wfM S ∧ bt (x7 + 1) 6 ∧ rg x6 40 := ⟨hJ.1, (by
    have k0 := hJ.2.1
    have k1 := hJ.2.2
    have m0 := hJ.1.1
    have m1 := hJ.1.2.1
    have m3 := hJ.1.2.2.1
    have m4 := hJ.1.2.2.2.1
    have m6 := hJ.1.2.2.2.2.2.2.1
    have k2 := acM hJ.1 c6
    simp only [rg, bt, lp, vp_rg, Int32.lt_iff_toInt_lt, Int32.le_iff_toInt_le, Int64.lt_iff_toInt_lt, Int64.le_iff_toInt_le, l32, sI_2, tq_0, tq_1, tq_2, tq_6, tq_8, tq_10, tq_20, tq_30, tq_40, tl_0, tl_1, tl_2, tl_3, tl_4, tl_5, tl_6, tl_8, tl_10, tl_14, tl_20, tl_24, tl_30, tl_40, tl_50, tl_60, tl_70, tl_80, tl_100, tl_120, tl_140, tl_180, tl_220, tl_240, tl_260, tl_280, tl_300, tl_540, tl_780, tl_1020, tl_1180, tl_1190, tl_1200, tl_1220, tl_m1] at *
    have k3 := wfM_r hJ.1 (x := x6) (by simp only [rg]; omega)
    have t0 : (x7 + 1).toInt = ((x7).toInt + 1) := (ti_add (a := (x7)) (b := (1 : Int32)) rfl tl_1 (by omega) (by omega))
    omega), hJ.2.2⟩
theorem vc_FMO_balance_mu27_12 (S : hS) (x1 : Int32) (x2 : Int64) (x4 : Int64) (x6 : Int32) (x7 : Int32) (hJ : wfM S ∧ bt x7 6 ∧ rg x6 40) (c4 : ¬ ((S.2 50 ((260 + x6).toNatClampNeg)) ≤ x7.toInt64)) (c6 : ¬ ((FMO_isAccount S x1) = 0)) (c10 : (S.2 50 ((140 + x6).toNatClampNeg)) ≤ 0) : ((6 - (x7 + 1).toInt).toNat) < ((6 - x7.toInt).toNat) := by
    have k0 := hJ.2.1
    have k1 := hJ.2.2
    have m0 := hJ.1.1
    have m1 := hJ.1.2.1
    have m3 := hJ.1.2.2.1
    have m4 := hJ.1.2.2.2.1
    have m6 := hJ.1.2.2.2.2.2.2.1
    have k2 := acM hJ.1 c6
    simp only [rg, bt, lp, vp_rg, Int32.lt_iff_toInt_lt, Int32.le_iff_toInt_le, Int64.lt_iff_toInt_lt, Int64.le_iff_toInt_le, l32, sI_2, tq_0, tq_1, tq_2, tq_6, tq_8, tq_10, tq_20, tq_30, tq_40, tl_0, tl_1, tl_2, tl_3, tl_4, tl_5, tl_6, tl_8, tl_10, tl_14, tl_20, tl_24, tl_30, tl_40, tl_50, tl_60, tl_70, tl_80, tl_100, tl_120, tl_140, tl_180, tl_220, tl_240, tl_260, tl_280, tl_300, tl_540, tl_780, tl_1020, tl_1180, tl_1190, tl_1200, tl_1220, tl_m1] at *
    have k3 := wfM_r hJ.1 (x := x6) (by simp only [rg]; omega)
    have t0 : (x7 + 1).toInt = ((x7).toInt + 1) := (ti_add (a := (x7)) (b := (1 : Int32)) rfl tl_1 (by omega) (by omega))
    omega
theorem vc_FMO_balance_ix88_13 (S : hS) (x1 : Int32) (x2 : Int64) (x4 : Int64) (x6 : Int32) (x7 : Int32) (hJ : wfM S ∧ bt x7 6 ∧ rg x6 40) (c4 : ¬ ((S.2 50 ((260 + x6).toNatClampNeg)) ≤ x7.toInt64)) (c6 : ¬ ((FMO_isAccount S x1) = 0)) (c10 : ¬ ((S.2 50 ((140 + x6).toNatClampNeg)) ≤ 0)) : vp_in (100 + x6) 1220 := by
    have k0 := hJ.2.1
    have k1 := hJ.2.2
    have m0 := hJ.1.1
    have m1 := hJ.1.2.1
    have m3 := hJ.1.2.2.1
    have m4 := hJ.1.2.2.2.1
    have m6 := hJ.1.2.2.2.2.2.2.1
    have k2 := acM hJ.1 c6
    simp only [rg, bt, lp, vp_rg, Int32.lt_iff_toInt_lt, Int32.le_iff_toInt_le, Int64.lt_iff_toInt_lt, Int64.le_iff_toInt_le, l32, sI_2, tq_0, tq_1, tq_2, tq_6, tq_8, tq_10, tq_20, tq_30, tq_40, tl_0, tl_1, tl_2, tl_3, tl_4, tl_5, tl_6, tl_8, tl_10, tl_14, tl_20, tl_24, tl_30, tl_40, tl_50, tl_60, tl_70, tl_80, tl_100, tl_120, tl_140, tl_180, tl_220, tl_240, tl_260, tl_280, tl_300, tl_540, tl_780, tl_1020, tl_1180, tl_1190, tl_1200, tl_1220, tl_m1] at *
    have k3 := wfM_r hJ.1 (x := x6) (by simp only [rg]; omega)
    have t0 : (100 + x6).toInt = (100 + (x6).toInt) := (ti_add (a := (100 : Int32)) (b := (x6)) tl_100 rfl (by omega) (by omega))
    omega
theorem vc_FMO_balance_inv27_15 (S : hS) (x1 : Int32) (x2 : Int64) (x4 : Int64) (x6 : Int32) (x7 : Int32) (hJ : wfM S ∧ bt x7 6 ∧ rg x6 40) (c4 : ¬ ((S.2 50 ((260 + x6).toNatClampNeg)) ≤ x7.toInt64)) (c6 : ¬ ((FMO_isAccount S x1) = 0)) (c10 : ¬ ((S.2 50 ((140 + x6).toNatClampNeg)) ≤ 0)) (c14 : x2 < (S.2 50 ((100 + x6).toNatClampNeg))) : wfM S ∧ bt (x7 + 1) 6 ∧ rg x6 40 := ⟨hJ.1, (by
    have k0 := hJ.2.1
    have k1 := hJ.2.2
    have m0 := hJ.1.1
    have m1 := hJ.1.2.1
    have m3 := hJ.1.2.2.1
    have m4 := hJ.1.2.2.2.1
    have m6 := hJ.1.2.2.2.2.2.2.1
    have k2 := acM hJ.1 c6
    simp only [rg, bt, lp, vp_rg, Int32.lt_iff_toInt_lt, Int32.le_iff_toInt_le, Int64.lt_iff_toInt_lt, Int64.le_iff_toInt_le, l32, sI_2, tq_0, tq_1, tq_2, tq_6, tq_8, tq_10, tq_20, tq_30, tq_40, tl_0, tl_1, tl_2, tl_3, tl_4, tl_5, tl_6, tl_8, tl_10, tl_14, tl_20, tl_24, tl_30, tl_40, tl_50, tl_60, tl_70, tl_80, tl_100, tl_120, tl_140, tl_180, tl_220, tl_240, tl_260, tl_280, tl_300, tl_540, tl_780, tl_1020, tl_1180, tl_1190, tl_1200, tl_1220, tl_m1] at *
    have k3 := wfM_r hJ.1 (x := x6) (by simp only [rg]; omega)
    have t0 : (x7 + 1).toInt = ((x7).toInt + 1) := (ti_add (a := (x7)) (b := (1 : Int32)) rfl tl_1 (by omega) (by omega))
    omega), hJ.2.2⟩
theorem vc_FMO_balance_mu27_16 (S : hS) (x1 : Int32) (x2 : Int64) (x4 : Int64) (x6 : Int32) (x7 : Int32) (hJ : wfM S ∧ bt x7 6 ∧ rg x6 40) (c4 : ¬ ((S.2 50 ((260 + x6).toNatClampNeg)) ≤ x7.toInt64)) (c6 : ¬ ((FMO_isAccount S x1) = 0)) (c10 : ¬ ((S.2 50 ((140 + x6).toNatClampNeg)) ≤ 0)) (c14 : x2 < (S.2 50 ((100 + x6).toNatClampNeg))) : ((6 - (x7 + 1).toInt).toNat) < ((6 - x7.toInt).toNat) := by
    have k0 := hJ.2.1
    have k1 := hJ.2.2
    have m0 := hJ.1.1
    have m1 := hJ.1.2.1
    have m3 := hJ.1.2.2.1
    have m4 := hJ.1.2.2.2.1
    have m6 := hJ.1.2.2.2.2.2.2.1
    have k2 := acM hJ.1 c6
    simp only [rg, bt, lp, vp_rg, Int32.lt_iff_toInt_lt, Int32.le_iff_toInt_le, Int64.lt_iff_toInt_lt, Int64.le_iff_toInt_le, l32, sI_2, tq_0, tq_1, tq_2, tq_6, tq_8, tq_10, tq_20, tq_30, tq_40, tl_0, tl_1, tl_2, tl_3, tl_4, tl_5, tl_6, tl_8, tl_10, tl_14, tl_20, tl_24, tl_30, tl_40, tl_50, tl_60, tl_70, tl_80, tl_100, tl_120, tl_140, tl_180, tl_220, tl_240, tl_260, tl_280, tl_300, tl_540, tl_780, tl_1020, tl_1180, tl_1190, tl_1200, tl_1220, tl_m1] at *
    have k3 := wfM_r hJ.1 (x := x6) (by simp only [rg]; omega)
    have t0 : (x7 + 1).toInt = ((x7).toInt + 1) := (ti_add (a := (x7)) (b := (1 : Int32)) rfl tl_1 (by omega) (by omega))
    omega
theorem vc_FMO_balance_ix104_17 (S : hS) (x1 : Int32) (x2 : Int64) (x4 : Int64) (x6 : Int32) (x7 : Int32) (hJ : wfM S ∧ bt x7 6 ∧ rg x6 40) (c4 : ¬ ((S.2 50 ((260 + x6).toNatClampNeg)) ≤ x7.toInt64)) (c6 : ¬ ((FMO_isAccount S x1) = 0)) (c10 : ¬ ((S.2 50 ((140 + x6).toNatClampNeg)) ≤ 0)) (c14 : ¬ (x2 < (S.2 50 ((100 + x6).toNatClampNeg)))) : vp_in (300 + ((6 * x6) + x7)) 1220 := by
    have k0 := hJ.2.1
    have k1 := hJ.2.2
    have m0 := hJ.1.1
    have m1 := hJ.1.2.1
    have m3 := hJ.1.2.2.1
    have m4 := hJ.1.2.2.2.1
    have m6 := hJ.1.2.2.2.2.2.2.1
    have k2 := acM hJ.1 c6
    simp only [rg, bt, lp, vp_rg, Int32.lt_iff_toInt_lt, Int32.le_iff_toInt_le, Int64.lt_iff_toInt_lt, Int64.le_iff_toInt_le, l32, sI_2, tq_0, tq_1, tq_2, tq_6, tq_8, tq_10, tq_20, tq_30, tq_40, tl_0, tl_1, tl_2, tl_3, tl_4, tl_5, tl_6, tl_8, tl_10, tl_14, tl_20, tl_24, tl_30, tl_40, tl_50, tl_60, tl_70, tl_80, tl_100, tl_120, tl_140, tl_180, tl_220, tl_240, tl_260, tl_280, tl_300, tl_540, tl_780, tl_1020, tl_1180, tl_1190, tl_1200, tl_1220, tl_m1] at *
    have k3 := wfM_r hJ.1 (x := x6) (by simp only [rg]; omega)
    have t0 : (300 + ((6 * x6) + x7)).toInt = (300 + ((6 * (x6).toInt) + (x7).toInt)) := (ti_add (a := (300 : Int32)) (b := ((6 * x6) + x7)) tl_300 (ti_add (a := (6 * x6)) (b := (x7)) (ti_mul (a := (6 : Int32)) (b := (x6)) tl_6 rfl (by omega) (by omega)) rfl (by omega) (by omega)) (by omega) (by omega))
    omega
theorem vc_FMO_balance_inv27_19 (S : hS) (x1 : Int32) (x2 : Int64) (x4 : Int64) (x6 : Int32) (x7 : Int32) (hJ : wfM S ∧ bt x7 6 ∧ rg x6 40) (c4 : ¬ ((S.2 50 ((260 + x6).toNatClampNeg)) ≤ x7.toInt64)) (c6 : ¬ ((FMO_isAccount S x1) = 0)) (c10 : ¬ ((S.2 50 ((140 + x6).toNatClampNeg)) ≤ 0)) (c14 : ¬ (x2 < (S.2 50 ((100 + x6).toNatClampNeg)))) (c18 : ¬ ((S.2 50 ((300 + ((6 * x6) + x7)).toNatClampNeg)) = x1.toInt64)) : wfM S ∧ bt (x7 + 1) 6 ∧ rg x6 40 := ⟨hJ.1, (by
    have k0 := hJ.2.1
    have k1 := hJ.2.2
    have m0 := hJ.1.1
    have m1 := hJ.1.2.1
    have m3 := hJ.1.2.2.1
    have m4 := hJ.1.2.2.2.1
    have m6 := hJ.1.2.2.2.2.2.2.1
    have k2 := acM hJ.1 c6
    simp only [rg, bt, lp, vp_rg, Int32.lt_iff_toInt_lt, Int32.le_iff_toInt_le, Int64.lt_iff_toInt_lt, Int64.le_iff_toInt_le, l32, sI_2, tq_0, tq_1, tq_2, tq_6, tq_8, tq_10, tq_20, tq_30, tq_40, tl_0, tl_1, tl_2, tl_3, tl_4, tl_5, tl_6, tl_8, tl_10, tl_14, tl_20, tl_24, tl_30, tl_40, tl_50, tl_60, tl_70, tl_80, tl_100, tl_120, tl_140, tl_180, tl_220, tl_240, tl_260, tl_280, tl_300, tl_540, tl_780, tl_1020, tl_1180, tl_1190, tl_1200, tl_1220, tl_m1] at *
    have k3 := wfM_r hJ.1 (x := x6) (by simp only [rg]; omega)
    have t0 : (x7 + 1).toInt = ((x7).toInt + 1) := (ti_add (a := (x7)) (b := (1 : Int32)) rfl tl_1 (by omega) (by omega))
    omega), hJ.2.2⟩
theorem vc_FMO_balance_mu27_20 (S : hS) (x1 : Int32) (x2 : Int64) (x4 : Int64) (x6 : Int32) (x7 : Int32) (hJ : wfM S ∧ bt x7 6 ∧ rg x6 40) (c4 : ¬ ((S.2 50 ((260 + x6).toNatClampNeg)) ≤ x7.toInt64)) (c6 : ¬ ((FMO_isAccount S x1) = 0)) (c10 : ¬ ((S.2 50 ((140 + x6).toNatClampNeg)) ≤ 0)) (c14 : ¬ (x2 < (S.2 50 ((100 + x6).toNatClampNeg)))) (c18 : ¬ ((S.2 50 ((300 + ((6 * x6) + x7)).toNatClampNeg)) = x1.toInt64)) : ((6 - (x7 + 1).toInt).toNat) < ((6 - x7.toInt).toNat) := by
    have k0 := hJ.2.1
    have k1 := hJ.2.2
    have m0 := hJ.1.1
    have m1 := hJ.1.2.1
    have m3 := hJ.1.2.2.1
    have m4 := hJ.1.2.2.2.1
    have m6 := hJ.1.2.2.2.2.2.2.1
    have k2 := acM hJ.1 c6
    simp only [rg, bt, lp, vp_rg, Int32.lt_iff_toInt_lt, Int32.le_iff_toInt_le, Int64.lt_iff_toInt_lt, Int64.le_iff_toInt_le, l32, sI_2, tq_0, tq_1, tq_2, tq_6, tq_8, tq_10, tq_20, tq_30, tq_40, tl_0, tl_1, tl_2, tl_3, tl_4, tl_5, tl_6, tl_8, tl_10, tl_14, tl_20, tl_24, tl_30, tl_40, tl_50, tl_60, tl_70, tl_80, tl_100, tl_120, tl_140, tl_180, tl_220, tl_240, tl_260, tl_280, tl_300, tl_540, tl_780, tl_1020, tl_1180, tl_1190, tl_1200, tl_1220, tl_m1] at *
    have k3 := wfM_r hJ.1 (x := x6) (by simp only [rg]; omega)
    have t0 : (x7 + 1).toInt = ((x7).toInt + 1) := (ti_add (a := (x7)) (b := (1 : Int32)) rfl tl_1 (by omega) (by omega))
    omega
theorem vc_FMO_balance_ix135_21 (S : hS) (x1 : Int32) (x2 : Int64) (x4 : Int64) (x6 : Int32) (x7 : Int32) (hJ : wfM S ∧ bt x7 6 ∧ rg x6 40) (c4 : ¬ ((S.2 50 ((260 + x6).toNatClampNeg)) ≤ x7.toInt64)) (c6 : ¬ ((FMO_isAccount S x1) = 0)) (c10 : ¬ ((S.2 50 ((140 + x6).toNatClampNeg)) ≤ 0)) (c14 : ¬ (x2 < (S.2 50 ((100 + x6).toNatClampNeg)))) (c18 : (S.2 50 ((300 + ((6 * x6) + x7)).toNatClampNeg)) = x1.toInt64) : vp_in (540 + ((6 * x6) + x7)) 1220 := by
    have k0 := hJ.2.1
    have k1 := hJ.2.2
    have m0 := hJ.1.1
    have m1 := hJ.1.2.1
    have m3 := hJ.1.2.2.1
    have m4 := hJ.1.2.2.2.1
    have m6 := hJ.1.2.2.2.2.2.2.1
    have k2 := acM hJ.1 c6
    simp only [rg, bt, lp, vp_rg, Int32.lt_iff_toInt_lt, Int32.le_iff_toInt_le, Int64.lt_iff_toInt_lt, Int64.le_iff_toInt_le, l32, sI_2, tq_0, tq_1, tq_2, tq_6, tq_8, tq_10, tq_20, tq_30, tq_40, tl_0, tl_1, tl_2, tl_3, tl_4, tl_5, tl_6, tl_8, tl_10, tl_14, tl_20, tl_24, tl_30, tl_40, tl_50, tl_60, tl_70, tl_80, tl_100, tl_120, tl_140, tl_180, tl_220, tl_240, tl_260, tl_280, tl_300, tl_540, tl_780, tl_1020, tl_1180, tl_1190, tl_1200, tl_1220, tl_m1] at *
    have k3 := wfM_r hJ.1 (x := x6) (by simp only [rg]; omega)
    have t0 : (540 + ((6 * x6) + x7)).toInt = (540 + ((6 * (x6).toInt) + (x7).toInt)) := (ti_add (a := (540 : Int32)) (b := ((6 * x6) + x7)) tl_540 (ti_add (a := (6 * x6)) (b := (x7)) (ti_mul (a := (6 : Int32)) (b := (x6)) tl_6 rfl (by omega) (by omega)) rfl (by omega) (by omega)) (by omega) (by omega))
    omega
