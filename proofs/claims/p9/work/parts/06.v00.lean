theorem vc_FAC_add_ix22_2 (S : hS) (x1 : Int32) (hp : wfC S) (c1 : (S.1 2 0) < 8) : vp_in (S.1 2 0) 8 := by
    have wa := hp.1
    have wb := hp.2.1
    have wg := hp.2.2.1
    have wp := hp.2.2.2.1
    have wq := hp.2.2.2.2.1
    have wr := hp.2.2.2.2.2.2.2
    simp only [rg, bt, lp, vp_rg, Int32.lt_iff_toInt_lt, Int32.le_iff_toInt_le, Int64.lt_iff_toInt_lt, Int64.le_iff_toInt_le, l32, sI_2, tq_0, tq_1, tq_2, tq_6, tq_8, tq_10, tq_20, tq_30, tq_40, tl_0, tl_1, tl_2, tl_3, tl_4, tl_5, tl_6, tl_8, tl_10, tl_14, tl_20, tl_24, tl_30, tl_40, tl_50, tl_60, tl_70, tl_80, tl_100, tl_120, tl_140, tl_180, tl_220, tl_240, tl_260, tl_280, tl_300, tl_540, tl_780, tl_1020, tl_1180, tl_1190, tl_1200, tl_1220, tl_m1] at *
    omega
theorem vc_FAC_add_ix29_3 (S : hS) (x1 : Int32) (hp : wfC S) (c1 : (S.1 2 0) < 8) : vp_in (S.1 2 0) 8 := by
    have wa := hp.1
    have wb := hp.2.1
    have wg := hp.2.2.1
    have wp := hp.2.2.2.1
    have wq := hp.2.2.2.2.1
    have wr := hp.2.2.2.2.2.2.2
    simp only [rg, bt, lp, vp_rg, Int32.lt_iff_toInt_lt, Int32.le_iff_toInt_le, Int64.lt_iff_toInt_lt, Int64.le_iff_toInt_le, l32, sI_2, tq_0, tq_1, tq_2, tq_6, tq_8, tq_10, tq_20, tq_30, tq_40, tl_0, tl_1, tl_2, tl_3, tl_4, tl_5, tl_6, tl_8, tl_10, tl_14, tl_20, tl_24, tl_30, tl_40, tl_50, tl_60, tl_70, tl_80, tl_100, tl_120, tl_140, tl_180, tl_220, tl_240, tl_260, tl_280, tl_300, tl_540, tl_780, tl_1020, tl_1180, tl_1190, tl_1200, tl_1220, tl_m1] at *
    omega
theorem vc_FAC_add_ix36_4 (S : hS) (x1 : Int32) (hp : wfC S) (c1 : (S.1 2 0) < 8) : vp_in (S.1 2 0) 8 := by
    have wa := hp.1
    have wb := hp.2.1
    have wg := hp.2.2.1
    have wp := hp.2.2.2.1
    have wq := hp.2.2.2.2.1
    have wr := hp.2.2.2.2.2.2.2
    simp only [rg, bt, lp, vp_rg, Int32.lt_iff_toInt_lt, Int32.le_iff_toInt_le, Int64.lt_iff_toInt_lt, Int64.le_iff_toInt_le, l32, sI_2, tq_0, tq_1, tq_2, tq_6, tq_8, tq_10, tq_20, tq_30, tq_40, tl_0, tl_1, tl_2, tl_3, tl_4, tl_5, tl_6, tl_8, tl_10, tl_14, tl_20, tl_24, tl_30, tl_40, tl_50, tl_60, tl_70, tl_80, tl_100, tl_120, tl_140, tl_180, tl_220, tl_240, tl_260, tl_280, tl_300, tl_540, tl_780, tl_1020, tl_1180, tl_1190, tl_1200, tl_1220, tl_m1] at *
    omega
theorem vc_FAC_add_ix43_5 (S : hS) (x1 : Int32) (hp : wfC S) (c1 : (S.1 2 0) < 8) : vp_in (S.1 2 0) 8 := by
    have wa := hp.1
    have wb := hp.2.1
    have wg := hp.2.2.1
    have wp := hp.2.2.2.1
    have wq := hp.2.2.2.2.1
    have wr := hp.2.2.2.2.2.2.2
    simp only [rg, bt, lp, vp_rg, Int32.lt_iff_toInt_lt, Int32.le_iff_toInt_le, Int64.lt_iff_toInt_lt, Int64.le_iff_toInt_le, l32, sI_2, tq_0, tq_1, tq_2, tq_6, tq_8, tq_10, tq_20, tq_30, tq_40, tl_0, tl_1, tl_2, tl_3, tl_4, tl_5, tl_6, tl_8, tl_10, tl_14, tl_20, tl_24, tl_30, tl_40, tl_50, tl_60, tl_70, tl_80, tl_100, tl_120, tl_140, tl_180, tl_220, tl_240, tl_260, tl_280, tl_300, tl_540, tl_780, tl_1020, tl_1180, tl_1190, tl_1200, tl_1220, tl_m1] at *
    omega
theorem vc_FAC_add_ix52_6 (S : hS) (x1 : Int32) (hp : wfC S) (c1 : (S.1 2 0) < 8) : vp_in (S.1 2 0) 8 := by
    have wa := hp.1
    have wb := hp.2.1
    have wg := hp.2.2.1
    have wp := hp.2.2.2.1
    have wq := hp.2.2.2.2.1
    have wr := hp.2.2.2.2.2.2.2
    simp only [rg, bt, lp, vp_rg, Int32.lt_iff_toInt_lt, Int32.le_iff_toInt_le, Int64.lt_iff_toInt_lt, Int64.le_iff_toInt_le, l32, sI_2, tq_0, tq_1, tq_2, tq_6, tq_8, tq_10, tq_20, tq_30, tq_40, tl_0, tl_1, tl_2, tl_3, tl_4, tl_5, tl_6, tl_8, tl_10, tl_14, tl_20, tl_24, tl_30, tl_40, tl_50, tl_60, tl_70, tl_80, tl_100, tl_120, tl_140, tl_180, tl_220, tl_240, tl_260, tl_280, tl_300, tl_540, tl_780, tl_1020, tl_1180, tl_1190, tl_1200, tl_1220, tl_m1] at *
    omega
theorem vc_FAC_add_ix59_7 (S : hS) (x1 : Int32) (hp : wfC S) (c1 : (S.1 2 0) < 8) : vp_in (S.1 2 0) 8 := by
    have wa := hp.1
    have wb := hp.2.1
    have wg := hp.2.2.1
    have wp := hp.2.2.2.1
    have wq := hp.2.2.2.2.1
    have wr := hp.2.2.2.2.2.2.2
    simp only [rg, bt, lp, vp_rg, Int32.lt_iff_toInt_lt, Int32.le_iff_toInt_le, Int64.lt_iff_toInt_lt, Int64.le_iff_toInt_le, l32, sI_2, tq_0, tq_1, tq_2, tq_6, tq_8, tq_10, tq_20, tq_30, tq_40, tl_0, tl_1, tl_2, tl_3, tl_4, tl_5, tl_6, tl_8, tl_10, tl_14, tl_20, tl_24, tl_30, tl_40, tl_50, tl_60, tl_70, tl_80, tl_100, tl_120, tl_140, tl_180, tl_220, tl_240, tl_260, tl_280, tl_300, tl_540, tl_780, tl_1020, tl_1180, tl_1190, tl_1200, tl_1220, tl_m1] at *
    omega
theorem vc_FAC_add_ix66_8 (S : hS) (x1 : Int32) (hp : wfC S) (c1 : (S.1 2 0) < 8) : vp_in (S.1 2 0) 8 := by
    have wa := hp.1
    have wb := hp.2.1
    have wg := hp.2.2.1
    have wp := hp.2.2.2.1
    have wq := hp.2.2.2.2.1
    have wr := hp.2.2.2.2.2.2.2
    simp only [rg, bt, lp, vp_rg, Int32.lt_iff_toInt_lt, Int32.le_iff_toInt_le, Int64.lt_iff_toInt_lt, Int64.le_iff_toInt_le, l32, sI_2, tq_0, tq_1, tq_2, tq_6, tq_8, tq_10, tq_20, tq_30, tq_40, tl_0, tl_1, tl_2, tl_3, tl_4, tl_5, tl_6, tl_8, tl_10, tl_14, tl_20, tl_24, tl_30, tl_40, tl_50, tl_60, tl_70, tl_80, tl_100, tl_120, tl_140, tl_180, tl_220, tl_240, tl_260, tl_280, tl_300, tl_540, tl_780, tl_1020, tl_1180, tl_1190, tl_1200, tl_1220, tl_m1] at *
    omega
theorem vc_FHL_account_pre19_3 (S : hS) (x1 : Int32) (hp : wfC S) (c1 : ¬ (x1 < 0)) (c2 : x1 ≤ 2) : wfC S := hp
theorem vc_FJO_add_pre1_1 (S : hS) (x1 : Int32) (x2 : Int32) (hp : wfC S) : wfC S := hp
theorem vc_FJO_add_ix20_3 (S : hS) (x1 : Int32) (x2 : Int32) (hp : wfC S) (c2 : (FJO_isFull S) = 0) : vp_in (S.1 10 0) 40 := by
    have wa := hp.1
    have wb := hp.2.1
    have wg := hp.2.2.1
    have wp := hp.2.2.2.1
    have wq := hp.2.2.2.2.1
    have wr := hp.2.2.2.2.2.2.2
    have k0 := fuC hp c2
    simp only [rg, bt, lp, vp_rg, Int32.lt_iff_toInt_lt, Int32.le_iff_toInt_le, Int64.lt_iff_toInt_lt, Int64.le_iff_toInt_le, l32, sI_2, tq_0, tq_1, tq_2, tq_6, tq_8, tq_10, tq_20, tq_30, tq_40, tl_0, tl_1, tl_2, tl_3, tl_4, tl_5, tl_6, tl_8, tl_10, tl_14, tl_20, tl_24, tl_30, tl_40, tl_50, tl_60, tl_70, tl_80, tl_100, tl_120, tl_140, tl_180, tl_220, tl_240, tl_260, tl_280, tl_300, tl_540, tl_780, tl_1020, tl_1180, tl_1190, tl_1200, tl_1220, tl_m1] at *
    omega
theorem vc_FJO_add_ix27_4 (S : hS) (x1 : Int32) (x2 : Int32) (hp : wfC S) (c2 : (FJO_isFull S) = 0) : vp_in (S.1 10 0) 40 := by
    have wa := hp.1
    have wb := hp.2.1
    have wg := hp.2.2.1
    have wp := hp.2.2.2.1
    have wq := hp.2.2.2.2.1
    have wr := hp.2.2.2.2.2.2.2
    have k0 := fuC hp c2
    simp only [rg, bt, lp, vp_rg, Int32.lt_iff_toInt_lt, Int32.le_iff_toInt_le, Int64.lt_iff_toInt_lt, Int64.le_iff_toInt_le, l32, sI_2, tq_0, tq_1, tq_2, tq_6, tq_8, tq_10, tq_20, tq_30, tq_40, tl_0, tl_1, tl_2, tl_3, tl_4, tl_5, tl_6, tl_8, tl_10, tl_14, tl_20, tl_24, tl_30, tl_40, tl_50, tl_60, tl_70, tl_80, tl_100, tl_120, tl_140, tl_180, tl_220, tl_240, tl_260, tl_280, tl_300, tl_540, tl_780, tl_1020, tl_1180, tl_1190, tl_1200, tl_1220, tl_m1] at *
    omega
theorem vc_FJO_add_ix34_5 (S : hS) (x1 : Int32) (x2 : Int32) (hp : wfC S) (c2 : (FJO_isFull S) = 0) : vp_in (S.1 10 0) 40 := by
    have wa := hp.1
    have wb := hp.2.1
    have wg := hp.2.2.1
    have wp := hp.2.2.2.1
    have wq := hp.2.2.2.2.1
    have wr := hp.2.2.2.2.2.2.2
    have k0 := fuC hp c2
    simp only [rg, bt, lp, vp_rg, Int32.lt_iff_toInt_lt, Int32.le_iff_toInt_le, Int64.lt_iff_toInt_lt, Int64.le_iff_toInt_le, l32, sI_2, tq_0, tq_1, tq_2, tq_6, tq_8, tq_10, tq_20, tq_30, tq_40, tl_0, tl_1, tl_2, tl_3, tl_4, tl_5, tl_6, tl_8, tl_10, tl_14, tl_20, tl_24, tl_30, tl_40, tl_50, tl_60, tl_70, tl_80, tl_100, tl_120, tl_140, tl_180, tl_220, tl_240, tl_260, tl_280, tl_300, tl_540, tl_780, tl_1020, tl_1180, tl_1190, tl_1200, tl_1220, tl_m1] at *
    omega
theorem vc_FJO_add_ix55_7 (S : hS) (x1 : Int32) (x2 : Int32) (x3 : Int32) (x4 : Int32) (hJ : wfC S ∧ rg x4 40) (c6 : ¬ (x4 ≤ 0)) : vp_in (x4 - 1) 40 := by
    have k0 := hJ.2
    have wa := hJ.1.1
    have wb := hJ.1.2.1
    have wg := hJ.1.2.2.1
    have wp := hJ.1.2.2.2.1
    have wq := hJ.1.2.2.2.2.1
    have wr := hJ.1.2.2.2.2.2.2.2
    simp only [rg, bt, lp, vp_rg, Int32.lt_iff_toInt_lt, Int32.le_iff_toInt_le, Int64.lt_iff_toInt_lt, Int64.le_iff_toInt_le, l32, sI_2, tq_0, tq_1, tq_2, tq_6, tq_8, tq_10, tq_20, tq_30, tq_40, tl_0, tl_1, tl_2, tl_3, tl_4, tl_5, tl_6, tl_8, tl_10, tl_14, tl_20, tl_24, tl_30, tl_40, tl_50, tl_60, tl_70, tl_80, tl_100, tl_120, tl_140, tl_180, tl_220, tl_240, tl_260, tl_280, tl_300, tl_540, tl_780, tl_1020, tl_1180, tl_1190, tl_1200, tl_1220, tl_m1] at *
    have t0 : (x4 - 1).toInt = ((x4).toInt - 1) := (ti_sub (a := (x4)) (b := (1 : Int32)) rfl tl_1 (by omega) (by omega))
    omega
theorem vc_FJO_add_ix56_8 (S : hS) (x1 : Int32) (x2 : Int32) (x3 : Int32) (x4 : Int32) (hJ : wfC S ∧ rg x4 40) (c6 : ¬ (x4 ≤ 0)) : vp_in (S.1 14 ((x4 - 1).toNatClampNeg)) 40 := by
    have k0 := hJ.2
    have wa := hJ.1.1
    have wb := hJ.1.2.1
    have wg := hJ.1.2.2.1
    have wp := hJ.1.2.2.2.1
    have wq := hJ.1.2.2.2.2.1
    have wr := hJ.1.2.2.2.2.2.2.2
    simp only [rg, bt, lp, vp_rg, Int32.lt_iff_toInt_lt, Int32.le_iff_toInt_le, Int64.lt_iff_toInt_lt, Int64.le_iff_toInt_le, l32, sI_2, tq_0, tq_1, tq_2, tq_6, tq_8, tq_10, tq_20, tq_30, tq_40, tl_0, tl_1, tl_2, tl_3, tl_4, tl_5, tl_6, tl_8, tl_10, tl_14, tl_20, tl_24, tl_30, tl_40, tl_50, tl_60, tl_70, tl_80, tl_100, tl_120, tl_140, tl_180, tl_220, tl_240, tl_260, tl_280, tl_300, tl_540, tl_780, tl_1020, tl_1180, tl_1190, tl_1200, tl_1220, tl_m1] at *
    have k1 := wfC_b hJ.1 (x := (x4 - 1)) (by rw [(ti_sub (a := (x4)) (b := (1 : Int32)) rfl tl_1 (by omega) (by omega))]; omega) (by rw [(ti_sub (a := (x4)) (b := (1 : Int32)) rfl tl_1 (by omega) (by omega))]; omega)
    simp only [rg] at k1
    omega
theorem vc_FJO_add_ix75_10 (S : hS) (x1 : Int32) (x2 : Int32) (x3 : Int32) (x4 : Int32) (hJ : wfC S ∧ rg x4 40) (c6 : ¬ (x4 ≤ 0)) (c9 : ¬ ((S.1 11 ((S.1 14 ((x4 - 1).toNatClampNeg)).toNatClampNeg)) ≤ x1)) : vp_in (x4 - 1) 40 := by
    have k0 := hJ.2
    have wa := hJ.1.1
    have wb := hJ.1.2.1
    have wg := hJ.1.2.2.1
    have wp := hJ.1.2.2.2.1
    have wq := hJ.1.2.2.2.2.1
    have wr := hJ.1.2.2.2.2.2.2.2
    simp only [rg, bt, lp, vp_rg, Int32.lt_iff_toInt_lt, Int32.le_iff_toInt_le, Int64.lt_iff_toInt_lt, Int64.le_iff_toInt_le, l32, sI_2, tq_0, tq_1, tq_2, tq_6, tq_8, tq_10, tq_20, tq_30, tq_40, tl_0, tl_1, tl_2, tl_3, tl_4, tl_5, tl_6, tl_8, tl_10, tl_14, tl_20, tl_24, tl_30, tl_40, tl_50, tl_60, tl_70, tl_80, tl_100, tl_120, tl_140, tl_180, tl_220, tl_240, tl_260, tl_280, tl_300, tl_540, tl_780, tl_1020, tl_1180, tl_1190, tl_1200, tl_1220, tl_m1] at *
    have k1 := wfC_b hJ.1 (x := (x4 - 1)) (by rw [(ti_sub (a := (x4)) (b := (1 : Int32)) rfl tl_1 (by omega) (by omega))]; omega) (by rw [(ti_sub (a := (x4)) (b := (1 : Int32)) rfl tl_1 (by omega) (by omega))]; omega)
    simp only [rg] at k1
    have t0 : (x4 - 1).toInt = ((x4).toInt - 1) := (ti_sub (a := (x4)) (b := (1 : Int32)) rfl tl_1 (by omega) (by omega))
    omega
theorem vc_FJO_add_ix76_11 (S : hS) (x1 : Int32) (x2 : Int32) (x3 : Int32) (x4 : Int32) (hJ : wfC S ∧ rg x4 40) (c6 : ¬ (x4 ≤ 0)) (c9 : ¬ ((S.1 11 ((S.1 14 ((x4 - 1).toNatClampNeg)).toNatClampNeg)) ≤ x1)) : vp_in x4 40 := by
    have k0 := hJ.2
    have wa := hJ.1.1
    have wb := hJ.1.2.1
    have wg := hJ.1.2.2.1
    have wp := hJ.1.2.2.2.1
    have wq := hJ.1.2.2.2.2.1
    have wr := hJ.1.2.2.2.2.2.2.2
    simp only [rg, bt, lp, vp_rg, Int32.lt_iff_toInt_lt, Int32.le_iff_toInt_le, Int64.lt_iff_toInt_lt, Int64.le_iff_toInt_le, l32, sI_2, tq_0, tq_1, tq_2, tq_6, tq_8, tq_10, tq_20, tq_30, tq_40, tl_0, tl_1, tl_2, tl_3, tl_4, tl_5, tl_6, tl_8, tl_10, tl_14, tl_20, tl_24, tl_30, tl_40, tl_50, tl_60, tl_70, tl_80, tl_100, tl_120, tl_140, tl_180, tl_220, tl_240, tl_260, tl_280, tl_300, tl_540, tl_780, tl_1020, tl_1180, tl_1190, tl_1200, tl_1220, tl_m1] at *
    have k1 := wfC_b hJ.1 (x := (x4 - 1)) (by rw [(ti_sub (a := (x4)) (b := (1 : Int32)) rfl tl_1 (by omega) (by omega))]; omega) (by rw [(ti_sub (a := (x4)) (b := (1 : Int32)) rfl tl_1 (by omega) (by omega))]; omega)
    simp only [rg] at k1
    omega
theorem vc_FJO_add_inv38_12 (S : hS) (x1 : Int32) (x2 : Int32) (x3 : Int32) (x4 : Int32) (hJ : wfC S ∧ rg x4 40) (c6 : ¬ (x4 ≤ 0)) (c9 : ¬ ((S.1 11 ((S.1 14 ((x4 - 1).toNatClampNeg)).toNatClampNeg)) ≤ x1)) : wfC (sI S 14 x4.toNatClampNeg (S.1 14 ((x4 - 1).toNatClampNeg))) ∧ rg (x4 + (-1)) 40 := by
    have c := c6
    have k := hJ.2
    simp only [rg, Int32.le_iff_toInt_le, tl_0] at c k
    have t1 : (x4 - 1).toInt = x4.toInt - 1 := ti_sub rfl tl_1 (by omega) (by omega)
    have t2 : (x4 + (-1)).toInt = x4.toInt + -1 := ti_add rfl tl_m1 (by omega) (by omega)
    exact ⟨wfC_14 hJ.1 (wfC_b hJ.1 (x := x4 - 1) (by omega) (by omega)), by simp only [rg]; omega⟩
theorem vc_FJO_add_mu38_13 (S : hS) (x1 : Int32) (x2 : Int32) (x3 : Int32) (x4 : Int32) (hJ : wfC S ∧ rg x4 40) (c6 : ¬ (x4 ≤ 0)) (c9 : ¬ ((S.1 11 ((S.1 14 ((x4 - 1).toNatClampNeg)).toNatClampNeg)) ≤ x1)) : ((x4 + (-1)).toInt.toNat) < (x4.toInt.toNat) := by
    have c := c6
    have k := hJ.2
    simp only [rg, Int32.le_iff_toInt_le, tl_0] at c k
    rw [ti_add (a := x4) (b := -1) rfl tl_m1 (by omega) (by omega)]
    omega
theorem vc_FJO_add_inv038_15 (S : hS) (x1 : Int32) (x2 : Int32) (hp : wfC S) (c2 : (FJO_isFull S) = 0) : wfC (sI (sI (sI S 11 ((S.1 10 0).toNatClampNeg) x1) 12 ((S.1 10 0).toNatClampNeg) x2) 13 ((S.1 10 0).toNatClampNeg) 0) ∧ rg (S.1 10 0) 40 := ⟨wfC_13 (wfC_I (wfC_I hp (by decide)) (by decide)) (by unfold bt; rw [tl_0]; omega), fuC hp c2⟩
theorem vc_FJO_add_mu038_16 (S : hS) (x1 : Int32) (x2 : Int32) (hp : wfC S) (c2 : (FJO_isFull S) = 0) : ((S.1 10 0).toInt.toNat) < 300 := by
    have wa := hp.1
    have wb := hp.2.1
    have wg := hp.2.2.1
    have wp := hp.2.2.2.1
    have wq := hp.2.2.2.2.1
    have wr := hp.2.2.2.2.2.2.2
    have k0 := fuC hp c2
    simp only [rg, bt, lp, vp_rg, Int32.lt_iff_toInt_lt, Int32.le_iff_toInt_le, Int64.lt_iff_toInt_lt, Int64.le_iff_toInt_le, l32, sI_2, tq_0, tq_1, tq_2, tq_6, tq_8, tq_10, tq_20, tq_30, tq_40, tl_0, tl_1, tl_2, tl_3, tl_4, tl_5, tl_6, tl_8, tl_10, tl_14, tl_20, tl_24, tl_30, tl_40, tl_50, tl_60, tl_70, tl_80, tl_100, tl_120, tl_140, tl_180, tl_220, tl_240, tl_260, tl_280, tl_300, tl_540, tl_780, tl_1020, tl_1180, tl_1190, tl_1200, tl_1220, tl_m1] at *
    omega
theorem vc_FJO_add_ix90_17 (S : hS) (x1 : Int32) (x2 : Int32) (hp : wfC S) (c2 : (FJO_isFull S) = 0) (y14_4 : Int32) (S14 : hS) (hq14 : LJO_add_38 300 (sI (sI (sI S 11 ((S.1 10 0).toNatClampNeg) x1) 12 ((S.1 10 0).toNatClampNeg) x2) 13 ((S.1 10 0).toNatClampNeg) 0) x1 x2 (S.1 10 0) (S.1 10 0) = (y14_4, S14)) : vp_in y14_4 40 := by
    have f := fuC hp c2
    have h := (ladd 300 _ x1 x2 (S.1 10 0) (S.1 10 0) (wfC_13 (j := (S.1 10 0).toNatClampNeg) (wfC_I (k := 12) (j := (S.1 10 0).toNatClampNeg) (v := x2) (wfC_I (k := 11) (j := (S.1 10 0).toNatClampNeg) (v := x1) hp (by decide)) (by decide)) (v := 0) (by unfold bt; rw [tl_0]; omega)) f (by unfold rg at f; omega)).1
    rw [hq14] at h
    exact vp_rg.mpr h
theorem vc_FHL_entry_pre5_1 (S : hS) (x1 : Int64) (hp : wfC S) : wfC S := hp
theorem vc_FHL_entry_pre23_3 (S : hS) (x1 : Int64) (hp : wfC S) (c2 : ¬ ((FBO_isUnclosedDay S x1) = 0)) : wfC S := hp
theorem vc_FJO_isOpen_ix17_3 (S : hS) (x1 : Int32) (hp : wfC S) (c1 : ¬ (x1 < 0)) (c2 : ¬ ((S.1 10 0) ≤ x1)) : vp_in x1 40 := by
    have wa := hp.1
    have wb := hp.2.1
    have wg := hp.2.2.1
    have wp := hp.2.2.2.1
    have wq := hp.2.2.2.2.1
    have wr := hp.2.2.2.2.2.2.2
    simp only [rg, bt, lp, vp_rg, Int32.lt_iff_toInt_lt, Int32.le_iff_toInt_le, Int64.lt_iff_toInt_lt, Int64.le_iff_toInt_le, l32, sI_2, tq_0, tq_1, tq_2, tq_6, tq_8, tq_10, tq_20, tq_30, tq_40, tl_0, tl_1, tl_2, tl_3, tl_4, tl_5, tl_6, tl_8, tl_10, tl_14, tl_20, tl_24, tl_30, tl_40, tl_50, tl_60, tl_70, tl_80, tl_100, tl_120, tl_140, tl_180, tl_220, tl_240, tl_260, tl_280, tl_300, tl_540, tl_780, tl_1020, tl_1180, tl_1190, tl_1200, tl_1220, tl_m1] at *
    omega
theorem vc_FJO_addRow_ix17_3 (S : hS) (x1 : Int32) (x2 : Int32) (x3 : Int64) (hp : wfC S) (c1 : ¬ (x1 < 0)) (c2 : ¬ ((S.1 10 0) ≤ x1)) : vp_in x1 40 := by
    have wa := hp.1
    have wb := hp.2.1
    have wg := hp.2.2.1
    have wp := hp.2.2.2.1
    have wq := hp.2.2.2.2.1
    have wr := hp.2.2.2.2.2.2.2
    simp only [rg, bt, lp, vp_rg, Int32.lt_iff_toInt_lt, Int32.le_iff_toInt_le, Int64.lt_iff_toInt_lt, Int64.le_iff_toInt_le, l32, sI_2, tq_0, tq_1, tq_2, tq_6, tq_8, tq_10, tq_20, tq_30, tq_40, tl_0, tl_1, tl_2, tl_3, tl_4, tl_5, tl_6, tl_8, tl_10, tl_14, tl_20, tl_24, tl_30, tl_40, tl_50, tl_60, tl_70, tl_80, tl_100, tl_120, tl_140, tl_180, tl_220, tl_240, tl_260, tl_280, tl_300, tl_540, tl_780, tl_1020, tl_1180, tl_1190, tl_1200, tl_1220, tl_m1] at *
    omega
theorem vc_FJO_addRow_ix34_5 (S : hS) (x1 : Int32) (x2 : Int32) (x3 : Int64) (hp : wfC S) (c1 : ¬ (x1 < 0)) (c2 : ¬ ((S.1 10 0) ≤ x1)) (c4 : (S.1 13 x1.toNatClampNeg) < 6) : vp_in x1 40 := by
    have wa := hp.1
    have wb := hp.2.1
    have wg := hp.2.2.1
    have wp := hp.2.2.2.1
    have wq := hp.2.2.2.2.1
    have wr := hp.2.2.2.2.2.2.2
    simp only [rg, bt, lp, vp_rg, Int32.lt_iff_toInt_lt, Int32.le_iff_toInt_le, Int64.lt_iff_toInt_lt, Int64.le_iff_toInt_le, l32, sI_2, tq_0, tq_1, tq_2, tq_6, tq_8, tq_10, tq_20, tq_30, tq_40, tl_0, tl_1, tl_2, tl_3, tl_4, tl_5, tl_6, tl_8, tl_10, tl_14, tl_20, tl_24, tl_30, tl_40, tl_50, tl_60, tl_70, tl_80, tl_100, tl_120, tl_140, tl_180, tl_220, tl_240, tl_260, tl_280, tl_300, tl_540, tl_780, tl_1020, tl_1180, tl_1190, tl_1200, tl_1220, tl_m1] at *
    have k0 := wfC_r hp (x := x1) (by omega) (by omega)
    simp only [bt] at k0
    omega
theorem vc_FJO_addRow_ix45_6 (S : hS) (x1 : Int32) (x2 : Int32) (x3 : Int64) (hp : wfC S) (c1 : ¬ (x1 < 0)) (c2 : ¬ ((S.1 10 0) ≤ x1)) (c4 : (S.1 13 x1.toNatClampNeg) < 6) : vp_in ((x1 * 6) + (S.1 13 x1.toNatClampNeg)) 240 := by
    have wa := hp.1
    have wb := hp.2.1
    have wg := hp.2.2.1
    have wp := hp.2.2.2.1
    have wq := hp.2.2.2.2.1
    have wr := hp.2.2.2.2.2.2.2
    simp only [rg, bt, lp, vp_rg, Int32.lt_iff_toInt_lt, Int32.le_iff_toInt_le, Int64.lt_iff_toInt_lt, Int64.le_iff_toInt_le, l32, sI_2, tq_0, tq_1, tq_2, tq_6, tq_8, tq_10, tq_20, tq_30, tq_40, tl_0, tl_1, tl_2, tl_3, tl_4, tl_5, tl_6, tl_8, tl_10, tl_14, tl_20, tl_24, tl_30, tl_40, tl_50, tl_60, tl_70, tl_80, tl_100, tl_120, tl_140, tl_180, tl_220, tl_240, tl_260, tl_280, tl_300, tl_540, tl_780, tl_1020, tl_1180, tl_1190, tl_1200, tl_1220, tl_m1] at *
    have k0 := wfC_r hp (x := x1) (by omega) (by omega)
    simp only [bt] at k0
    have t0 : ((x1 * 6) + (S.1 13 x1.toNatClampNeg)).toInt = (((x1).toInt * 6) + (S.1 13 x1.toNatClampNeg).toInt) := (ti_add (a := (x1 * 6)) (b := (S.1 13 x1.toNatClampNeg)) (ti_mul (a := (x1)) (b := (6 : Int32)) rfl tl_6 (by omega) (by omega)) rfl (by omega) (by omega))
    omega
theorem vc_FJO_addRow_ix53_7 (S : hS) (x1 : Int32) (x2 : Int32) (x3 : Int64) (hp : wfC S) (c1 : ¬ (x1 < 0)) (c2 : ¬ ((S.1 10 0) ≤ x1)) (c4 : (S.1 13 x1.toNatClampNeg) < 6) : vp_in ((x1 * 6) + (S.1 13 x1.toNatClampNeg)) 240 := by
    have wa := hp.1
    have wb := hp.2.1
    have wg := hp.2.2.1
    have wp := hp.2.2.2.1
    have wq := hp.2.2.2.2.1
    have wr := hp.2.2.2.2.2.2.2
    simp only [rg, bt, lp, vp_rg, Int32.lt_iff_toInt_lt, Int32.le_iff_toInt_le, Int64.lt_iff_toInt_lt, Int64.le_iff_toInt_le, l32, sI_2, tq_0, tq_1, tq_2, tq_6, tq_8, tq_10, tq_20, tq_30, tq_40, tl_0, tl_1, tl_2, tl_3, tl_4, tl_5, tl_6, tl_8, tl_10, tl_14, tl_20, tl_24, tl_30, tl_40, tl_50, tl_60, tl_70, tl_80, tl_100, tl_120, tl_140, tl_180, tl_220, tl_240, tl_260, tl_280, tl_300, tl_540, tl_780, tl_1020, tl_1180, tl_1190, tl_1200, tl_1220, tl_m1] at *
    have k0 := wfC_r hp (x := x1) (by omega) (by omega)
    simp only [bt] at k0
    have t0 : ((x1 * 6) + (S.1 13 x1.toNatClampNeg)).toInt = (((x1).toInt * 6) + (S.1 13 x1.toNatClampNeg).toInt) := (ti_add (a := (x1 * 6)) (b := (S.1 13 x1.toNatClampNeg)) (ti_mul (a := (x1)) (b := (6 : Int32)) rfl tl_6 (by omega) (by omega)) rfl (by omega) (by omega))
    omega
theorem vc_FJO_addRow_ix63_8 (S : hS) (x1 : Int32) (x2 : Int32) (x3 : Int64) (hp : wfC S) (c1 : ¬ (x1 < 0)) (c2 : ¬ ((S.1 10 0) ≤ x1)) (c4 : (S.1 13 x1.toNatClampNeg) < 6) : vp_in ((x1 * 6) + (S.1 13 x1.toNatClampNeg)) 240 := by
    have wa := hp.1
    have wb := hp.2.1
    have wg := hp.2.2.1
    have wp := hp.2.2.2.1
    have wq := hp.2.2.2.2.1
    have wr := hp.2.2.2.2.2.2.2
    simp only [rg, bt, lp, vp_rg, Int32.lt_iff_toInt_lt, Int32.le_iff_toInt_le, Int64.lt_iff_toInt_lt, Int64.le_iff_toInt_le, l32, sI_2, tq_0, tq_1, tq_2, tq_6, tq_8, tq_10, tq_20, tq_30, tq_40, tl_0, tl_1, tl_2, tl_3, tl_4, tl_5, tl_6, tl_8, tl_10, tl_14, tl_20, tl_24, tl_30, tl_40, tl_50, tl_60, tl_70, tl_80, tl_100, tl_120, tl_140, tl_180, tl_220, tl_240, tl_260, tl_280, tl_300, tl_540, tl_780, tl_1020, tl_1180, tl_1190, tl_1200, tl_1220, tl_m1] at *
    have k0 := wfC_r hp (x := x1) (by omega) (by omega)
    simp only [bt] at k0
    have t0 : ((x1 * 6) + (S.1 13 x1.toNatClampNeg)).toInt = (((x1).toInt * 6) + (S.1 13 x1.toNatClampNeg).toInt) := (ti_add (a := (x1 * 6)) (b := (S.1 13 x1.toNatClampNeg)) (ti_mul (a := (x1)) (b := (6 : Int32)) rfl tl_6 (by omega) (by omega)) rfl (by omega) (by omega))
    omega
theorem vc_FJO_addRow_ix70_9 (S : hS) (x1 : Int32) (x2 : Int32) (x3 : Int64) (hp : wfC S) (c1 : ¬ (x1 < 0)) (c2 : ¬ ((S.1 10 0) ≤ x1)) (c4 : (S.1 13 x1.toNatClampNeg) < 6) : vp_in x1 40 := by
    have wa := hp.1
    have wb := hp.2.1
    have wg := hp.2.2.1
    have wp := hp.2.2.2.1
    have wq := hp.2.2.2.2.1
    have wr := hp.2.2.2.2.2.2.2
    simp only [rg, bt, lp, vp_rg, Int32.lt_iff_toInt_lt, Int32.le_iff_toInt_le, Int64.lt_iff_toInt_lt, Int64.le_iff_toInt_le, l32, sI_2, tq_0, tq_1, tq_2, tq_6, tq_8, tq_10, tq_20, tq_30, tq_40, tl_0, tl_1, tl_2, tl_3, tl_4, tl_5, tl_6, tl_8, tl_10, tl_14, tl_20, tl_24, tl_30, tl_40, tl_50, tl_60, tl_70, tl_80, tl_100, tl_120, tl_140, tl_180, tl_220, tl_240, tl_260, tl_280, tl_300, tl_540, tl_780, tl_1020, tl_1180, tl_1190, tl_1200, tl_1220, tl_m1] at *
    have k0 := wfC_r hp (x := x1) (by omega) (by omega)
    simp only [bt] at k0
    omega
theorem vc_FJO_addRow_ix73_10 (S : hS) (x1 : Int32) (x2 : Int32) (x3 : Int64) (hp : wfC S) (c1 : ¬ (x1 < 0)) (c2 : ¬ ((S.1 10 0) ≤ x1)) (c4 : (S.1 13 x1.toNatClampNeg) < 6) : vp_in x1 40 := by
    have wa := hp.1
    have wb := hp.2.1
    have wg := hp.2.2.1
    have wp := hp.2.2.2.1
    have wq := hp.2.2.2.2.1
    have wr := hp.2.2.2.2.2.2.2
    simp only [rg, bt, lp, vp_rg, Int32.lt_iff_toInt_lt, Int32.le_iff_toInt_le, Int64.lt_iff_toInt_lt, Int64.le_iff_toInt_le, l32, sI_2, tq_0, tq_1, tq_2, tq_6, tq_8, tq_10, tq_20, tq_30, tq_40, tl_0, tl_1, tl_2, tl_3, tl_4, tl_5, tl_6, tl_8, tl_10, tl_14, tl_20, tl_24, tl_30, tl_40, tl_50, tl_60, tl_70, tl_80, tl_100, tl_120, tl_140, tl_180, tl_220, tl_240, tl_260, tl_280, tl_300, tl_540, tl_780, tl_1020, tl_1180, tl_1190, tl_1200, tl_1220, tl_m1] at *
    have k0 := wfC_r hp (x := x1) (by omega) (by omega)
    simp only [bt] at k0
    omega
theorem vc_FHL_row_pre8_1 (S : hS) (x1 : Int32) (x2 : Int32) (x3 : Int64) (hp : wfC S) : wfC S := hp
theorem vc_FHL_row_pre22_3 (S : hS) (x1 : Int32) (x2 : Int32) (x3 : Int64) (hp : wfC S) (c2 : ¬ ((FJO_isOpen S x1) = 0)) : wfC S := hp
theorem vc_FHL_row_pre64_8 (S : hS) (x1 : Int32) (x2 : Int32) (x3 : Int64) (hp : wfC S) (c2 : ¬ ((FJO_isOpen S x1) = 0)) (c4 : ¬ ((FAC_has S x2) = 0)) (c5 : ¬ (x3 = 0)) (c6 : ¬ (x3 < (-100000000))) (c7 : x3 ≤ 100000000) : wfC S := hp
theorem vc_FHL_row_bz67_10 (S : hS) (x1 : Int32) (x2 : Int32) (x3 : Int64) (hp : wfC S) (c2 : ¬ ((FJO_isOpen S x1) = 0)) (c4 : ¬ ((FAC_has S x2) = 0)) (c5 : ¬ (x3 = 0)) (c6 : ¬ (x3 < (-100000000))) (c7 : x3 ≤ 100000000) (v9 : Int32) (S9 : hS) (hq9 : FJO_addRow S x1 x2 x3 = (v9, S9)) : v9 &&& 1 = v9 := bz01 (by have h := addRow01 S x1 x2 x3; rw [hq9] at h; exact h)
theorem vc_FJO_sumOf_ix15_1 (S : hS) (x1 : Int32) (hp : wfC S ∧ rg x1 40) : vp_in x1 40 := by
    have k0 := hp.2
    have wa := hp.1.1
    have wb := hp.1.2.1
    have wg := hp.1.2.2.1
    have wp := hp.1.2.2.2.1
    have wq := hp.1.2.2.2.2.1
    have wr := hp.1.2.2.2.2.2.2.2
    simp only [rg, bt, lp, vp_rg, Int32.lt_iff_toInt_lt, Int32.le_iff_toInt_le, Int64.lt_iff_toInt_lt, Int64.le_iff_toInt_le, l32, sI_2, tq_0, tq_1, tq_2, tq_6, tq_8, tq_10, tq_20, tq_30, tq_40, tl_0, tl_1, tl_2, tl_3, tl_4, tl_5, tl_6, tl_8, tl_10, tl_14, tl_20, tl_24, tl_30, tl_40, tl_50, tl_60, tl_70, tl_80, tl_100, tl_120, tl_140, tl_180, tl_220, tl_240, tl_260, tl_280, tl_300, tl_540, tl_780, tl_1020, tl_1180, tl_1190, tl_1200, tl_1220, tl_m1] at *
    omega
theorem vc_FJO_sumOf_ix37_3 (S : hS) (x1 : Int32) (x2 : Int64) (x4 : Int32) (x5 : Int32) (x6 : Int32) (hJ : wfC S ∧ lp x6 x5) (c2 : ¬ (x5 ≤ x6)) : vp_in x6 240 := by
    have k0 := hJ.2
    have wa := hJ.1.1
    have wb := hJ.1.2.1
    have wg := hJ.1.2.2.1
    have wp := hJ.1.2.2.2.1
    have wq := hJ.1.2.2.2.2.1
    have wr := hJ.1.2.2.2.2.2.2.2
    simp only [rg, bt, lp, vp_rg, Int32.lt_iff_toInt_lt, Int32.le_iff_toInt_le, Int64.lt_iff_toInt_lt, Int64.le_iff_toInt_le, l32, sI_2, tq_0, tq_1, tq_2, tq_6, tq_8, tq_10, tq_20, tq_30, tq_40, tl_0, tl_1, tl_2, tl_3, tl_4, tl_5, tl_6, tl_8, tl_10, tl_14, tl_20, tl_24, tl_30, tl_40, tl_50, tl_60, tl_70, tl_80, tl_100, tl_120, tl_140, tl_180, tl_220, tl_240, tl_260, tl_280, tl_300, tl_540, tl_780, tl_1020, tl_1180, tl_1190, tl_1200, tl_1220, tl_m1] at *
    omega
theorem vc_FJO_sumOf_inv23_4 (S : hS) (x1 : Int32) (x2 : Int64) (x4 : Int32) (x5 : Int32) (x6 : Int32) (hJ : wfC S ∧ lp x6 x5) (c2 : ¬ (x5 ≤ x6)) : wfC S ∧ lp (x6 + 1) x5 := ⟨hJ.1, (by
    have k0 := hJ.2
    have wa := hJ.1.1
    have wb := hJ.1.2.1
    have wg := hJ.1.2.2.1
    have wp := hJ.1.2.2.2.1
    have wq := hJ.1.2.2.2.2.1
    have wr := hJ.1.2.2.2.2.2.2.2
    simp only [rg, bt, lp, vp_rg, Int32.lt_iff_toInt_lt, Int32.le_iff_toInt_le, Int64.lt_iff_toInt_lt, Int64.le_iff_toInt_le, l32, sI_2, tq_0, tq_1, tq_2, tq_6, tq_8, tq_10, tq_20, tq_30, tq_40, tl_0, tl_1, tl_2, tl_3, tl_4, tl_5, tl_6, tl_8, tl_10, tl_14, tl_20, tl_24, tl_30, tl_40, tl_50, tl_60, tl_70, tl_80, tl_100, tl_120, tl_140, tl_180, tl_220, tl_240, tl_260, tl_280, tl_300, tl_540, tl_780, tl_1020, tl_1180, tl_1190, tl_1200, tl_1220, tl_m1] at *
    have t0 : (x6 + 1).toInt = ((x6).toInt + 1) := (ti_add (a := (x6)) (b := (1 : Int32)) rfl tl_1 (by omega) (by omega))
    omega)⟩
theorem vc_FJO_sumOf_mu23_5 (S : hS) (x1 : Int32) (x2 : Int64) (x4 : Int32) (x5 : Int32) (x6 : Int32) (hJ : wfC S ∧ lp x6 x5) (c2 : ¬ (x5 ≤ x6)) : ((x5.toInt - (x6 + 1).toInt).toNat) < ((x5.toInt - x6.toInt).toNat) := by
    have k0 := hJ.2
    have wa := hJ.1.1
    have wb := hJ.1.2.1
    have wg := hJ.1.2.2.1
    have wp := hJ.1.2.2.2.1
    have wq := hJ.1.2.2.2.2.1
    have wr := hJ.1.2.2.2.2.2.2.2
    simp only [rg, bt, lp, vp_rg, Int32.lt_iff_toInt_lt, Int32.le_iff_toInt_le, Int64.lt_iff_toInt_lt, Int64.le_iff_toInt_le, l32, sI_2, tq_0, tq_1, tq_2, tq_6, tq_8, tq_10, tq_20, tq_30, tq_40, tl_0, tl_1, tl_2, tl_3, tl_4, tl_5, tl_6, tl_8, tl_10, tl_14, tl_20, tl_24, tl_30, tl_40, tl_50, tl_60, tl_70, tl_80, tl_100, tl_120, tl_140, tl_180, tl_220, tl_240, tl_260, tl_280, tl_300, tl_540, tl_780, tl_1020, tl_1180, tl_1190, tl_1200, tl_1220, tl_m1] at *
    have t0 : (x6 + 1).toInt = ((x6).toInt + 1) := (ti_add (a := (x6)) (b := (1 : Int32)) rfl tl_1 (by omega) (by omega))
    omega
theorem vc_FJO_sumOf_inv023_7 (S : hS) (x1 : Int32) (hp : wfC S ∧ rg x1 40) : wfC S ∧ lp (x1 * 6) ((x1 * 6) + (S.1 13 x1.toNatClampNeg)) := ⟨hp.1, (by
    have k0 := hp.2
    have wa := hp.1.1
    have wb := hp.1.2.1
    have wg := hp.1.2.2.1
    have wp := hp.1.2.2.2.1
    have wq := hp.1.2.2.2.2.1
    have wr := hp.1.2.2.2.2.2.2.2
    simp only [rg, bt, lp, vp_rg, Int32.lt_iff_toInt_lt, Int32.le_iff_toInt_le, Int64.lt_iff_toInt_lt, Int64.le_iff_toInt_le, l32, sI_2, tq_0, tq_1, tq_2, tq_6, tq_8, tq_10, tq_20, tq_30, tq_40, tl_0, tl_1, tl_2, tl_3, tl_4, tl_5, tl_6, tl_8, tl_10, tl_14, tl_20, tl_24, tl_30, tl_40, tl_50, tl_60, tl_70, tl_80, tl_100, tl_120, tl_140, tl_180, tl_220, tl_240, tl_260, tl_280, tl_300, tl_540, tl_780, tl_1020, tl_1180, tl_1190, tl_1200, tl_1220, tl_m1] at *
    have k1 := wfC_r hp.1 (x := x1) (by omega) (by omega)
    simp only [bt] at k1
    have t0 : (x1 * 6).toInt = ((x1).toInt * 6) := (ti_mul (a := (x1)) (b := (6 : Int32)) rfl tl_6 (by omega) (by omega))
    have t1 : ((x1 * 6) + (S.1 13 x1.toNatClampNeg)).toInt = (((x1).toInt * 6) + (S.1 13 x1.toNatClampNeg).toInt) := (ti_add (a := (x1 * 6)) (b := (S.1 13 x1.toNatClampNeg)) (ti_mul (a := (x1)) (b := (6 : Int32)) rfl tl_6 (by omega) (by omega)) rfl (by omega) (by omega))
    omega)⟩
theorem vc_FJO_sumOf_mu023_8 (S : hS) (x1 : Int32) (hp : wfC S ∧ rg x1 40) : ((((x1 * 6) + (S.1 13 x1.toNatClampNeg)).toInt - (x1 * 6).toInt).toNat) < 300 := by
    have k0 := hp.2
    have wa := hp.1.1
    have wb := hp.1.2.1
    have wg := hp.1.2.2.1
    have wp := hp.1.2.2.2.1
    have wq := hp.1.2.2.2.2.1
    have wr := hp.1.2.2.2.2.2.2.2
    simp only [rg, bt, lp, vp_rg, Int32.lt_iff_toInt_lt, Int32.le_iff_toInt_le, Int64.lt_iff_toInt_lt, Int64.le_iff_toInt_le, l32, sI_2, tq_0, tq_1, tq_2, tq_6, tq_8, tq_10, tq_20, tq_30, tq_40, tl_0, tl_1, tl_2, tl_3, tl_4, tl_5, tl_6, tl_8, tl_10, tl_14, tl_20, tl_24, tl_30, tl_40, tl_50, tl_60, tl_70, tl_80, tl_100, tl_120, tl_140, tl_180, tl_220, tl_240, tl_260, tl_280, tl_300, tl_540, tl_780, tl_1020, tl_1180, tl_1190, tl_1200, tl_1220, tl_m1] at *
    have k1 := wfC_r hp.1 (x := x1) (by omega) (by omega)
    simp only [bt] at k1
    have t0 : ((x1 * 6) + (S.1 13 x1.toNatClampNeg)).toInt = (((x1).toInt * 6) + (S.1 13 x1.toNatClampNeg).toInt) := (ti_add (a := (x1 * 6)) (b := (S.1 13 x1.toNatClampNeg)) (ti_mul (a := (x1)) (b := (6 : Int32)) rfl tl_6 (by omega) (by omega)) rfl (by omega) (by omega))
    have t1 : (x1 * 6).toInt = ((x1).toInt * 6) := (ti_mul (a := (x1)) (b := (6 : Int32)) rfl tl_6 (by omega) (by omega))
    omega
theorem vc_FAC_hasHousehold_pre2_1 (S : hS) (x1 : Int32) (hp : wfC S) : wfC S := hp
theorem vc_FAC_hasHousehold_ix13_3 (S : hS) (x1 : Int32) (hp : wfC S) (c2 : ¬ ((FAC_has S x1) = 0)) : vp_in x1 8 := by
    have wa := hp.1
    have wb := hp.2.1
    have wg := hp.2.2.1
    have wp := hp.2.2.2.1
    have wq := hp.2.2.2.2.1
    have wr := hp.2.2.2.2.2.2.2
    have k0 := haC hp c2
    simp only [rg, bt, lp, vp_rg, Int32.lt_iff_toInt_lt, Int32.le_iff_toInt_le, Int64.lt_iff_toInt_lt, Int64.le_iff_toInt_le, l32, sI_2, tq_0, tq_1, tq_2, tq_6, tq_8, tq_10, tq_20, tq_30, tq_40, tl_0, tl_1, tl_2, tl_3, tl_4, tl_5, tl_6, tl_8, tl_10, tl_14, tl_20, tl_24, tl_30, tl_40, tl_50, tl_60, tl_70, tl_80, tl_100, tl_120, tl_140, tl_180, tl_220, tl_240, tl_260, tl_280, tl_300, tl_540, tl_780, tl_1020, tl_1180, tl_1190, tl_1200, tl_1220, tl_m1] at *
    omega
theorem vc_FBO_makeItems_ix14_1 (S : hS) (x1 : Int32) (hp : wfC S ∧ rg x1 40) : vp_in x1 40 := by
    have k0 := hp.2
    have wa := hp.1.1
    have wb := hp.1.2.1
    have wg := hp.1.2.2.1
    have wp := hp.1.2.2.2.1
    have wq := hp.1.2.2.2.2.1
    have wr := hp.1.2.2.2.2.2.2.2
    simp only [rg, bt, lp, vp_rg, Int32.lt_iff_toInt_lt, Int32.le_iff_toInt_le, Int64.lt_iff_toInt_lt, Int64.le_iff_toInt_le, l32, sI_2, tq_0, tq_1, tq_2, tq_6, tq_8, tq_10, tq_20, tq_30, tq_40, tl_0, tl_1, tl_2, tl_3, tl_4, tl_5, tl_6, tl_8, tl_10, tl_14, tl_20, tl_24, tl_30, tl_40, tl_50, tl_60, tl_70, tl_80, tl_100, tl_120, tl_140, tl_180, tl_220, tl_240, tl_260, tl_280, tl_300, tl_540, tl_780, tl_1020, tl_1180, tl_1190, tl_1200, tl_1220, tl_m1] at *
    omega
theorem vc_FBO_makeItems_ix35_3 (S : hS) (x1 : Int32) (x2 : Int32) (x3 : Int32) (x4 : Int32) (hJ : wfC S ∧ lp x4 x3) (c2 : ¬ (x3 ≤ x4)) : vp_in x4 240 := by
    have k0 := hJ.2
    have wa := hJ.1.1
    have wb := hJ.1.2.1
    have wg := hJ.1.2.2.1
    have wp := hJ.1.2.2.2.1
    have wq := hJ.1.2.2.2.2.1
    have wr := hJ.1.2.2.2.2.2.2.2
    simp only [rg, bt, lp, vp_rg, Int32.lt_iff_toInt_lt, Int32.le_iff_toInt_le, Int64.lt_iff_toInt_lt, Int64.le_iff_toInt_le, l32, sI_2, tq_0, tq_1, tq_2, tq_6, tq_8, tq_10, tq_20, tq_30, tq_40, tl_0, tl_1, tl_2, tl_3, tl_4, tl_5, tl_6, tl_8, tl_10, tl_14, tl_20, tl_24, tl_30, tl_40, tl_50, tl_60, tl_70, tl_80, tl_100, tl_120, tl_140, tl_180, tl_220, tl_240, tl_260, tl_280, tl_300, tl_540, tl_780, tl_1020, tl_1180, tl_1190, tl_1200, tl_1220, tl_m1] at *
    omega
theorem vc_FBO_makeItems_inv20_5 (S : hS) (x1 : Int32) (x2 : Int32) (x3 : Int32) (x4 : Int32) (hJ : wfC S ∧ lp x4 x3) (c2 : ¬ (x3 ≤ x4)) (c4 : (S.2 16 x4.toNatClampNeg) ≤ 0) : wfC S ∧ lp (x4 + 1) x3 := ⟨hJ.1, (by
    have k0 := hJ.2
    have wa := hJ.1.1
    have wb := hJ.1.2.1
    have wg := hJ.1.2.2.1
    have wp := hJ.1.2.2.2.1
    have wq := hJ.1.2.2.2.2.1
    have wr := hJ.1.2.2.2.2.2.2.2
    simp only [rg, bt, lp, vp_rg, Int32.lt_iff_toInt_lt, Int32.le_iff_toInt_le, Int64.lt_iff_toInt_lt, Int64.le_iff_toInt_le, l32, sI_2, tq_0, tq_1, tq_2, tq_6, tq_8, tq_10, tq_20, tq_30, tq_40, tl_0, tl_1, tl_2, tl_3, tl_4, tl_5, tl_6, tl_8, tl_10, tl_14, tl_20, tl_24, tl_30, tl_40, tl_50, tl_60, tl_70, tl_80, tl_100, tl_120, tl_140, tl_180, tl_220, tl_240, tl_260, tl_280, tl_300, tl_540, tl_780, tl_1020, tl_1180, tl_1190, tl_1200, tl_1220, tl_m1] at *
    have t0 : (x4 + 1).toInt = ((x4).toInt + 1) := (ti_add (a := (x4)) (b := (1 : Int32)) rfl tl_1 (by omega) (by omega))
    omega)⟩
theorem vc_FBO_makeItems_mu20_6 (S : hS) (x1 : Int32) (x2 : Int32) (x3 : Int32) (x4 : Int32) (hJ : wfC S ∧ lp x4 x3) (c2 : ¬ (x3 ≤ x4)) (c4 : (S.2 16 x4.toNatClampNeg) ≤ 0) : ((x3.toInt - (x4 + 1).toInt).toNat) < ((x3.toInt - x4.toInt).toNat) := by
    have k0 := hJ.2
    have wa := hJ.1.1
    have wb := hJ.1.2.1
    have wg := hJ.1.2.2.1
    have wp := hJ.1.2.2.2.1
    have wq := hJ.1.2.2.2.2.1
    have wr := hJ.1.2.2.2.2.2.2.2
    simp only [rg, bt, lp, vp_rg, Int32.lt_iff_toInt_lt, Int32.le_iff_toInt_le, Int64.lt_iff_toInt_lt, Int64.le_iff_toInt_le, l32, sI_2, tq_0, tq_1, tq_2, tq_6, tq_8, tq_10, tq_20, tq_30, tq_40, tl_0, tl_1, tl_2, tl_3, tl_4, tl_5, tl_6, tl_8, tl_10, tl_14, tl_20, tl_24, tl_30, tl_40, tl_50, tl_60, tl_70, tl_80, tl_100, tl_120, tl_140, tl_180, tl_220, tl_240, tl_260, tl_280, tl_300, tl_540, tl_780, tl_1020, tl_1180, tl_1190, tl_1200, tl_1220, tl_m1] at *
    have t0 : (x4 + 1).toInt = ((x4).toInt + 1) := (ti_add (a := (x4)) (b := (1 : Int32)) rfl tl_1 (by omega) (by omega))
    omega
theorem vc_FBO_makeItems_ix54_7 (S : hS) (x1 : Int32) (x2 : Int32) (x3 : Int32) (x4 : Int32) (hJ : wfC S ∧ lp x4 x3) (c2 : ¬ (x3 ≤ x4)) (c4 : ¬ ((S.2 16 x4.toNatClampNeg) ≤ 0)) : vp_in x4 240 := by
    have k0 := hJ.2
    have wa := hJ.1.1
    have wb := hJ.1.2.1
    have wg := hJ.1.2.2.1
    have wp := hJ.1.2.2.2.1
    have wq := hJ.1.2.2.2.2.1
    have wr := hJ.1.2.2.2.2.2.2.2
    simp only [rg, bt, lp, vp_rg, Int32.lt_iff_toInt_lt, Int32.le_iff_toInt_le, Int64.lt_iff_toInt_lt, Int64.le_iff_toInt_le, l32, sI_2, tq_0, tq_1, tq_2, tq_6, tq_8, tq_10, tq_20, tq_30, tq_40, tl_0, tl_1, tl_2, tl_3, tl_4, tl_5, tl_6, tl_8, tl_10, tl_14, tl_20, tl_24, tl_30, tl_40, tl_50, tl_60, tl_70, tl_80, tl_100, tl_120, tl_140, tl_180, tl_220, tl_240, tl_260, tl_280, tl_300, tl_540, tl_780, tl_1020, tl_1180, tl_1190, tl_1200, tl_1220, tl_m1] at *
    omega
theorem vc_FBO_makeItems_pre55_8 (S : hS) (x1 : Int32) (x2 : Int32) (x3 : Int32) (x4 : Int32) (hJ : wfC S ∧ lp x4 x3) (c2 : ¬ (x3 ≤ x4)) (c4 : ¬ ((S.2 16 x4.toNatClampNeg) ≤ 0)) : wfC S := hJ.1
theorem vc_FBO_makeItems_inv20_10 (S : hS) (x1 : Int32) (x2 : Int32) (x3 : Int32) (x4 : Int32) (hJ : wfC S ∧ lp x4 x3) (c2 : ¬ (x3 ≤ x4)) (c4 : ¬ ((S.2 16 x4.toNatClampNeg) ≤ 0)) (c9 : (FAC_hasHousehold S (S.1 15 x4.toNatClampNeg)) = 0) : wfC S ∧ lp (x4 + 1) x3 := ⟨hJ.1, (by
    have k0 := hJ.2
    have wa := hJ.1.1
    have wb := hJ.1.2.1
    have wg := hJ.1.2.2.1
    have wp := hJ.1.2.2.2.1
    have wq := hJ.1.2.2.2.2.1
    have wr := hJ.1.2.2.2.2.2.2.2
    simp only [rg, bt, lp, vp_rg, Int32.lt_iff_toInt_lt, Int32.le_iff_toInt_le, Int64.lt_iff_toInt_lt, Int64.le_iff_toInt_le, l32, sI_2, tq_0, tq_1, tq_2, tq_6, tq_8, tq_10, tq_20, tq_30, tq_40, tl_0, tl_1, tl_2, tl_3, tl_4, tl_5, tl_6, tl_8, tl_10, tl_14, tl_20, tl_24, tl_30, tl_40, tl_50, tl_60, tl_70, tl_80, tl_100, tl_120, tl_140, tl_180, tl_220, tl_240, tl_260, tl_280, tl_300, tl_540, tl_780, tl_1020, tl_1180, tl_1190, tl_1200, tl_1220, tl_m1] at *
    have t0 : (x4 + 1).toInt = ((x4).toInt + 1) := (ti_add (a := (x4)) (b := (1 : Int32)) rfl tl_1 (by omega) (by omega))
    omega)⟩
theorem vc_FBO_makeItems_mu20_11 (S : hS) (x1 : Int32) (x2 : Int32) (x3 : Int32) (x4 : Int32) (hJ : wfC S ∧ lp x4 x3) (c2 : ¬ (x3 ≤ x4)) (c4 : ¬ ((S.2 16 x4.toNatClampNeg) ≤ 0)) (c9 : (FAC_hasHousehold S (S.1 15 x4.toNatClampNeg)) = 0) : ((x3.toInt - (x4 + 1).toInt).toNat) < ((x3.toInt - x4.toInt).toNat) := by
    have k0 := hJ.2
    have wa := hJ.1.1
    have wb := hJ.1.2.1
    have wg := hJ.1.2.2.1
    have wp := hJ.1.2.2.2.1
    have wq := hJ.1.2.2.2.2.1
    have wr := hJ.1.2.2.2.2.2.2.2
    simp only [rg, bt, lp, vp_rg, Int32.lt_iff_toInt_lt, Int32.le_iff_toInt_le, Int64.lt_iff_toInt_lt, Int64.le_iff_toInt_le, l32, sI_2, tq_0, tq_1, tq_2, tq_6, tq_8, tq_10, tq_20, tq_30, tq_40, tl_0, tl_1, tl_2, tl_3, tl_4, tl_5, tl_6, tl_8, tl_10, tl_14, tl_20, tl_24, tl_30, tl_40, tl_50, tl_60, tl_70, tl_80, tl_100, tl_120, tl_140, tl_180, tl_220, tl_240, tl_260, tl_280, tl_300, tl_540, tl_780, tl_1020, tl_1180, tl_1190, tl_1200, tl_1220, tl_m1] at *
    have t0 : (x4 + 1).toInt = ((x4).toInt + 1) := (ti_add (a := (x4)) (b := (1 : Int32)) rfl tl_1 (by omega) (by omega))
    omega
theorem vc_FBO_makeItems_ix79_12 (S : hS) (x1 : Int32) (x2 : Int32) (x3 : Int32) (x4 : Int32) (hJ : wfC S ∧ lp x4 x3) (c2 : ¬ (x3 ≤ x4)) (c4 : ¬ ((S.2 16 x4.toNatClampNeg) ≤ 0)) (c9 : ¬ ((FAC_hasHousehold S (S.1 15 x4.toNatClampNeg)) = 0)) : vp_in x4 240 := by
    have k0 := hJ.2
    have wa := hJ.1.1
    have wb := hJ.1.2.1
    have wg := hJ.1.2.2.1
    have wp := hJ.1.2.2.2.1
    have wq := hJ.1.2.2.2.2.1
    have wr := hJ.1.2.2.2.2.2.2.2
    have k1 := hhC hJ.1 c9
    simp only [rg, bt, lp, vp_rg, Int32.lt_iff_toInt_lt, Int32.le_iff_toInt_le, Int64.lt_iff_toInt_lt, Int64.le_iff_toInt_le, l32, sI_2, tq_0, tq_1, tq_2, tq_6, tq_8, tq_10, tq_20, tq_30, tq_40, tl_0, tl_1, tl_2, tl_3, tl_4, tl_5, tl_6, tl_8, tl_10, tl_14, tl_20, tl_24, tl_30, tl_40, tl_50, tl_60, tl_70, tl_80, tl_100, tl_120, tl_140, tl_180, tl_220, tl_240, tl_260, tl_280, tl_300, tl_540, tl_780, tl_1020, tl_1180, tl_1190, tl_1200, tl_1220, tl_m1] at *
    omega
theorem vc_FBO_makeItems_ix80_13 (S : hS) (x1 : Int32) (x2 : Int32) (x3 : Int32) (x4 : Int32) (hJ : wfC S ∧ lp x4 x3) (c2 : ¬ (x3 ≤ x4)) (c4 : ¬ ((S.2 16 x4.toNatClampNeg) ≤ 0)) (c9 : ¬ ((FAC_hasHousehold S (S.1 15 x4.toNatClampNeg)) = 0)) : vp_in x4 240 := by
    have k0 := hJ.2
    have wa := hJ.1.1
    have wb := hJ.1.2.1
    have wg := hJ.1.2.2.1
    have wp := hJ.1.2.2.2.1
    have wq := hJ.1.2.2.2.2.1
    have wr := hJ.1.2.2.2.2.2.2.2
    have k1 := hhC hJ.1 c9
    simp only [rg, bt, lp, vp_rg, Int32.lt_iff_toInt_lt, Int32.le_iff_toInt_le, Int64.lt_iff_toInt_lt, Int64.le_iff_toInt_le, l32, sI_2, tq_0, tq_1, tq_2, tq_6, tq_8, tq_10, tq_20, tq_30, tq_40, tl_0, tl_1, tl_2, tl_3, tl_4, tl_5, tl_6, tl_8, tl_10, tl_14, tl_20, tl_24, tl_30, tl_40, tl_50, tl_60, tl_70, tl_80, tl_100, tl_120, tl_140, tl_180, tl_220, tl_240, tl_260, tl_280, tl_300, tl_540, tl_780, tl_1020, tl_1180, tl_1190, tl_1200, tl_1220, tl_m1] at *
    omega
theorem vc_FBO_makeItems_inv20_14 (S : hS) (x1 : Int32) (x2 : Int32) (x3 : Int32) (x4 : Int32) (hJ : wfC S ∧ lp x4 x3) (c2 : ¬ (x3 ≤ x4)) (c4 : ¬ ((S.2 16 x4.toNatClampNeg) ≤ 0)) (c9 : ¬ ((FAC_hasHousehold S (S.1 15 x4.toNatClampNeg)) = 0)) : wfC (sL S 17 x4.toNatClampNeg (S.2 16 x4.toNatClampNeg)) ∧ lp (x4 + 1) x3 := ⟨(wfC_L hJ.1 (by decide)), (by
    have k0 := hJ.2
    have wa := hJ.1.1
    have wb := hJ.1.2.1
    have wg := hJ.1.2.2.1
    have wp := hJ.1.2.2.2.1
    have wq := hJ.1.2.2.2.2.1
    have wr := hJ.1.2.2.2.2.2.2.2
    have k1 := hhC hJ.1 c9
    simp only [rg, bt, lp, vp_rg, Int32.lt_iff_toInt_lt, Int32.le_iff_toInt_le, Int64.lt_iff_toInt_lt, Int64.le_iff_toInt_le, l32, sI_2, tq_0, tq_1, tq_2, tq_6, tq_8, tq_10, tq_20, tq_30, tq_40, tl_0, tl_1, tl_2, tl_3, tl_4, tl_5, tl_6, tl_8, tl_10, tl_14, tl_20, tl_24, tl_30, tl_40, tl_50, tl_60, tl_70, tl_80, tl_100, tl_120, tl_140, tl_180, tl_220, tl_240, tl_260, tl_280, tl_300, tl_540, tl_780, tl_1020, tl_1180, tl_1190, tl_1200, tl_1220, tl_m1] at *
    have t0 : (x4 + 1).toInt = ((x4).toInt + 1) := (ti_add (a := (x4)) (b := (1 : Int32)) rfl tl_1 (by omega) (by omega))
    omega)⟩
theorem vc_FBO_makeItems_mu20_15 (S : hS) (x1 : Int32) (x2 : Int32) (x3 : Int32) (x4 : Int32) (hJ : wfC S ∧ lp x4 x3) (c2 : ¬ (x3 ≤ x4)) (c4 : ¬ ((S.2 16 x4.toNatClampNeg) ≤ 0)) (c9 : ¬ ((FAC_hasHousehold S (S.1 15 x4.toNatClampNeg)) = 0)) : ((x3.toInt - (x4 + 1).toInt).toNat) < ((x3.toInt - x4.toInt).toNat) := by
    have k0 := hJ.2
    have wa := hJ.1.1
    have wb := hJ.1.2.1
    have wg := hJ.1.2.2.1
    have wp := hJ.1.2.2.2.1
    have wq := hJ.1.2.2.2.2.1
    have wr := hJ.1.2.2.2.2.2.2.2
    have k1 := hhC hJ.1 c9
    simp only [rg, bt, lp, vp_rg, Int32.lt_iff_toInt_lt, Int32.le_iff_toInt_le, Int64.lt_iff_toInt_lt, Int64.le_iff_toInt_le, l32, sI_2, tq_0, tq_1, tq_2, tq_6, tq_8, tq_10, tq_20, tq_30, tq_40, tl_0, tl_1, tl_2, tl_3, tl_4, tl_5, tl_6, tl_8, tl_10, tl_14, tl_20, tl_24, tl_30, tl_40, tl_50, tl_60, tl_70, tl_80, tl_100, tl_120, tl_140, tl_180, tl_220, tl_240, tl_260, tl_280, tl_300, tl_540, tl_780, tl_1020, tl_1180, tl_1190, tl_1200, tl_1220, tl_m1] at *
    have t0 : (x4 + 1).toInt = ((x4).toInt + 1) := (ti_add (a := (x4)) (b := (1 : Int32)) rfl tl_1 (by omega) (by omega))
    omega
theorem vc_FBO_makeItems_inv020_17 (S : hS) (x1 : Int32) (hp : wfC S ∧ rg x1 40) : wfC S ∧ lp (x1 * 6) ((x1 * 6) + (S.1 13 x1.toNatClampNeg)) := ⟨hp.1, (by
    have k0 := hp.2
    have wa := hp.1.1
    have wb := hp.1.2.1
    have wg := hp.1.2.2.1
    have wp := hp.1.2.2.2.1
    have wq := hp.1.2.2.2.2.1
    have wr := hp.1.2.2.2.2.2.2.2
    simp only [rg, bt, lp, vp_rg, Int32.lt_iff_toInt_lt, Int32.le_iff_toInt_le, Int64.lt_iff_toInt_lt, Int64.le_iff_toInt_le, l32, sI_2, tq_0, tq_1, tq_2, tq_6, tq_8, tq_10, tq_20, tq_30, tq_40, tl_0, tl_1, tl_2, tl_3, tl_4, tl_5, tl_6, tl_8, tl_10, tl_14, tl_20, tl_24, tl_30, tl_40, tl_50, tl_60, tl_70, tl_80, tl_100, tl_120, tl_140, tl_180, tl_220, tl_240, tl_260, tl_280, tl_300, tl_540, tl_780, tl_1020, tl_1180, tl_1190, tl_1200, tl_1220, tl_m1] at *
    have k1 := wfC_r hp.1 (x := x1) (by omega) (by omega)
    simp only [bt] at k1
    have t0 : (x1 * 6).toInt = ((x1).toInt * 6) := (ti_mul (a := (x1)) (b := (6 : Int32)) rfl tl_6 (by omega) (by omega))
    have t1 : ((x1 * 6) + (S.1 13 x1.toNatClampNeg)).toInt = (((x1).toInt * 6) + (S.1 13 x1.toNatClampNeg).toInt) := (ti_add (a := (x1 * 6)) (b := (S.1 13 x1.toNatClampNeg)) (ti_mul (a := (x1)) (b := (6 : Int32)) rfl tl_6 (by omega) (by omega)) rfl (by omega) (by omega))
    omega)⟩
theorem vc_FBO_makeItems_mu020_18 (S : hS) (x1 : Int32) (hp : wfC S ∧ rg x1 40) : ((((x1 * 6) + (S.1 13 x1.toNatClampNeg)).toInt - (x1 * 6).toInt).toNat) < 300 := by
    have k0 := hp.2
    have wa := hp.1.1
    have wb := hp.1.2.1
    have wg := hp.1.2.2.1
    have wp := hp.1.2.2.2.1
    have wq := hp.1.2.2.2.2.1
    have wr := hp.1.2.2.2.2.2.2.2
    simp only [rg, bt, lp, vp_rg, Int32.lt_iff_toInt_lt, Int32.le_iff_toInt_le, Int64.lt_iff_toInt_lt, Int64.le_iff_toInt_le, l32, sI_2, tq_0, tq_1, tq_2, tq_6, tq_8, tq_10, tq_20, tq_30, tq_40, tl_0, tl_1, tl_2, tl_3, tl_4, tl_5, tl_6, tl_8, tl_10, tl_14, tl_20, tl_24, tl_30, tl_40, tl_50, tl_60, tl_70, tl_80, tl_100, tl_120, tl_140, tl_180, tl_220, tl_240, tl_260, tl_280, tl_300, tl_540, tl_780, tl_1020, tl_1180, tl_1190, tl_1200, tl_1220, tl_m1] at *
    have k1 := wfC_r hp.1 (x := x1) (by omega) (by omega)
    simp only [bt] at k1
    have t0 : ((x1 * 6) + (S.1 13 x1.toNatClampNeg)).toInt = (((x1).toInt * 6) + (S.1 13 x1.toNatClampNeg).toInt) := (ti_add (a := (x1 * 6)) (b := (S.1 13 x1.toNatClampNeg)) (ti_mul (a := (x1)) (b := (6 : Int32)) rfl tl_6 (by omega) (by omega)) rfl (by omega) (by omega))
    have t1 : (x1 * 6).toInt = ((x1).toInt * 6) := (ti_mul (a := (x1)) (b := (6 : Int32)) rfl tl_6 (by omega) (by omega))
    omega
theorem vc_FHL_close_pre10_1 (S : hS) (x1 : Int32) (hp : wfC S ∧ (FJO_isOpen S x1 = 0 ∨ FBO_isUnclosedDay S ((S.1 11 x1.toNatClampNeg).toInt64) = 0 ∨ FJO_sumOf S x1 = 0)) : wfC S := hp.1
theorem vc_FHL_close_ix25_3 (S : hS) (x1 : Int32) (hp : wfC S ∧ (FJO_isOpen S x1 = 0 ∨ FBO_isUnclosedDay S ((S.1 11 x1.toNatClampNeg).toInt64) = 0 ∨ FJO_sumOf S x1 = 0)) (c2 : ¬ ((FJO_isOpen S x1) = 0)) : vp_in x1 40 := by
    have k0 := hp.2
    have wa := hp.1.1
    have wb := hp.1.2.1
    have wg := hp.1.2.2.1
    have wp := hp.1.2.2.2.1
    have wq := hp.1.2.2.2.2.1
    have wr := hp.1.2.2.2.2.2.2.2
    have k1 := opC hp.1 c2
    simp only [rg, bt, lp, vp_rg, Int32.lt_iff_toInt_lt, Int32.le_iff_toInt_le, Int64.lt_iff_toInt_lt, Int64.le_iff_toInt_le, l32, sI_2, tq_0, tq_1, tq_2, tq_6, tq_8, tq_10, tq_20, tq_30, tq_40, tl_0, tl_1, tl_2, tl_3, tl_4, tl_5, tl_6, tl_8, tl_10, tl_14, tl_20, tl_24, tl_30, tl_40, tl_50, tl_60, tl_70, tl_80, tl_100, tl_120, tl_140, tl_180, tl_220, tl_240, tl_260, tl_280, tl_300, tl_540, tl_780, tl_1020, tl_1180, tl_1190, tl_1200, tl_1220, tl_m1] at *
    omega
theorem vc_FHL_close_pre27_4 (S : hS) (x1 : Int32) (hp : wfC S ∧ (FJO_isOpen S x1 = 0 ∨ FBO_isUnclosedDay S ((S.1 11 x1.toNatClampNeg).toInt64) = 0 ∨ FJO_sumOf S x1 = 0)) (c2 : ¬ ((FJO_isOpen S x1) = 0)) : wfC S := hp.1
theorem vc_FHL_close_pre37_6 (S : hS) (x1 : Int32) (hp : wfC S ∧ (FJO_isOpen S x1 = 0 ∨ FBO_isUnclosedDay S ((S.1 11 x1.toNatClampNeg).toInt64) = 0 ∨ FJO_sumOf S x1 = 0)) (c2 : ¬ ((FJO_isOpen S x1) = 0)) (c5 : ¬ ((FBO_isUnclosedDay S ((S.1 11 x1.toNatClampNeg).toInt64)) = 0)) : wfC S ∧ rg x1 40 := ⟨hp.1, (by
    have k0 := hp.2
    have wa := hp.1.1
    have wb := hp.1.2.1
    have wg := hp.1.2.2.1
    have wp := hp.1.2.2.2.1
    have wq := hp.1.2.2.2.2.1
    have wr := hp.1.2.2.2.2.2.2.2
    have k1 := opC hp.1 c2
    simp only [rg, bt, lp, vp_rg, Int32.lt_iff_toInt_lt, Int32.le_iff_toInt_le, Int64.lt_iff_toInt_lt, Int64.le_iff_toInt_le, l32, sI_2, tq_0, tq_1, tq_2, tq_6, tq_8, tq_10, tq_20, tq_30, tq_40, tl_0, tl_1, tl_2, tl_3, tl_4, tl_5, tl_6, tl_8, tl_10, tl_14, tl_20, tl_24, tl_30, tl_40, tl_50, tl_60, tl_70, tl_80, tl_100, tl_120, tl_140, tl_180, tl_220, tl_240, tl_260, tl_280, tl_300, tl_540, tl_780, tl_1020, tl_1180, tl_1190, tl_1200, tl_1220, tl_m1] at *
    omega)⟩
theorem vc_FHL_close_ix61_8 (S : hS) (x1 : Int32) (hp : wfC S ∧ (FJO_isOpen S x1 = 0 ∨ FBO_isUnclosedDay S ((S.1 11 x1.toNatClampNeg).toInt64) = 0 ∨ FJO_sumOf S x1 = 0)) (c2 : ¬ ((FJO_isOpen S x1) = 0)) (c5 : ¬ ((FBO_isUnclosedDay S ((S.1 11 x1.toNatClampNeg).toInt64)) = 0)) (c7 : (FJO_sumOf S x1) = 0) : vp_in x1 40 := by
    have k0 := hp.2
    have wa := hp.1.1
    have wb := hp.1.2.1
    have wg := hp.1.2.2.1
    have wp := hp.1.2.2.2.1
    have wq := hp.1.2.2.2.2.1
    have wr := hp.1.2.2.2.2.2.2.2
    have k1 := opC hp.1 c2
    simp only [rg, bt, lp, vp_rg, Int32.lt_iff_toInt_lt, Int32.le_iff_toInt_le, Int64.lt_iff_toInt_lt, Int64.le_iff_toInt_le, l32, sI_2, tq_0, tq_1, tq_2, tq_6, tq_8, tq_10, tq_20, tq_30, tq_40, tl_0, tl_1, tl_2, tl_3, tl_4, tl_5, tl_6, tl_8, tl_10, tl_14, tl_20, tl_24, tl_30, tl_40, tl_50, tl_60, tl_70, tl_80, tl_100, tl_120, tl_140, tl_180, tl_220, tl_240, tl_260, tl_280, tl_300, tl_540, tl_780, tl_1020, tl_1180, tl_1190, tl_1200, tl_1220, tl_m1] at *
    omega
theorem vc_FHL_close_pre67_9 (S : hS) (x1 : Int32) (hp : wfC S ∧ (FJO_isOpen S x1 = 0 ∨ FBO_isUnclosedDay S ((S.1 11 x1.toNatClampNeg).toInt64) = 0 ∨ FJO_sumOf S x1 = 0)) (c2 : ¬ ((FJO_isOpen S x1) = 0)) (c5 : ¬ ((FBO_isUnclosedDay S ((S.1 11 x1.toNatClampNeg).toInt64)) = 0)) (c7 : (FJO_sumOf S x1) = 0) : wfC (sI S 12 x1.toNatClampNeg 1) ∧ rg x1 40 := ⟨(wfC_I hp.1 (by decide)), (by
    have k0 := hp.2
    have wa := hp.1.1
    have wb := hp.1.2.1
    have wg := hp.1.2.2.1
    have wp := hp.1.2.2.2.1
    have wq := hp.1.2.2.2.2.1
    have wr := hp.1.2.2.2.2.2.2.2
    have k1 := opC hp.1 c2
    simp only [rg, bt, lp, vp_rg, Int32.lt_iff_toInt_lt, Int32.le_iff_toInt_le, Int64.lt_iff_toInt_lt, Int64.le_iff_toInt_le, l32, sI_2, tq_0, tq_1, tq_2, tq_6, tq_8, tq_10, tq_20, tq_30, tq_40, tl_0, tl_1, tl_2, tl_3, tl_4, tl_5, tl_6, tl_8, tl_10, tl_14, tl_20, tl_24, tl_30, tl_40, tl_50, tl_60, tl_70, tl_80, tl_100, tl_120, tl_140, tl_180, tl_220, tl_240, tl_260, tl_280, tl_300, tl_540, tl_780, tl_1020, tl_1180, tl_1190, tl_1200, tl_1220, tl_m1] at *
    omega)⟩
theorem vc_FHL_close_ix75_10 (S : hS) (x1 : Int32) (hp : wfC S ∧ (FJO_isOpen S x1 = 0 ∨ FBO_isUnclosedDay S ((S.1 11 x1.toNatClampNeg).toInt64) = 0 ∨ FJO_sumOf S x1 = 0)) (c2 : ¬ ((FJO_isOpen S x1) = 0)) (c5 : ¬ ((FBO_isUnclosedDay S ((S.1 11 x1.toNatClampNeg).toInt64)) = 0)) (c7 : (FJO_sumOf S x1) = 0) : vp_in x1 40 := by
    have k0 := hp.2
    have wa := hp.1.1
    have wb := hp.1.2.1
    have wg := hp.1.2.2.1
    have wp := hp.1.2.2.2.1
    have wq := hp.1.2.2.2.2.1
    have wr := hp.1.2.2.2.2.2.2.2
    have k1 := opC hp.1 c2
    simp only [rg, bt, lp, vp_rg, Int32.lt_iff_toInt_lt, Int32.le_iff_toInt_le, Int64.lt_iff_toInt_lt, Int64.le_iff_toInt_le, l32, sI_2, tq_0, tq_1, tq_2, tq_6, tq_8, tq_10, tq_20, tq_30, tq_40, tl_0, tl_1, tl_2, tl_3, tl_4, tl_5, tl_6, tl_8, tl_10, tl_14, tl_20, tl_24, tl_30, tl_40, tl_50, tl_60, tl_70, tl_80, tl_100, tl_120, tl_140, tl_180, tl_220, tl_240, tl_260, tl_280, tl_300, tl_540, tl_780, tl_1020, tl_1180, tl_1190, tl_1200, tl_1220, tl_m1] at *
    omega
theorem vc_FHL_close_no45_11 (S : hS) (x1 : Int32) (hp : wfC S ∧ (FJO_isOpen S x1 = 0 ∨ FBO_isUnclosedDay S ((S.1 11 x1.toNatClampNeg).toInt64) = 0 ∨ FJO_sumOf S x1 = 0)) (c2 : ¬ ((FJO_isOpen S x1) = 0)) (c5 : ¬ ((FBO_isUnclosedDay S ((S.1 11 x1.toNatClampNeg).toInt64)) = 0)) (c7 : ¬ ((FJO_sumOf S x1) = 0)) : False := by
    rcases hp.2 with h | h | h
    all_goals contradiction
theorem vc_FJO_isPostedRow_ix10_1 (S : hS) (x1 : Int32) (x2 : Int32) (hp : wfC S ∧ rg x1 240) : vp_in (x1 / 6) 40 := by
    have k0 := hp.2
    have wa := hp.1.1
    have wb := hp.1.2.1
    have wg := hp.1.2.2.1
    have wp := hp.1.2.2.2.1
    have wq := hp.1.2.2.2.2.1
    have wr := hp.1.2.2.2.2.2.2.2
    simp only [rg, bt, lp, vp_rg, Int32.lt_iff_toInt_lt, Int32.le_iff_toInt_le, Int64.lt_iff_toInt_lt, Int64.le_iff_toInt_le, l32, sI_2, tq_0, tq_1, tq_2, tq_6, tq_8, tq_10, tq_20, tq_30, tq_40, tl_0, tl_1, tl_2, tl_3, tl_4, tl_5, tl_6, tl_8, tl_10, tl_14, tl_20, tl_24, tl_30, tl_40, tl_50, tl_60, tl_70, tl_80, tl_100, tl_120, tl_140, tl_180, tl_220, tl_240, tl_260, tl_280, tl_300, tl_540, tl_780, tl_1020, tl_1180, tl_1190, tl_1200, tl_1220, tl_m1] at *
    have t0 : (x1 / 6).toInt = ((x1).toInt / 6) := (ti_div (a := (x1)) (b := (6 : Int32)) rfl tl_6 (by omega) (by omega))
    omega
theorem vc_FJO_isPostedRow_ix23_3 (S : hS) (x1 : Int32) (x2 : Int32) (hp : wfC S ∧ rg x1 240) (c2 : ¬ ((S.1 12 ((x1 / 6).toNatClampNeg)) = 0)) : vp_in (x1 / 6) 40 := by
    have k0 := hp.2
    have wa := hp.1.1
    have wb := hp.1.2.1
    have wg := hp.1.2.2.1
    have wp := hp.1.2.2.2.1
    have wq := hp.1.2.2.2.2.1
    have wr := hp.1.2.2.2.2.2.2.2
    simp only [rg, bt, lp, vp_rg, Int32.lt_iff_toInt_lt, Int32.le_iff_toInt_le, Int64.lt_iff_toInt_lt, Int64.le_iff_toInt_le, l32, sI_2, tq_0, tq_1, tq_2, tq_6, tq_8, tq_10, tq_20, tq_30, tq_40, tl_0, tl_1, tl_2, tl_3, tl_4, tl_5, tl_6, tl_8, tl_10, tl_14, tl_20, tl_24, tl_30, tl_40, tl_50, tl_60, tl_70, tl_80, tl_100, tl_120, tl_140, tl_180, tl_220, tl_240, tl_260, tl_280, tl_300, tl_540, tl_780, tl_1020, tl_1180, tl_1190, tl_1200, tl_1220, tl_m1] at *
    have t0 : (x1 / 6).toInt = ((x1).toInt / 6) := (ti_div (a := (x1)) (b := (6 : Int32)) rfl tl_6 (by omega) (by omega))
    omega
theorem vc_FJO_isPostedRow_ix32_5 (S : hS) (x1 : Int32) (x2 : Int32) (hp : wfC S ∧ rg x1 240) (c2 : ¬ ((S.1 12 ((x1 / 6).toNatClampNeg)) = 0)) (c4 : ¬ ((S.1 13 ((x1 / 6).toNatClampNeg)) ≤ (x1 - x1 / 6 * 6))) : vp_in x1 240 := by
    have k0 := hp.2
    have wa := hp.1.1
    have wb := hp.1.2.1
    have wg := hp.1.2.2.1
    have wp := hp.1.2.2.2.1
    have wq := hp.1.2.2.2.2.1
    have wr := hp.1.2.2.2.2.2.2.2
    simp only [rg, bt, lp, vp_rg, Int32.lt_iff_toInt_lt, Int32.le_iff_toInt_le, Int64.lt_iff_toInt_lt, Int64.le_iff_toInt_le, l32, sI_2, tq_0, tq_1, tq_2, tq_6, tq_8, tq_10, tq_20, tq_30, tq_40, tl_0, tl_1, tl_2, tl_3, tl_4, tl_5, tl_6, tl_8, tl_10, tl_14, tl_20, tl_24, tl_30, tl_40, tl_50, tl_60, tl_70, tl_80, tl_100, tl_120, tl_140, tl_180, tl_220, tl_240, tl_260, tl_280, tl_300, tl_540, tl_780, tl_1020, tl_1180, tl_1190, tl_1200, tl_1220, tl_m1] at *
    have k1 : (x1 - x1 / 6 * 6).toInt = ((x1).toInt - (((x1).toInt / 6) * 6)) := (ti_sub (a := (x1)) (b := (x1 / 6 * 6)) rfl (ti_mul (a := (x1 / 6)) (b := (6 : Int32)) (ti_div (a := (x1)) (b := (6 : Int32)) rfl tl_6 (by omega) (by omega)) tl_6 (by omega) (by omega)) (by omega) (by omega))
    omega
theorem vc_FJO_sumUntil_ix30_2 (S : hS) (x1 : Int32) (x2 : Int32) (x3 : Int64) (x5 : Int32) (x6 : Int32) (hJ : wfC S ∧ lp x6 x5) (c1 : ¬ (x5 ≤ x6)) : vp_in (x6 / 6) 40 := by
    have k0 := hJ.2
    have wa := hJ.1.1
    have wb := hJ.1.2.1
    have wg := hJ.1.2.2.1
    have wp := hJ.1.2.2.2.1
    have wq := hJ.1.2.2.2.2.1
    have wr := hJ.1.2.2.2.2.2.2.2
    simp only [rg, bt, lp, vp_rg, Int32.lt_iff_toInt_lt, Int32.le_iff_toInt_le, Int64.lt_iff_toInt_lt, Int64.le_iff_toInt_le, l32, sI_2, tq_0, tq_1, tq_2, tq_6, tq_8, tq_10, tq_20, tq_30, tq_40, tl_0, tl_1, tl_2, tl_3, tl_4, tl_5, tl_6, tl_8, tl_10, tl_14, tl_20, tl_24, tl_30, tl_40, tl_50, tl_60, tl_70, tl_80, tl_100, tl_120, tl_140, tl_180, tl_220, tl_240, tl_260, tl_280, tl_300, tl_540, tl_780, tl_1020, tl_1180, tl_1190, tl_1200, tl_1220, tl_m1] at *
    have t0 : (x6 / 6).toInt = ((x6).toInt / 6) := (ti_div (a := (x6)) (b := (6 : Int32)) rfl tl_6 (by omega) (by omega))
    omega
theorem vc_FJO_sumUntil_inv14_4 (S : hS) (x1 : Int32) (x2 : Int32) (x3 : Int64) (x5 : Int32) (x6 : Int32) (hJ : wfC S ∧ lp x6 x5) (c1 : ¬ (x5 ≤ x6)) (c3 : x2 < (S.1 11 ((x6 / 6).toNatClampNeg))) : wfC S ∧ lp (x6 + 1) x5 := ⟨hJ.1, (by
    have k0 := hJ.2
    have wa := hJ.1.1
    have wb := hJ.1.2.1
    have wg := hJ.1.2.2.1
    have wp := hJ.1.2.2.2.1
    have wq := hJ.1.2.2.2.2.1
    have wr := hJ.1.2.2.2.2.2.2.2
    simp only [rg, bt, lp, vp_rg, Int32.lt_iff_toInt_lt, Int32.le_iff_toInt_le, Int64.lt_iff_toInt_lt, Int64.le_iff_toInt_le, l32, sI_2, tq_0, tq_1, tq_2, tq_6, tq_8, tq_10, tq_20, tq_30, tq_40, tl_0, tl_1, tl_2, tl_3, tl_4, tl_5, tl_6, tl_8, tl_10, tl_14, tl_20, tl_24, tl_30, tl_40, tl_50, tl_60, tl_70, tl_80, tl_100, tl_120, tl_140, tl_180, tl_220, tl_240, tl_260, tl_280, tl_300, tl_540, tl_780, tl_1020, tl_1180, tl_1190, tl_1200, tl_1220, tl_m1] at *
    have t0 : (x6 + 1).toInt = ((x6).toInt + 1) := (ti_add (a := (x6)) (b := (1 : Int32)) rfl tl_1 (by omega) (by omega))
    omega)⟩
theorem vc_FJO_sumUntil_mu14_5 (S : hS) (x1 : Int32) (x2 : Int32) (x3 : Int64) (x5 : Int32) (x6 : Int32) (hJ : wfC S ∧ lp x6 x5) (c1 : ¬ (x5 ≤ x6)) (c3 : x2 < (S.1 11 ((x6 / 6).toNatClampNeg))) : ((x5.toInt - (x6 + 1).toInt).toNat) < ((x5.toInt - x6.toInt).toNat) := by
    have k0 := hJ.2
    have wa := hJ.1.1
    have wb := hJ.1.2.1
    have wg := hJ.1.2.2.1
    have wp := hJ.1.2.2.2.1
    have wq := hJ.1.2.2.2.2.1
    have wr := hJ.1.2.2.2.2.2.2.2
    simp only [rg, bt, lp, vp_rg, Int32.lt_iff_toInt_lt, Int32.le_iff_toInt_le, Int64.lt_iff_toInt_lt, Int64.le_iff_toInt_le, l32, sI_2, tq_0, tq_1, tq_2, tq_6, tq_8, tq_10, tq_20, tq_30, tq_40, tl_0, tl_1, tl_2, tl_3, tl_4, tl_5, tl_6, tl_8, tl_10, tl_14, tl_20, tl_24, tl_30, tl_40, tl_50, tl_60, tl_70, tl_80, tl_100, tl_120, tl_140, tl_180, tl_220, tl_240, tl_260, tl_280, tl_300, tl_540, tl_780, tl_1020, tl_1180, tl_1190, tl_1200, tl_1220, tl_m1] at *
    have t0 : (x6 + 1).toInt = ((x6).toInt + 1) := (ti_add (a := (x6)) (b := (1 : Int32)) rfl tl_1 (by omega) (by omega))
    omega
theorem vc_FJO_sumUntil_pre39_6 (S : hS) (x1 : Int32) (x2 : Int32) (x3 : Int64) (x5 : Int32) (x6 : Int32) (hJ : wfC S ∧ lp x6 x5) (c1 : ¬ (x5 ≤ x6)) (c3 : ¬ (x2 < (S.1 11 ((x6 / 6).toNatClampNeg)))) : wfC S ∧ rg x6 240 := ⟨hJ.1, (by
    have k0 := hJ.2
    have wa := hJ.1.1
    have wb := hJ.1.2.1
    have wg := hJ.1.2.2.1
    have wp := hJ.1.2.2.2.1
    have wq := hJ.1.2.2.2.2.1
    have wr := hJ.1.2.2.2.2.2.2.2
    simp only [rg, bt, lp, vp_rg, Int32.lt_iff_toInt_lt, Int32.le_iff_toInt_le, Int64.lt_iff_toInt_lt, Int64.le_iff_toInt_le, l32, sI_2, tq_0, tq_1, tq_2, tq_6, tq_8, tq_10, tq_20, tq_30, tq_40, tl_0, tl_1, tl_2, tl_3, tl_4, tl_5, tl_6, tl_8, tl_10, tl_14, tl_20, tl_24, tl_30, tl_40, tl_50, tl_60, tl_70, tl_80, tl_100, tl_120, tl_140, tl_180, tl_220, tl_240, tl_260, tl_280, tl_300, tl_540, tl_780, tl_1020, tl_1180, tl_1190, tl_1200, tl_1220, tl_m1] at *
    omega)⟩
theorem vc_FJO_sumUntil_inv14_8 (S : hS) (x1 : Int32) (x2 : Int32) (x3 : Int64) (x5 : Int32) (x6 : Int32) (hJ : wfC S ∧ lp x6 x5) (c1 : ¬ (x5 ≤ x6)) (c3 : ¬ (x2 < (S.1 11 ((x6 / 6).toNatClampNeg)))) (c7 : (FJO_isPostedRow S x6 x1) = 0) : wfC S ∧ lp (x6 + 1) x5 := ⟨hJ.1, (by
    have k0 := hJ.2
    have wa := hJ.1.1
    have wb := hJ.1.2.1
    have wg := hJ.1.2.2.1
    have wp := hJ.1.2.2.2.1
    have wq := hJ.1.2.2.2.2.1
    have wr := hJ.1.2.2.2.2.2.2.2
    simp only [rg, bt, lp, vp_rg, Int32.lt_iff_toInt_lt, Int32.le_iff_toInt_le, Int64.lt_iff_toInt_lt, Int64.le_iff_toInt_le, l32, sI_2, tq_0, tq_1, tq_2, tq_6, tq_8, tq_10, tq_20, tq_30, tq_40, tl_0, tl_1, tl_2, tl_3, tl_4, tl_5, tl_6, tl_8, tl_10, tl_14, tl_20, tl_24, tl_30, tl_40, tl_50, tl_60, tl_70, tl_80, tl_100, tl_120, tl_140, tl_180, tl_220, tl_240, tl_260, tl_280, tl_300, tl_540, tl_780, tl_1020, tl_1180, tl_1190, tl_1200, tl_1220, tl_m1] at *
    have t0 : (x6 + 1).toInt = ((x6).toInt + 1) := (ti_add (a := (x6)) (b := (1 : Int32)) rfl tl_1 (by omega) (by omega))
    omega)⟩
theorem vc_FJO_sumUntil_mu14_9 (S : hS) (x1 : Int32) (x2 : Int32) (x3 : Int64) (x5 : Int32) (x6 : Int32) (hJ : wfC S ∧ lp x6 x5) (c1 : ¬ (x5 ≤ x6)) (c3 : ¬ (x2 < (S.1 11 ((x6 / 6).toNatClampNeg)))) (c7 : (FJO_isPostedRow S x6 x1) = 0) : ((x5.toInt - (x6 + 1).toInt).toNat) < ((x5.toInt - x6.toInt).toNat) := by
    have k0 := hJ.2
    have wa := hJ.1.1
    have wb := hJ.1.2.1
    have wg := hJ.1.2.2.1
    have wp := hJ.1.2.2.2.1
    have wq := hJ.1.2.2.2.2.1
    have wr := hJ.1.2.2.2.2.2.2.2
    simp only [rg, bt, lp, vp_rg, Int32.lt_iff_toInt_lt, Int32.le_iff_toInt_le, Int64.lt_iff_toInt_lt, Int64.le_iff_toInt_le, l32, sI_2, tq_0, tq_1, tq_2, tq_6, tq_8, tq_10, tq_20, tq_30, tq_40, tl_0, tl_1, tl_2, tl_3, tl_4, tl_5, tl_6, tl_8, tl_10, tl_14, tl_20, tl_24, tl_30, tl_40, tl_50, tl_60, tl_70, tl_80, tl_100, tl_120, tl_140, tl_180, tl_220, tl_240, tl_260, tl_280, tl_300, tl_540, tl_780, tl_1020, tl_1180, tl_1190, tl_1200, tl_1220, tl_m1] at *
    have t0 : (x6 + 1).toInt = ((x6).toInt + 1) := (ti_add (a := (x6)) (b := (1 : Int32)) rfl tl_1 (by omega) (by omega))
    omega
theorem vc_FJO_sumUntil_ix52_10 (S : hS) (x1 : Int32) (x2 : Int32) (x3 : Int64) (x5 : Int32) (x6 : Int32) (hJ : wfC S ∧ lp x6 x5) (c1 : ¬ (x5 ≤ x6)) (c3 : ¬ (x2 < (S.1 11 ((x6 / 6).toNatClampNeg)))) (c7 : ¬ ((FJO_isPostedRow S x6 x1) = 0)) : vp_in x6 240 := by
    have k0 := hJ.2
    have wa := hJ.1.1
    have wb := hJ.1.2.1
    have wg := hJ.1.2.2.1
    have wp := hJ.1.2.2.2.1
    have wq := hJ.1.2.2.2.2.1
    have wr := hJ.1.2.2.2.2.2.2.2
    simp only [rg, bt, lp, vp_rg, Int32.lt_iff_toInt_lt, Int32.le_iff_toInt_le, Int64.lt_iff_toInt_lt, Int64.le_iff_toInt_le, l32, sI_2, tq_0, tq_1, tq_2, tq_6, tq_8, tq_10, tq_20, tq_30, tq_40, tl_0, tl_1, tl_2, tl_3, tl_4, tl_5, tl_6, tl_8, tl_10, tl_14, tl_20, tl_24, tl_30, tl_40, tl_50, tl_60, tl_70, tl_80, tl_100, tl_120, tl_140, tl_180, tl_220, tl_240, tl_260, tl_280, tl_300, tl_540, tl_780, tl_1020, tl_1180, tl_1190, tl_1200, tl_1220, tl_m1] at *
    omega
theorem vc_FJO_sumUntil_inv14_11 (S : hS) (x1 : Int32) (x2 : Int32) (x3 : Int64) (x5 : Int32) (x6 : Int32) (hJ : wfC S ∧ lp x6 x5) (c1 : ¬ (x5 ≤ x6)) (c3 : ¬ (x2 < (S.1 11 ((x6 / 6).toNatClampNeg)))) (c7 : ¬ ((FJO_isPostedRow S x6 x1) = 0)) : wfC S ∧ lp (x6 + 1) x5 := ⟨hJ.1, (by
    have k0 := hJ.2
    have wa := hJ.1.1
    have wb := hJ.1.2.1
    have wg := hJ.1.2.2.1
    have wp := hJ.1.2.2.2.1
    have wq := hJ.1.2.2.2.2.1
    have wr := hJ.1.2.2.2.2.2.2.2
    simp only [rg, bt, lp, vp_rg, Int32.lt_iff_toInt_lt, Int32.le_iff_toInt_le, Int64.lt_iff_toInt_lt, Int64.le_iff_toInt_le, l32, sI_2, tq_0, tq_1, tq_2, tq_6, tq_8, tq_10, tq_20, tq_30, tq_40, tl_0, tl_1, tl_2, tl_3, tl_4, tl_5, tl_6, tl_8, tl_10, tl_14, tl_20, tl_24, tl_30, tl_40, tl_50, tl_60, tl_70, tl_80, tl_100, tl_120, tl_140, tl_180, tl_220, tl_240, tl_260, tl_280, tl_300, tl_540, tl_780, tl_1020, tl_1180, tl_1190, tl_1200, tl_1220, tl_m1] at *
    have t0 : (x6 + 1).toInt = ((x6).toInt + 1) := (ti_add (a := (x6)) (b := (1 : Int32)) rfl tl_1 (by omega) (by omega))
    omega)⟩
theorem vc_FJO_sumUntil_mu14_12 (S : hS) (x1 : Int32) (x2 : Int32) (x3 : Int64) (x5 : Int32) (x6 : Int32) (hJ : wfC S ∧ lp x6 x5) (c1 : ¬ (x5 ≤ x6)) (c3 : ¬ (x2 < (S.1 11 ((x6 / 6).toNatClampNeg)))) (c7 : ¬ ((FJO_isPostedRow S x6 x1) = 0)) : ((x5.toInt - (x6 + 1).toInt).toNat) < ((x5.toInt - x6.toInt).toNat) := by
    have k0 := hJ.2
    have wa := hJ.1.1
    have wb := hJ.1.2.1
    have wg := hJ.1.2.2.1
    have wp := hJ.1.2.2.2.1
    have wq := hJ.1.2.2.2.2.1
    have wr := hJ.1.2.2.2.2.2.2.2
    simp only [rg, bt, lp, vp_rg, Int32.lt_iff_toInt_lt, Int32.le_iff_toInt_le, Int64.lt_iff_toInt_lt, Int64.le_iff_toInt_le, l32, sI_2, tq_0, tq_1, tq_2, tq_6, tq_8, tq_10, tq_20, tq_30, tq_40, tl_0, tl_1, tl_2, tl_3, tl_4, tl_5, tl_6, tl_8, tl_10, tl_14, tl_20, tl_24, tl_30, tl_40, tl_50, tl_60, tl_70, tl_80, tl_100, tl_120, tl_140, tl_180, tl_220, tl_240, tl_260, tl_280, tl_300, tl_540, tl_780, tl_1020, tl_1180, tl_1190, tl_1200, tl_1220, tl_m1] at *
    have t0 : (x6 + 1).toInt = ((x6).toInt + 1) := (ti_add (a := (x6)) (b := (1 : Int32)) rfl tl_1 (by omega) (by omega))
    omega
theorem vc_FJO_sumUntil_inv014_14 (S : hS) (x1 : Int32) (x2 : Int32) (hp : wfC S) : wfC S ∧ lp (0 : Int32) ((S.1 10 0) * 6) := ⟨hp, (by
    have wa := hp.1
    have wb := hp.2.1
    have wg := hp.2.2.1
    have wp := hp.2.2.2.1
    have wq := hp.2.2.2.2.1
    have wr := hp.2.2.2.2.2.2.2
    simp only [rg, bt, lp, vp_rg, Int32.lt_iff_toInt_lt, Int32.le_iff_toInt_le, Int64.lt_iff_toInt_lt, Int64.le_iff_toInt_le, l32, sI_2, tq_0, tq_1, tq_2, tq_6, tq_8, tq_10, tq_20, tq_30, tq_40, tl_0, tl_1, tl_2, tl_3, tl_4, tl_5, tl_6, tl_8, tl_10, tl_14, tl_20, tl_24, tl_30, tl_40, tl_50, tl_60, tl_70, tl_80, tl_100, tl_120, tl_140, tl_180, tl_220, tl_240, tl_260, tl_280, tl_300, tl_540, tl_780, tl_1020, tl_1180, tl_1190, tl_1200, tl_1220, tl_m1] at *
    have t0 : (0 : Int32).toInt = 0 := tl_0
    have t1 : ((S.1 10 0) * 6).toInt = ((S.1 10 0).toInt * 6) := (ti_mul (a := (S.1 10 0)) (b := (6 : Int32)) rfl tl_6 (by omega) (by omega))
    omega)⟩
theorem vc_FJO_sumUntil_mu014_15 (S : hS) (x1 : Int32) (x2 : Int32) (hp : wfC S) : ((((S.1 10 0) * 6).toInt - (0 : Int32).toInt).toNat) < 300 := by
    have wa := hp.1
    have wb := hp.2.1
    have wg := hp.2.2.1
    have wp := hp.2.2.2.1
    have wq := hp.2.2.2.2.1
    have wr := hp.2.2.2.2.2.2.2
    simp only [rg, bt, lp, vp_rg, Int32.lt_iff_toInt_lt, Int32.le_iff_toInt_le, Int64.lt_iff_toInt_lt, Int64.le_iff_toInt_le, l32, sI_2, tq_0, tq_1, tq_2, tq_6, tq_8, tq_10, tq_20, tq_30, tq_40, tl_0, tl_1, tl_2, tl_3, tl_4, tl_5, tl_6, tl_8, tl_10, tl_14, tl_20, tl_24, tl_30, tl_40, tl_50, tl_60, tl_70, tl_80, tl_100, tl_120, tl_140, tl_180, tl_220, tl_240, tl_260, tl_280, tl_300, tl_540, tl_780, tl_1020, tl_1180, tl_1190, tl_1200, tl_1220, tl_m1] at *
    have t0 : ((S.1 10 0) * 6).toInt = ((S.1 10 0).toInt * 6) := (ti_mul (a := (S.1 10 0)) (b := (6 : Int32)) rfl tl_6 (by omega) (by omega))
    have t1 : (0 : Int32).toInt = 0 := tl_0
    omega
theorem vc_FHL_balance_pre8_1 (S : hS) (x1 : Int32) (x2 : Int64) (hp : wfC S) : wfC S := hp
theorem vc_FHL_balance_pre33_4 (S : hS) (x1 : Int32) (x2 : Int64) (hp : wfC S) (c2 : ¬ ((FAC_has S x1) = 0)) (c3 : ¬ ((FHL_isDay S x2) = 0)) : wfC S := hp
theorem vc_FAC_firstCash_ix15_2 (S : hS) (x1 : Int32) (hJ : wfC S ∧ 0 ≤ x1.toInt) (c1 : ¬ ((S.1 2 0) ≤ x1)) : vp_in x1 8 := by
    have k0 := hJ.2
    have wa := hJ.1.1
    have wb := hJ.1.2.1
    have wg := hJ.1.2.2.1
    have wp := hJ.1.2.2.2.1
    have wq := hJ.1.2.2.2.2.1
    have wr := hJ.1.2.2.2.2.2.2.2
    simp only [rg, bt, lp, vp_rg, Int32.lt_iff_toInt_lt, Int32.le_iff_toInt_le, Int64.lt_iff_toInt_lt, Int64.le_iff_toInt_le, l32, sI_2, tq_0, tq_1, tq_2, tq_6, tq_8, tq_10, tq_20, tq_30, tq_40, tl_0, tl_1, tl_2, tl_3, tl_4, tl_5, tl_6, tl_8, tl_10, tl_14, tl_20, tl_24, tl_30, tl_40, tl_50, tl_60, tl_70, tl_80, tl_100, tl_120, tl_140, tl_180, tl_220, tl_240, tl_260, tl_280, tl_300, tl_540, tl_780, tl_1020, tl_1180, tl_1190, tl_1200, tl_1220, tl_m1] at *
    omega
theorem vc_FAC_firstCash_inv2_4 (S : hS) (x1 : Int32) (hJ : wfC S ∧ 0 ≤ x1.toInt) (c1 : ¬ ((S.1 2 0) ≤ x1)) (c3 : ¬ ((S.1 3 x1.toNatClampNeg) = 0)) : wfC S ∧ 0 ≤ (x1 + 1).toInt := ⟨hJ.1, (by
    have k0 := hJ.2
    have wa := hJ.1.1
    have wb := hJ.1.2.1
    have wg := hJ.1.2.2.1
    have wp := hJ.1.2.2.2.1
    have wq := hJ.1.2.2.2.2.1
    have wr := hJ.1.2.2.2.2.2.2.2
    simp only [rg, bt, lp, vp_rg, Int32.lt_iff_toInt_lt, Int32.le_iff_toInt_le, Int64.lt_iff_toInt_lt, Int64.le_iff_toInt_le, l32, sI_2, tq_0, tq_1, tq_2, tq_6, tq_8, tq_10, tq_20, tq_30, tq_40, tl_0, tl_1, tl_2, tl_3, tl_4, tl_5, tl_6, tl_8, tl_10, tl_14, tl_20, tl_24, tl_30, tl_40, tl_50, tl_60, tl_70, tl_80, tl_100, tl_120, tl_140, tl_180, tl_220, tl_240, tl_260, tl_280, tl_300, tl_540, tl_780, tl_1020, tl_1180, tl_1190, tl_1200, tl_1220, tl_m1] at *
    have t0 : (x1 + 1).toInt = ((x1).toInt + 1) := (ti_add (a := (x1)) (b := (1 : Int32)) rfl tl_1 (by omega) (by omega))
    omega)⟩
theorem vc_FAC_firstCash_mu2_5 (S : hS) (x1 : Int32) (hJ : wfC S ∧ 0 ≤ x1.toInt) (c1 : ¬ ((S.1 2 0) ≤ x1)) (c3 : ¬ ((S.1 3 x1.toNatClampNeg) = 0)) : (((S.1 2 0).toInt - (x1 + 1).toInt).toNat) < (((S.1 2 0).toInt - x1.toInt).toNat) := by
    have k0 := hJ.2
    have wa := hJ.1.1
    have wb := hJ.1.2.1
    have wg := hJ.1.2.2.1
    have wp := hJ.1.2.2.2.1
    have wq := hJ.1.2.2.2.2.1
    have wr := hJ.1.2.2.2.2.2.2.2
    simp only [rg, bt, lp, vp_rg, Int32.lt_iff_toInt_lt, Int32.le_iff_toInt_le, Int64.lt_iff_toInt_lt, Int64.le_iff_toInt_le, l32, sI_2, tq_0, tq_1, tq_2, tq_6, tq_8, tq_10, tq_20, tq_30, tq_40, tl_0, tl_1, tl_2, tl_3, tl_4, tl_5, tl_6, tl_8, tl_10, tl_14, tl_20, tl_24, tl_30, tl_40, tl_50, tl_60, tl_70, tl_80, tl_100, tl_120, tl_140, tl_180, tl_220, tl_240, tl_260, tl_280, tl_300, tl_540, tl_780, tl_1020, tl_1180, tl_1190, tl_1200, tl_1220, tl_m1] at *
    have t1 : (x1 + 1).toInt = ((x1).toInt + 1) := (ti_add (a := (x1)) (b := (1 : Int32)) rfl tl_1 (by omega) (by omega))
    omega
theorem vc_FAC_firstCash_inv02_7 (S : hS) (hp : wfC S) : wfC S ∧ 0 ≤ (0 : Int32).toInt := ⟨hp, (by
    have wa := hp.1
    have wb := hp.2.1
    have wg := hp.2.2.1
    have wp := hp.2.2.2.1
    have wq := hp.2.2.2.2.1
    have wr := hp.2.2.2.2.2.2.2
    simp only [rg, bt, lp, vp_rg, Int32.lt_iff_toInt_lt, Int32.le_iff_toInt_le, Int64.lt_iff_toInt_lt, Int64.le_iff_toInt_le, l32, sI_2, tq_0, tq_1, tq_2, tq_6, tq_8, tq_10, tq_20, tq_30, tq_40, tl_0, tl_1, tl_2, tl_3, tl_4, tl_5, tl_6, tl_8, tl_10, tl_14, tl_20, tl_24, tl_30, tl_40, tl_50, tl_60, tl_70, tl_80, tl_100, tl_120, tl_140, tl_180, tl_220, tl_240, tl_260, tl_280, tl_300, tl_540, tl_780, tl_1020, tl_1180, tl_1190, tl_1200, tl_1220, tl_m1] at *
    have t0 : (0 : Int32).toInt = 0 := tl_0
    omega)⟩
theorem vc_FAC_firstCash_mu02_8 (S : hS) (hp : wfC S) : (((S.1 2 0).toInt - (0 : Int32).toInt).toNat) < 300 := by
    have wa := hp.1
    have wb := hp.2.1
    have wg := hp.2.2.1
    have wp := hp.2.2.2.1
    have wq := hp.2.2.2.2.1
    have wr := hp.2.2.2.2.2.2.2
    simp only [rg, bt, lp, vp_rg, Int32.lt_iff_toInt_lt, Int32.le_iff_toInt_le, Int64.lt_iff_toInt_lt, Int64.le_iff_toInt_le, l32, sI_2, tq_0, tq_1, tq_2, tq_6, tq_8, tq_10, tq_20, tq_30, tq_40, tl_0, tl_1, tl_2, tl_3, tl_4, tl_5, tl_6, tl_8, tl_10, tl_14, tl_20, tl_24, tl_30, tl_40, tl_50, tl_60, tl_70, tl_80, tl_100, tl_120, tl_140, tl_180, tl_220, tl_240, tl_260, tl_280, tl_300, tl_540, tl_780, tl_1020, tl_1180, tl_1190, tl_1200, tl_1220, tl_m1] at *
    have t1 : (0 : Int32).toInt = 0 := tl_0
    omega
theorem vc_FJO_itemAt_ix8_1 (S : hS) (x1 : Int32) (x2 : Int32) (hp : wfC S ∧ rg x1 240) : vp_in (x1 / 6) 40 := by
    have k0 := hp.2
    have wa := hp.1.1
    have wb := hp.1.2.1
    have wg := hp.1.2.2.1
    have wp := hp.1.2.2.2.1
    have wq := hp.1.2.2.2.2.1
    have wr := hp.1.2.2.2.2.2.2.2
    simp only [rg, bt, lp, vp_rg, Int32.lt_iff_toInt_lt, Int32.le_iff_toInt_le, Int64.lt_iff_toInt_lt, Int64.le_iff_toInt_le, l32, sI_2, tq_0, tq_1, tq_2, tq_6, tq_8, tq_10, tq_20, tq_30, tq_40, tl_0, tl_1, tl_2, tl_3, tl_4, tl_5, tl_6, tl_8, tl_10, tl_14, tl_20, tl_24, tl_30, tl_40, tl_50, tl_60, tl_70, tl_80, tl_100, tl_120, tl_140, tl_180, tl_220, tl_240, tl_260, tl_280, tl_300, tl_540, tl_780, tl_1020, tl_1180, tl_1190, tl_1200, tl_1220, tl_m1] at *
    have t0 : (x1 / 6).toInt = ((x1).toInt / 6) := (ti_div (a := (x1)) (b := (6 : Int32)) rfl tl_6 (by omega) (by omega))
    omega
theorem vc_FJO_itemAt_ix32_2 (S : hS) (x1 : Int32) (x2 : Int32) (hp : wfC S ∧ rg x1 240) : vp_in (S.1 14 ((x1 / 6).toNatClampNeg)) 40 := by
    have k0 := hp.2
    have wa := hp.1.1
    have wb := hp.1.2.1
    have wg := hp.1.2.2.1
    have wp := hp.1.2.2.2.1
    have wq := hp.1.2.2.2.2.1
    have wr := hp.1.2.2.2.2.2.2.2
    simp only [rg, bt, lp, vp_rg, Int32.lt_iff_toInt_lt, Int32.le_iff_toInt_le, Int64.lt_iff_toInt_lt, Int64.le_iff_toInt_le, l32, sI_2, tq_0, tq_1, tq_2, tq_6, tq_8, tq_10, tq_20, tq_30, tq_40, tl_0, tl_1, tl_2, tl_3, tl_4, tl_5, tl_6, tl_8, tl_10, tl_14, tl_20, tl_24, tl_30, tl_40, tl_50, tl_60, tl_70, tl_80, tl_100, tl_120, tl_140, tl_180, tl_220, tl_240, tl_260, tl_280, tl_300, tl_540, tl_780, tl_1020, tl_1180, tl_1190, tl_1200, tl_1220, tl_m1] at *
    have k1 := wfC_b hp.1 (x := (x1 / 6)) (by rw [(ti_div (a := (x1)) (b := (6 : Int32)) rfl tl_6 (by omega) (by omega))]; omega) (by rw [(ti_div (a := (x1)) (b := (6 : Int32)) rfl tl_6 (by omega) (by omega))]; omega)
    simp only [rg] at k1
    omega
theorem vc_FJO_itemAt_ix42_4 (S : hS) (x1 : Int32) (x2 : Int32) (hp : wfC S ∧ rg x1 240) (c3 : ¬ ((S.1 13 ((S.1 14 ((x1 / 6).toNatClampNeg)).toNatClampNeg)) ≤ (x1 - x1 / 6 * 6))) : vp_in (((S.1 14 ((x1 / 6).toNatClampNeg)) * 6) + (x1 - x1 / 6 * 6)) 240 := by
    have k0 := hp.2
    have wa := hp.1.1
    have wb := hp.1.2.1
    have wg := hp.1.2.2.1
    have wp := hp.1.2.2.2.1
    have wq := hp.1.2.2.2.2.1
    have wr := hp.1.2.2.2.2.2.2.2
    simp only [rg, bt, lp, vp_rg, Int32.lt_iff_toInt_lt, Int32.le_iff_toInt_le, Int64.lt_iff_toInt_lt, Int64.le_iff_toInt_le, l32, sI_2, tq_0, tq_1, tq_2, tq_6, tq_8, tq_10, tq_20, tq_30, tq_40, tl_0, tl_1, tl_2, tl_3, tl_4, tl_5, tl_6, tl_8, tl_10, tl_14, tl_20, tl_24, tl_30, tl_40, tl_50, tl_60, tl_70, tl_80, tl_100, tl_120, tl_140, tl_180, tl_220, tl_240, tl_260, tl_280, tl_300, tl_540, tl_780, tl_1020, tl_1180, tl_1190, tl_1200, tl_1220, tl_m1] at *
    have k1 : (x1 - x1 / 6 * 6).toInt = ((x1).toInt - (((x1).toInt / 6) * 6)) := (ti_sub (a := (x1)) (b := (x1 / 6 * 6)) rfl (ti_mul (a := (x1 / 6)) (b := (6 : Int32)) (ti_div (a := (x1)) (b := (6 : Int32)) rfl tl_6 (by omega) (by omega)) tl_6 (by omega) (by omega)) (by omega) (by omega))
    have k2 := wfC_b hp.1 (x := (x1 / 6)) (by rw [(ti_div (a := (x1)) (b := (6 : Int32)) rfl tl_6 (by omega) (by omega))]; omega) (by rw [(ti_div (a := (x1)) (b := (6 : Int32)) rfl tl_6 (by omega) (by omega))]; omega)
    simp only [rg] at k2
    have t0 : (((S.1 14 ((x1 / 6).toNatClampNeg)) * 6) + (x1 - x1 / 6 * 6)).toInt = (((S.1 14 ((x1 / 6).toNatClampNeg)).toInt * 6) + ((x1).toInt - (((x1).toInt / 6) * 6))) := (ti_add (a := ((S.1 14 ((x1 / 6).toNatClampNeg)) * 6)) (b := (x1 - x1 / 6 * 6)) (ti_mul (a := (S.1 14 ((x1 / 6).toNatClampNeg))) (b := (6 : Int32)) rfl tl_6 (by omega) (by omega)) (ti_sub (a := (x1)) (b := (x1 / 6 * 6)) rfl (ti_mul (a := (x1 / 6)) (b := (6 : Int32)) (ti_div (a := (x1)) (b := (6 : Int32)) rfl tl_6 (by omega) (by omega)) tl_6 (by omega) (by omega)) (by omega) (by omega)) (by omega) (by omega))
    omega
theorem vc_FJO_itemAt_ix55_6 (S : hS) (x1 : Int32) (x2 : Int32) (hp : wfC S ∧ rg x1 240) (c3 : ¬ ((S.1 13 ((S.1 14 ((x1 / 6).toNatClampNeg)).toNatClampNeg)) ≤ (x1 - x1 / 6 * 6))) (c5 : (S.1 15 ((((S.1 14 ((x1 / 6).toNatClampNeg)) * 6) + (x1 - x1 / 6 * 6)).toNatClampNeg)) = x2) : vp_in (((S.1 14 ((x1 / 6).toNatClampNeg)) * 6) + (x1 - x1 / 6 * 6)) 240 := by
    have k0 := hp.2
    have wa := hp.1.1
    have wb := hp.1.2.1
    have wg := hp.1.2.2.1
    have wp := hp.1.2.2.2.1
    have wq := hp.1.2.2.2.2.1
    have wr := hp.1.2.2.2.2.2.2.2
    simp only [rg, bt, lp, vp_rg, Int32.lt_iff_toInt_lt, Int32.le_iff_toInt_le, Int64.lt_iff_toInt_lt, Int64.le_iff_toInt_le, l32, sI_2, tq_0, tq_1, tq_2, tq_6, tq_8, tq_10, tq_20, tq_30, tq_40, tl_0, tl_1, tl_2, tl_3, tl_4, tl_5, tl_6, tl_8, tl_10, tl_14, tl_20, tl_24, tl_30, tl_40, tl_50, tl_60, tl_70, tl_80, tl_100, tl_120, tl_140, tl_180, tl_220, tl_240, tl_260, tl_280, tl_300, tl_540, tl_780, tl_1020, tl_1180, tl_1190, tl_1200, tl_1220, tl_m1] at *
    have k1 : (x1 - x1 / 6 * 6).toInt = ((x1).toInt - (((x1).toInt / 6) * 6)) := (ti_sub (a := (x1)) (b := (x1 / 6 * 6)) rfl (ti_mul (a := (x1 / 6)) (b := (6 : Int32)) (ti_div (a := (x1)) (b := (6 : Int32)) rfl tl_6 (by omega) (by omega)) tl_6 (by omega) (by omega)) (by omega) (by omega))
    have k2 := wfC_b hp.1 (x := (x1 / 6)) (by rw [(ti_div (a := (x1)) (b := (6 : Int32)) rfl tl_6 (by omega) (by omega))]; omega) (by rw [(ti_div (a := (x1)) (b := (6 : Int32)) rfl tl_6 (by omega) (by omega))]; omega)
    simp only [rg] at k2
    have t0 : (((S.1 14 ((x1 / 6).toNatClampNeg)) * 6) + (x1 - x1 / 6 * 6)).toInt = (((S.1 14 ((x1 / 6).toNatClampNeg)).toInt * 6) + ((x1).toInt - (((x1).toInt / 6) * 6))) := (ti_add (a := ((S.1 14 ((x1 / 6).toNatClampNeg)) * 6)) (b := (x1 - x1 / 6 * 6)) (ti_mul (a := (S.1 14 ((x1 / 6).toNatClampNeg))) (b := (6 : Int32)) rfl tl_6 (by omega) (by omega)) (ti_sub (a := (x1)) (b := (x1 / 6 * 6)) rfl (ti_mul (a := (x1 / 6)) (b := (6 : Int32)) (ti_div (a := (x1)) (b := (6 : Int32)) rfl tl_6 (by omega) (by omega)) tl_6 (by omega) (by omega)) (by omega) (by omega)) (by omega) (by omega))
    omega
theorem vc_FJO_keepGift_ix19_2 (S : hS) (x1 : Int32) (x2 : Int32) (hp : wfC S) (c1 : ¬ (280 ≤ (S.1 10 8))) : vp_in (S.1 10 8) 280 := by
    have wa := hp.1
    have wb := hp.2.1
    have wg := hp.2.2.1
    have wp := hp.2.2.2.1
    have wq := hp.2.2.2.2.1
    have wr := hp.2.2.2.2.2.2.2
    simp only [rg, bt, lp, vp_rg, Int32.lt_iff_toInt_lt, Int32.le_iff_toInt_le, Int64.lt_iff_toInt_lt, Int64.le_iff_toInt_le, l32, sI_2, tq_0, tq_1, tq_2, tq_6, tq_8, tq_10, tq_20, tq_30, tq_40, tl_0, tl_1, tl_2, tl_3, tl_4, tl_5, tl_6, tl_8, tl_10, tl_14, tl_20, tl_24, tl_30, tl_40, tl_50, tl_60, tl_70, tl_80, tl_100, tl_120, tl_140, tl_180, tl_220, tl_240, tl_260, tl_280, tl_300, tl_540, tl_780, tl_1020, tl_1180, tl_1190, tl_1200, tl_1220, tl_m1] at *
    omega
theorem vc_FJO_keepGift_ix29_3 (S : hS) (x1 : Int32) (x2 : Int32) (hp : wfC S) (c1 : ¬ (280 ≤ (S.1 10 8))) : vp_in (S.1 10 8) 280 := by
    have wa := hp.1
    have wb := hp.2.1
    have wg := hp.2.2.1
    have wp := hp.2.2.2.1
    have wq := hp.2.2.2.2.1
    have wr := hp.2.2.2.2.2.2.2
    simp only [rg, bt, lp, vp_rg, Int32.lt_iff_toInt_lt, Int32.le_iff_toInt_le, Int64.lt_iff_toInt_lt, Int64.le_iff_toInt_le, l32, sI_2, tq_0, tq_1, tq_2, tq_6, tq_8, tq_10, tq_20, tq_30, tq_40, tl_0, tl_1, tl_2, tl_3, tl_4, tl_5, tl_6, tl_8, tl_10, tl_14, tl_20, tl_24, tl_30, tl_40, tl_50, tl_60, tl_70, tl_80, tl_100, tl_120, tl_140, tl_180, tl_220, tl_240, tl_260, tl_280, tl_300, tl_540, tl_780, tl_1020, tl_1180, tl_1190, tl_1200, tl_1220, tl_m1] at *
    omega
theorem vc_FJO_payItems_pre33_3 (S : hS) (x1 : Int32) (x2 : Int32) (x3 : Int64) (x5 : Int64) (x7 : Int32) (x8 : Int32) (hJ : wfC S ∧ lp x8 x7) (c1 : ¬ (x7 ≤ x8)) (c2 : ¬ (x5 ≤ 0)) : wfC S ∧ rg x8 240 := ⟨hJ.1, (by
    have k0 := hJ.2
    have wa := hJ.1.1
    have wb := hJ.1.2.1
    have wg := hJ.1.2.2.1
    have wp := hJ.1.2.2.2.1
    have wq := hJ.1.2.2.2.2.1
    have wr := hJ.1.2.2.2.2.2.2.2
    simp only [rg, bt, lp, vp_rg, Int32.lt_iff_toInt_lt, Int32.le_iff_toInt_le, Int64.lt_iff_toInt_lt, Int64.le_iff_toInt_le, l32, sI_2, tq_0, tq_1, tq_2, tq_6, tq_8, tq_10, tq_20, tq_30, tq_40, tl_0, tl_1, tl_2, tl_3, tl_4, tl_5, tl_6, tl_8, tl_10, tl_14, tl_20, tl_24, tl_30, tl_40, tl_50, tl_60, tl_70, tl_80, tl_100, tl_120, tl_140, tl_180, tl_220, tl_240, tl_260, tl_280, tl_300, tl_540, tl_780, tl_1020, tl_1180, tl_1190, tl_1200, tl_1220, tl_m1] at *
    omega)⟩
theorem vc_FJO_payItems_inv15_5 (S : hS) (x1 : Int32) (x2 : Int32) (x3 : Int64) (x5 : Int64) (x7 : Int32) (x8 : Int32) (hJ : wfC S ∧ lp x8 x7) (c1 : ¬ (x7 ≤ x8)) (c2 : ¬ (x5 ≤ 0)) (c4 : (FJO_itemAt S x8 x2) = (-1)) : wfC S ∧ lp (x8 + 1) x7 := ⟨hJ.1, (by
    have k0 := hJ.2
    have wa := hJ.1.1
    have wb := hJ.1.2.1
    have wg := hJ.1.2.2.1
    have wp := hJ.1.2.2.2.1
    have wq := hJ.1.2.2.2.2.1
    have wr := hJ.1.2.2.2.2.2.2.2
    simp only [rg, bt, lp, vp_rg, Int32.lt_iff_toInt_lt, Int32.le_iff_toInt_le, Int64.lt_iff_toInt_lt, Int64.le_iff_toInt_le, l32, sI_2, tq_0, tq_1, tq_2, tq_6, tq_8, tq_10, tq_20, tq_30, tq_40, tl_0, tl_1, tl_2, tl_3, tl_4, tl_5, tl_6, tl_8, tl_10, tl_14, tl_20, tl_24, tl_30, tl_40, tl_50, tl_60, tl_70, tl_80, tl_100, tl_120, tl_140, tl_180, tl_220, tl_240, tl_260, tl_280, tl_300, tl_540, tl_780, tl_1020, tl_1180, tl_1190, tl_1200, tl_1220, tl_m1] at *
    have t0 : (x8 + 1).toInt = ((x8).toInt + 1) := (ti_add (a := (x8)) (b := (1 : Int32)) rfl tl_1 (by omega) (by omega))
    omega)⟩
theorem vc_FJO_payItems_mu15_6 (S : hS) (x1 : Int32) (x2 : Int32) (x3 : Int64) (x5 : Int64) (x7 : Int32) (x8 : Int32) (hJ : wfC S ∧ lp x8 x7) (c1 : ¬ (x7 ≤ x8)) (c2 : ¬ (x5 ≤ 0)) (c4 : (FJO_itemAt S x8 x2) = (-1)) : ((x7.toInt - (x8 + 1).toInt).toNat) < ((x7.toInt - x8.toInt).toNat) := by
    have k0 := hJ.2
    have wa := hJ.1.1
    have wb := hJ.1.2.1
    have wg := hJ.1.2.2.1
    have wp := hJ.1.2.2.2.1
    have wq := hJ.1.2.2.2.2.1
    have wr := hJ.1.2.2.2.2.2.2.2
    simp only [rg, bt, lp, vp_rg, Int32.lt_iff_toInt_lt, Int32.le_iff_toInt_le, Int64.lt_iff_toInt_lt, Int64.le_iff_toInt_le, l32, sI_2, tq_0, tq_1, tq_2, tq_6, tq_8, tq_10, tq_20, tq_30, tq_40, tl_0, tl_1, tl_2, tl_3, tl_4, tl_5, tl_6, tl_8, tl_10, tl_14, tl_20, tl_24, tl_30, tl_40, tl_50, tl_60, tl_70, tl_80, tl_100, tl_120, tl_140, tl_180, tl_220, tl_240, tl_260, tl_280, tl_300, tl_540, tl_780, tl_1020, tl_1180, tl_1190, tl_1200, tl_1220, tl_m1] at *
    have t0 : (x8 + 1).toInt = ((x8).toInt + 1) := (ti_add (a := (x8)) (b := (1 : Int32)) rfl tl_1 (by omega) (by omega))
    omega
theorem vc_FJO_payItems_ix50_7 (S : hS) (x1 : Int32) (x2 : Int32) (x3 : Int64) (x5 : Int64) (x7 : Int32) (x8 : Int32) (hJ : wfC S ∧ lp x8 x7) (c1 : ¬ (x7 ≤ x8)) (c2 : ¬ (x5 ≤ 0)) (c4 : ¬ ((FJO_itemAt S x8 x2) = (-1))) : vp_in (FJO_itemAt S x8 x2) 240 := by
    have k0 := hJ.2
    have wa := hJ.1.1
    have wb := hJ.1.2.1
    have wg := hJ.1.2.2.1
    have wp := hJ.1.2.2.2.1
    have wq := hJ.1.2.2.2.2.1
    have wr := hJ.1.2.2.2.2.2.2.2
    simp only [rg, bt, lp, vp_rg, Int32.lt_iff_toInt_lt, Int32.le_iff_toInt_le, Int64.lt_iff_toInt_lt, Int64.le_iff_toInt_le, l32, sI_2, tq_0, tq_1, tq_2, tq_6, tq_8, tq_10, tq_20, tq_30, tq_40, tl_0, tl_1, tl_2, tl_3, tl_4, tl_5, tl_6, tl_8, tl_10, tl_14, tl_20, tl_24, tl_30, tl_40, tl_50, tl_60, tl_70, tl_80, tl_100, tl_120, tl_140, tl_180, tl_220, tl_240, tl_260, tl_280, tl_300, tl_540, tl_780, tl_1020, tl_1180, tl_1190, tl_1200, tl_1220, tl_m1] at *
    have k1 := itC hJ.1 (by simp only [rg]; omega) c4
    simp only [rg] at k1
    omega
theorem vc_FJO_payItems_inv15_9 (S : hS) (x1 : Int32) (x2 : Int32) (x3 : Int64) (x5 : Int64) (x7 : Int32) (x8 : Int32) (hJ : wfC S ∧ lp x8 x7) (c1 : ¬ (x7 ≤ x8)) (c2 : ¬ (x5 ≤ 0)) (c4 : ¬ ((FJO_itemAt S x8 x2) = (-1))) (c8 : (S.2 17 ((FJO_itemAt S x8 x2).toNatClampNeg)) ≤ 0) : wfC S ∧ lp (x8 + 1) x7 := ⟨hJ.1, (by
    have k0 := hJ.2
    have wa := hJ.1.1
    have wb := hJ.1.2.1
    have wg := hJ.1.2.2.1
    have wp := hJ.1.2.2.2.1
    have wq := hJ.1.2.2.2.2.1
    have wr := hJ.1.2.2.2.2.2.2.2
    simp only [rg, bt, lp, vp_rg, Int32.lt_iff_toInt_lt, Int32.le_iff_toInt_le, Int64.lt_iff_toInt_lt, Int64.le_iff_toInt_le, l32, sI_2, tq_0, tq_1, tq_2, tq_6, tq_8, tq_10, tq_20, tq_30, tq_40, tl_0, tl_1, tl_2, tl_3, tl_4, tl_5, tl_6, tl_8, tl_10, tl_14, tl_20, tl_24, tl_30, tl_40, tl_50, tl_60, tl_70, tl_80, tl_100, tl_120, tl_140, tl_180, tl_220, tl_240, tl_260, tl_280, tl_300, tl_540, tl_780, tl_1020, tl_1180, tl_1190, tl_1200, tl_1220, tl_m1] at *
    have k1 := itC hJ.1 (by simp only [rg]; omega) c4
    simp only [rg] at k1
    have t0 : (x8 + 1).toInt = ((x8).toInt + 1) := (ti_add (a := (x8)) (b := (1 : Int32)) rfl tl_1 (by omega) (by omega))
    omega)⟩
theorem vc_FJO_payItems_mu15_10 (S : hS) (x1 : Int32) (x2 : Int32) (x3 : Int64) (x5 : Int64) (x7 : Int32) (x8 : Int32) (hJ : wfC S ∧ lp x8 x7) (c1 : ¬ (x7 ≤ x8)) (c2 : ¬ (x5 ≤ 0)) (c4 : ¬ ((FJO_itemAt S x8 x2) = (-1))) (c8 : (S.2 17 ((FJO_itemAt S x8 x2).toNatClampNeg)) ≤ 0) : ((x7.toInt - (x8 + 1).toInt).toNat) < ((x7.toInt - x8.toInt).toNat) := by
    have k0 := hJ.2
    have wa := hJ.1.1
    have wb := hJ.1.2.1
    have wg := hJ.1.2.2.1
    have wp := hJ.1.2.2.2.1
    have wq := hJ.1.2.2.2.2.1
    have wr := hJ.1.2.2.2.2.2.2.2
    simp only [rg, bt, lp, vp_rg, Int32.lt_iff_toInt_lt, Int32.le_iff_toInt_le, Int64.lt_iff_toInt_lt, Int64.le_iff_toInt_le, l32, sI_2, tq_0, tq_1, tq_2, tq_6, tq_8, tq_10, tq_20, tq_30, tq_40, tl_0, tl_1, tl_2, tl_3, tl_4, tl_5, tl_6, tl_8, tl_10, tl_14, tl_20, tl_24, tl_30, tl_40, tl_50, tl_60, tl_70, tl_80, tl_100, tl_120, tl_140, tl_180, tl_220, tl_240, tl_260, tl_280, tl_300, tl_540, tl_780, tl_1020, tl_1180, tl_1190, tl_1200, tl_1220, tl_m1] at *
    have k1 := itC hJ.1 (by simp only [rg]; omega) c4
    simp only [rg] at k1
    have t0 : (x8 + 1).toInt = ((x8).toInt + 1) := (ti_add (a := (x8)) (b := (1 : Int32)) rfl tl_1 (by omega) (by omega))
    omega
theorem vc_FJO_payItems_ix64_11 (S : hS) (x1 : Int32) (x2 : Int32) (x3 : Int64) (x5 : Int64) (x7 : Int32) (x8 : Int32) (hJ : wfC S ∧ lp x8 x7) (c1 : ¬ (x7 ≤ x8)) (c2 : ¬ (x5 ≤ 0)) (c4 : ¬ ((FJO_itemAt S x8 x2) = (-1))) (c8 : ¬ ((S.2 17 ((FJO_itemAt S x8 x2).toNatClampNeg)) ≤ 0)) : vp_in (FJO_itemAt S x8 x2) 240 := by
    have k0 := hJ.2
    have wa := hJ.1.1
    have wb := hJ.1.2.1
    have wg := hJ.1.2.2.1
    have wp := hJ.1.2.2.2.1
    have wq := hJ.1.2.2.2.2.1
    have wr := hJ.1.2.2.2.2.2.2.2
    simp only [rg, bt, lp, vp_rg, Int32.lt_iff_toInt_lt, Int32.le_iff_toInt_le, Int64.lt_iff_toInt_lt, Int64.le_iff_toInt_le, l32, sI_2, tq_0, tq_1, tq_2, tq_6, tq_8, tq_10, tq_20, tq_30, tq_40, tl_0, tl_1, tl_2, tl_3, tl_4, tl_5, tl_6, tl_8, tl_10, tl_14, tl_20, tl_24, tl_30, tl_40, tl_50, tl_60, tl_70, tl_80, tl_100, tl_120, tl_140, tl_180, tl_220, tl_240, tl_260, tl_280, tl_300, tl_540, tl_780, tl_1020, tl_1180, tl_1190, tl_1200, tl_1220, tl_m1] at *
    have k1 := itC hJ.1 (by simp only [rg]; omega) c4
    simp only [rg] at k1
    omega
theorem vc_FJO_payItems_ix77_12 (S : hS) (x1 : Int32) (x2 : Int32) (x3 : Int64) (x5 : Int64) (x7 : Int32) (x8 : Int32) (hJ : wfC S ∧ lp x8 x7) (c1 : ¬ (x7 ≤ x8)) (c2 : ¬ (x5 ≤ 0)) (c4 : ¬ ((FJO_itemAt S x8 x2) = (-1))) (c8 : ¬ ((S.2 17 ((FJO_itemAt S x8 x2).toNatClampNeg)) ≤ 0)) : vp_in (FJO_itemAt S x8 x2) 240 := by
    have k0 := hJ.2
    have wa := hJ.1.1
    have wb := hJ.1.2.1
    have wg := hJ.1.2.2.1
    have wp := hJ.1.2.2.2.1
    have wq := hJ.1.2.2.2.2.1
    have wr := hJ.1.2.2.2.2.2.2.2
    simp only [rg, bt, lp, vp_rg, Int32.lt_iff_toInt_lt, Int32.le_iff_toInt_le, Int64.lt_iff_toInt_lt, Int64.le_iff_toInt_le, l32, sI_2, tq_0, tq_1, tq_2, tq_6, tq_8, tq_10, tq_20, tq_30, tq_40, tl_0, tl_1, tl_2, tl_3, tl_4, tl_5, tl_6, tl_8, tl_10, tl_14, tl_20, tl_24, tl_30, tl_40, tl_50, tl_60, tl_70, tl_80, tl_100, tl_120, tl_140, tl_180, tl_220, tl_240, tl_260, tl_280, tl_300, tl_540, tl_780, tl_1020, tl_1180, tl_1190, tl_1200, tl_1220, tl_m1] at *
    have k1 := itC hJ.1 (by simp only [rg]; omega) c4
    simp only [rg] at k1
    omega
theorem vc_FJO_payItems_ix81_13 (S : hS) (x1 : Int32) (x2 : Int32) (x3 : Int64) (x5 : Int64) (x7 : Int32) (x8 : Int32) (hJ : wfC S ∧ lp x8 x7) (c1 : ¬ (x7 ≤ x8)) (c2 : ¬ (x5 ≤ 0)) (c4 : ¬ ((FJO_itemAt S x8 x2) = (-1))) (c8 : ¬ ((S.2 17 ((FJO_itemAt S x8 x2).toNatClampNeg)) ≤ 0)) : vp_in (FJO_itemAt S x8 x2) 240 := by
    have k0 := hJ.2
    have wa := hJ.1.1
    have wb := hJ.1.2.1
    have wg := hJ.1.2.2.1
    have wp := hJ.1.2.2.2.1
    have wq := hJ.1.2.2.2.2.1
    have wr := hJ.1.2.2.2.2.2.2.2
    simp only [rg, bt, lp, vp_rg, Int32.lt_iff_toInt_lt, Int32.le_iff_toInt_le, Int64.lt_iff_toInt_lt, Int64.le_iff_toInt_le, l32, sI_2, tq_0, tq_1, tq_2, tq_6, tq_8, tq_10, tq_20, tq_30, tq_40, tl_0, tl_1, tl_2, tl_3, tl_4, tl_5, tl_6, tl_8, tl_10, tl_14, tl_20, tl_24, tl_30, tl_40, tl_50, tl_60, tl_70, tl_80, tl_100, tl_120, tl_140, tl_180, tl_220, tl_240, tl_260, tl_280, tl_300, tl_540, tl_780, tl_1020, tl_1180, tl_1190, tl_1200, tl_1220, tl_m1] at *
    have k1 := itC hJ.1 (by simp only [rg]; omega) c4
    simp only [rg] at k1
    omega
theorem vc_FJO_payItems_pre93_14 (S : hS) (x1 : Int32) (x2 : Int32) (x3 : Int64) (x5 : Int64) (x7 : Int32) (x8 : Int32) (hJ : wfC S ∧ lp x8 x7) (c1 : ¬ (x7 ≤ x8)) (c2 : ¬ (x5 ≤ 0)) (c4 : ¬ ((FJO_itemAt S x8 x2) = (-1))) (c8 : ¬ ((S.2 17 ((FJO_itemAt S x8 x2).toNatClampNeg)) ≤ 0)) : wfC (sL S 17 ((FJO_itemAt S x8 x2).toNatClampNeg) ((S.2 17 ((FJO_itemAt S x8 x2).toNatClampNeg)) - (if (S.2 17 ((FJO_itemAt S x8 x2).toNatClampNeg)) < x5 then (S.2 17 ((FJO_itemAt S x8 x2).toNatClampNeg)) else x5))) := (wfC_L hJ.1 (by decide))
theorem vc_FJO_payItems_inv15_15 (S : hS) (x1 : Int32) (x2 : Int32) (x3 : Int64) (x5 : Int64) (x7 : Int32) (x8 : Int32) (hJ : wfC S ∧ lp x8 x7) (c1 : ¬ (x7 ≤ x8)) (c2 : ¬ (x5 ≤ 0)) (c4 : ¬ ((FJO_itemAt S x8 x2) = (-1))) (c8 : ¬ ((S.2 17 ((FJO_itemAt S x8 x2).toNatClampNeg)) ≤ 0)) : wfC (FJO_keepGift (sL S 17 ((FJO_itemAt S x8 x2).toNatClampNeg) ((S.2 17 ((FJO_itemAt S x8 x2).toNatClampNeg)) - (if (S.2 17 ((FJO_itemAt S x8 x2).toNatClampNeg)) < x5 then (S.2 17 ((FJO_itemAt S x8 x2).toNatClampNeg)) else x5))) x1 (FJO_itemAt S x8 x2)) ∧ lp (x8 + 1) x7 := ⟨wf_keepGift (wfC_L hJ.1 (by decide)) _ _, (by
    have k0 := hJ.2
    have wa := hJ.1.1
    have wb := hJ.1.2.1
    have wg := hJ.1.2.2.1
    have wp := hJ.1.2.2.2.1
    have wq := hJ.1.2.2.2.2.1
    have wr := hJ.1.2.2.2.2.2.2.2
    simp only [rg, bt, lp, vp_rg, Int32.lt_iff_toInt_lt, Int32.le_iff_toInt_le, Int64.lt_iff_toInt_lt, Int64.le_iff_toInt_le, l32, sI_2, tq_0, tq_1, tq_2, tq_6, tq_8, tq_10, tq_20, tq_30, tq_40, tl_0, tl_1, tl_2, tl_3, tl_4, tl_5, tl_6, tl_8, tl_10, tl_14, tl_20, tl_24, tl_30, tl_40, tl_50, tl_60, tl_70, tl_80, tl_100, tl_120, tl_140, tl_180, tl_220, tl_240, tl_260, tl_280, tl_300, tl_540, tl_780, tl_1020, tl_1180, tl_1190, tl_1200, tl_1220, tl_m1] at *
    have k1 := itC hJ.1 (by simp only [rg]; omega) c4
    simp only [rg] at k1
    have t0 : (x8 + 1).toInt = ((x8).toInt + 1) := (ti_add (a := (x8)) (b := (1 : Int32)) rfl tl_1 (by omega) (by omega))
    omega)⟩
theorem vc_FJO_payItems_mu15_16 (S : hS) (x1 : Int32) (x2 : Int32) (x3 : Int64) (x5 : Int64) (x7 : Int32) (x8 : Int32) (hJ : wfC S ∧ lp x8 x7) (c1 : ¬ (x7 ≤ x8)) (c2 : ¬ (x5 ≤ 0)) (c4 : ¬ ((FJO_itemAt S x8 x2) = (-1))) (c8 : ¬ ((S.2 17 ((FJO_itemAt S x8 x2).toNatClampNeg)) ≤ 0)) : ((x7.toInt - (x8 + 1).toInt).toNat) < ((x7.toInt - x8.toInt).toNat) := by
    have k0 := hJ.2
    have wa := hJ.1.1
    have wb := hJ.1.2.1
    have wg := hJ.1.2.2.1
    have wp := hJ.1.2.2.2.1
    have wq := hJ.1.2.2.2.2.1
    have wr := hJ.1.2.2.2.2.2.2.2
    simp only [rg, bt, lp, vp_rg, Int32.lt_iff_toInt_lt, Int32.le_iff_toInt_le, Int64.lt_iff_toInt_lt, Int64.le_iff_toInt_le, l32, sI_2, tq_0, tq_1, tq_2, tq_6, tq_8, tq_10, tq_20, tq_30, tq_40, tl_0, tl_1, tl_2, tl_3, tl_4, tl_5, tl_6, tl_8, tl_10, tl_14, tl_20, tl_24, tl_30, tl_40, tl_50, tl_60, tl_70, tl_80, tl_100, tl_120, tl_140, tl_180, tl_220, tl_240, tl_260, tl_280, tl_300, tl_540, tl_780, tl_1020, tl_1180, tl_1190, tl_1200, tl_1220, tl_m1] at *
    have k1 := itC hJ.1 (by simp only [rg]; omega) c4
    simp only [rg] at k1
    have t0 : (x8 + 1).toInt = ((x8).toInt + 1) := (ti_add (a := (x8)) (b := (1 : Int32)) rfl tl_1 (by omega) (by omega))
    omega
theorem vc_FJO_payItems_inv015_18 (S : hS) (x1 : Int32) (x2 : Int32) (x3 : Int64) (hp : wfC S) : wfC S ∧ lp (0 : Int32) ((S.1 10 0) * 6) := ⟨hp, (by
    have wa := hp.1
    have wb := hp.2.1
    have wg := hp.2.2.1
    have wp := hp.2.2.2.1
    have wq := hp.2.2.2.2.1
    have wr := hp.2.2.2.2.2.2.2
    simp only [rg, bt, lp, vp_rg, Int32.lt_iff_toInt_lt, Int32.le_iff_toInt_le, Int64.lt_iff_toInt_lt, Int64.le_iff_toInt_le, l32, sI_2, tq_0, tq_1, tq_2, tq_6, tq_8, tq_10, tq_20, tq_30, tq_40, tl_0, tl_1, tl_2, tl_3, tl_4, tl_5, tl_6, tl_8, tl_10, tl_14, tl_20, tl_24, tl_30, tl_40, tl_50, tl_60, tl_70, tl_80, tl_100, tl_120, tl_140, tl_180, tl_220, tl_240, tl_260, tl_280, tl_300, tl_540, tl_780, tl_1020, tl_1180, tl_1190, tl_1200, tl_1220, tl_m1] at *
    have t0 : (0 : Int32).toInt = 0 := tl_0
    have t1 : ((S.1 10 0) * 6).toInt = ((S.1 10 0).toInt * 6) := (ti_mul (a := (S.1 10 0)) (b := (6 : Int32)) rfl tl_6 (by omega) (by omega))
    omega)⟩
theorem vc_FJO_payItems_mu015_19 (S : hS) (x1 : Int32) (x2 : Int32) (x3 : Int64) (hp : wfC S) : ((((S.1 10 0) * 6).toInt - (0 : Int32).toInt).toNat) < 300 := by
    have wa := hp.1
    have wb := hp.2.1
    have wg := hp.2.2.1
    have wp := hp.2.2.2.1
    have wq := hp.2.2.2.2.1
    have wr := hp.2.2.2.2.2.2.2
    simp only [rg, bt, lp, vp_rg, Int32.lt_iff_toInt_lt, Int32.le_iff_toInt_le, Int64.lt_iff_toInt_lt, Int64.le_iff_toInt_le, l32, sI_2, tq_0, tq_1, tq_2, tq_6, tq_8, tq_10, tq_20, tq_30, tq_40, tl_0, tl_1, tl_2, tl_3, tl_4, tl_5, tl_6, tl_8, tl_10, tl_14, tl_20, tl_24, tl_30, tl_40, tl_50, tl_60, tl_70, tl_80, tl_100, tl_120, tl_140, tl_180, tl_220, tl_240, tl_260, tl_280, tl_300, tl_540, tl_780, tl_1020, tl_1180, tl_1190, tl_1200, tl_1220, tl_m1] at *
    have t0 : ((S.1 10 0) * 6).toInt = ((S.1 10 0).toInt * 6) := (ti_mul (a := (S.1 10 0)) (b := (6 : Int32)) rfl tl_6 (by omega) (by omega))
    have t1 : (0 : Int32).toInt = 0 := tl_0
    omega
theorem vc_FBO_keepFound_ix18_2 (S : hS) (x1 : Int64) (hp : wfC S) (c1 : ¬ (20 ≤ (S.1 1 4))) : vp_in (S.1 1 4) 20 := by
    have wa := hp.1
    have wb := hp.2.1
    have wg := hp.2.2.1
    have wp := hp.2.2.2.1
    have wq := hp.2.2.2.2.1
    have wr := hp.2.2.2.2.2.2.2
    simp only [rg, bt, lp, vp_rg, Int32.lt_iff_toInt_lt, Int32.le_iff_toInt_le, Int64.lt_iff_toInt_lt, Int64.le_iff_toInt_le, l32, sI_2, tq_0, tq_1, tq_2, tq_6, tq_8, tq_10, tq_20, tq_30, tq_40, tl_0, tl_1, tl_2, tl_3, tl_4, tl_5, tl_6, tl_8, tl_10, tl_14, tl_20, tl_24, tl_30, tl_40, tl_50, tl_60, tl_70, tl_80, tl_100, tl_120, tl_140, tl_180, tl_220, tl_240, tl_260, tl_280, tl_300, tl_540, tl_780, tl_1020, tl_1180, tl_1190, tl_1200, tl_1220, tl_m1] at *
    omega
theorem vc_FHL_payment_pre7_1 (S : hS) (x1 : Int32) (x2 : Int64) (x4 : Int64) (hp : wfC S) : wfC S := hp
theorem vc_FHL_payment_pre32_4 (S : hS) (x1 : Int32) (x2 : Int64) (x4 : Int64) (hp : wfC S) (c2 : ¬ (x2 < 1)) (c3 : ¬ (100000000 < x2)) : wfC S := hp
theorem vc_FHL_payment_pre53_7 (S : hS) (x1 : Int32) (x2 : Int64) (x4 : Int64) (hp : wfC S) (c2 : ¬ (x2 < 1)) (c3 : ¬ (100000000 < x2)) (c5 : ¬ ((FBO_isUnclosedDay S x4) = 0)) (c6 : ¬ ((FAC_firstCash S) = (-1))) : wfC S := hp
theorem vc_FHL_payment_pre69_9 (S : hS) (x1 : Int32) (x2 : Int64) (x4 : Int64) (hp : wfC S) (c2 : ¬ (x2 < 1)) (c3 : ¬ (100000000 < x2)) (c5 : ¬ ((FBO_isUnclosedDay S x4) = 0)) (c6 : ¬ ((FAC_firstCash S) = (-1))) (c8 : (FJO_isFull S) = 0) : wfC S := hp
theorem vc_FHL_payment_pre96_11 (S : hS) (x1 : Int32) (x2 : Int64) (x4 : Int64) (hp : wfC S) (c2 : ¬ (x2 < 1)) (c3 : ¬ (100000000 < x2)) (c5 : ¬ ((FBO_isUnclosedDay S x4) = 0)) (c6 : ¬ ((FAC_firstCash S) = (-1))) (c8 : (FJO_isFull S) = 0) (c10 : ¬ ((FAC_hasHousehold S x1) = 0)) : wfC S := hp
theorem vc_FHL_payment_pre113_13 (S : hS) (x1 : Int32) (x2 : Int64) (x4 : Int64) (hp : wfC S) (c2 : ¬ (x2 < 1)) (c3 : ¬ (100000000 < x2)) (c5 : ¬ ((FBO_isUnclosedDay S x4) = 0)) (c6 : ¬ ((FAC_firstCash S) = (-1))) (c8 : (FJO_isFull S) = 0) (c10 : ¬ ((FAC_hasHousehold S x1) = 0)) (v12 : Int32) (S12 : hS) (hq12 : FJO_add S x4.toInt32 2 = (v12, S12)) : wfC S12 := by have h := (wf_add hp x4.toInt32 2).1; rw [hq12] at h; exact h
theorem vc_FHL_payment_pre129_15 (S : hS) (x1 : Int32) (x2 : Int64) (x4 : Int64) (hp : wfC S) (c2 : ¬ (x2 < 1)) (c3 : ¬ (100000000 < x2)) (c5 : ¬ ((FBO_isUnclosedDay S x4) = 0)) (c6 : ¬ ((FAC_firstCash S) = (-1))) (c8 : (FJO_isFull S) = 0) (c10 : ¬ ((FAC_hasHousehold S x1) = 0)) (v12 : Int32) (S12 : hS) (hq12 : FJO_add S x4.toInt32 2 = (v12, S12)) (v14 : Int32) (S14 : hS) (hq14 : FJO_addRow S12 v12 (FAC_firstCash S) x2 = (v14, S14)) : wfC S14 := by have h := wf_addRow (wf_add hp x4.toInt32 2).1 v12 (FAC_firstCash S) x2; rw [hq12] at h; dsimp only at h; rw [hq14] at h; exact h
theorem vc_FHL_payment_pre144_17 (S : hS) (x1 : Int32) (x2 : Int64) (x4 : Int64) (hp : wfC S) (c2 : ¬ (x2 < 1)) (c3 : ¬ (100000000 < x2)) (c5 : ¬ ((FBO_isUnclosedDay S x4) = 0)) (c6 : ¬ ((FAC_firstCash S) = (-1))) (c8 : (FJO_isFull S) = 0) (c10 : ¬ ((FAC_hasHousehold S x1) = 0)) (v12 : Int32) (S12 : hS) (hq12 : FJO_add S x4.toInt32 2 = (v12, S12)) (v14 : Int32) (S14 : hS) (hq14 : FJO_addRow S12 v12 (FAC_firstCash S) x2 = (v14, S14)) (v16 : Int32) (S16 : hS) (hq16 : FJO_addRow S14 v12 x1 (-x2) = (v16, S16)) : wfC S16 := by have h := wf_addRow (wf_addRow (wf_add hp x4.toInt32 2).1 v12 (FAC_firstCash S) x2) v12 x1 (-x2); rw [hq12] at h; dsimp only at h; rw [hq14] at h; dsimp only at h; rw [hq16] at h; exact h
theorem vc_FHL_payment_pre80_18 (S : hS) (x1 : Int32) (x2 : Int64) (x4 : Int64) (hp : wfC S) (c2 : ¬ (x2 < 1)) (c3 : ¬ (100000000 < x2)) (c5 : ¬ ((FBO_isUnclosedDay S x4) = 0)) (c6 : ¬ ((FAC_firstCash S) = (-1))) (c8 : (FJO_isFull S) = 0) (c10 : (FAC_hasHousehold S x1) = 0) : wfC S := hp
theorem vc_FJO_itemOf_pre25_2 (S : hS) (x1 : Int32) (x2 : Int32) (x3 : Int32) (x4 : Int32) (x5 : Int32) (hJ : wfC S ∧ lp x5 x4) (c1 : ¬ (x4 ≤ x5)) : wfC S ∧ rg x5 240 := ⟨hJ.1, (by
    have k0 := hJ.2
    have wa := hJ.1.1
    have wb := hJ.1.2.1
    have wg := hJ.1.2.2.1
    have wp := hJ.1.2.2.2.1
    have wq := hJ.1.2.2.2.2.1
    have wr := hJ.1.2.2.2.2.2.2.2
    simp only [rg, bt, lp, vp_rg, Int32.lt_iff_toInt_lt, Int32.le_iff_toInt_le, Int64.lt_iff_toInt_lt, Int64.le_iff_toInt_le, l32, sI_2, tq_0, tq_1, tq_2, tq_6, tq_8, tq_10, tq_20, tq_30, tq_40, tl_0, tl_1, tl_2, tl_3, tl_4, tl_5, tl_6, tl_8, tl_10, tl_14, tl_20, tl_24, tl_30, tl_40, tl_50, tl_60, tl_70, tl_80, tl_100, tl_120, tl_140, tl_180, tl_220, tl_240, tl_260, tl_280, tl_300, tl_540, tl_780, tl_1020, tl_1180, tl_1190, tl_1200, tl_1220, tl_m1] at *
    omega)⟩
theorem vc_FJO_itemOf_inv14_4 (S : hS) (x1 : Int32) (x2 : Int32) (x3 : Int32) (x4 : Int32) (x5 : Int32) (hJ : wfC S ∧ lp x5 x4) (c1 : ¬ (x4 ≤ x5)) (c3 : (FJO_itemAt S x5 x1) = (-1)) : wfC S ∧ lp (x5 + 1) x4 := ⟨hJ.1, (by
    have k0 := hJ.2
    have wa := hJ.1.1
    have wb := hJ.1.2.1
    have wg := hJ.1.2.2.1
    have wp := hJ.1.2.2.2.1
    have wq := hJ.1.2.2.2.2.1
    have wr := hJ.1.2.2.2.2.2.2.2
    simp only [rg, bt, lp, vp_rg, Int32.lt_iff_toInt_lt, Int32.le_iff_toInt_le, Int64.lt_iff_toInt_lt, Int64.le_iff_toInt_le, l32, sI_2, tq_0, tq_1, tq_2, tq_6, tq_8, tq_10, tq_20, tq_30, tq_40, tl_0, tl_1, tl_2, tl_3, tl_4, tl_5, tl_6, tl_8, tl_10, tl_14, tl_20, tl_24, tl_30, tl_40, tl_50, tl_60, tl_70, tl_80, tl_100, tl_120, tl_140, tl_180, tl_220, tl_240, tl_260, tl_280, tl_300, tl_540, tl_780, tl_1020, tl_1180, tl_1190, tl_1200, tl_1220, tl_m1] at *
    have t0 : (x5 + 1).toInt = ((x5).toInt + 1) := (ti_add (a := (x5)) (b := (1 : Int32)) rfl tl_1 (by omega) (by omega))
    omega)⟩
theorem vc_FJO_itemOf_mu14_5 (S : hS) (x1 : Int32) (x2 : Int32) (x3 : Int32) (x4 : Int32) (x5 : Int32) (hJ : wfC S ∧ lp x5 x4) (c1 : ¬ (x4 ≤ x5)) (c3 : (FJO_itemAt S x5 x1) = (-1)) : ((x4.toInt - (x5 + 1).toInt).toNat) < ((x4.toInt - x5.toInt).toNat) := by
    have k0 := hJ.2
    have wa := hJ.1.1
    have wb := hJ.1.2.1
    have wg := hJ.1.2.2.1
    have wp := hJ.1.2.2.2.1
    have wq := hJ.1.2.2.2.2.1
    have wr := hJ.1.2.2.2.2.2.2.2
    simp only [rg, bt, lp, vp_rg, Int32.lt_iff_toInt_lt, Int32.le_iff_toInt_le, Int64.lt_iff_toInt_lt, Int64.le_iff_toInt_le, l32, sI_2, tq_0, tq_1, tq_2, tq_6, tq_8, tq_10, tq_20, tq_30, tq_40, tl_0, tl_1, tl_2, tl_3, tl_4, tl_5, tl_6, tl_8, tl_10, tl_14, tl_20, tl_24, tl_30, tl_40, tl_50, tl_60, tl_70, tl_80, tl_100, tl_120, tl_140, tl_180, tl_220, tl_240, tl_260, tl_280, tl_300, tl_540, tl_780, tl_1020, tl_1180, tl_1190, tl_1200, tl_1220, tl_m1] at *
    have t0 : (x5 + 1).toInt = ((x5).toInt + 1) := (ti_add (a := (x5)) (b := (1 : Int32)) rfl tl_1 (by omega) (by omega))
    omega
theorem vc_FJO_itemOf_inv14_7 (S : hS) (x1 : Int32) (x2 : Int32) (x3 : Int32) (x4 : Int32) (x5 : Int32) (hJ : wfC S ∧ lp x5 x4) (c1 : ¬ (x4 ≤ x5)) (c3 : ¬ ((FJO_itemAt S x5 x1) = (-1))) (c6 : ¬ (x3 = x2)) : wfC S ∧ lp (x5 + 1) x4 := ⟨hJ.1, (by
    have k0 := hJ.2
    have wa := hJ.1.1
    have wb := hJ.1.2.1
    have wg := hJ.1.2.2.1
    have wp := hJ.1.2.2.2.1
    have wq := hJ.1.2.2.2.2.1
    have wr := hJ.1.2.2.2.2.2.2.2
    simp only [rg, bt, lp, vp_rg, Int32.lt_iff_toInt_lt, Int32.le_iff_toInt_le, Int64.lt_iff_toInt_lt, Int64.le_iff_toInt_le, l32, sI_2, tq_0, tq_1, tq_2, tq_6, tq_8, tq_10, tq_20, tq_30, tq_40, tl_0, tl_1, tl_2, tl_3, tl_4, tl_5, tl_6, tl_8, tl_10, tl_14, tl_20, tl_24, tl_30, tl_40, tl_50, tl_60, tl_70, tl_80, tl_100, tl_120, tl_140, tl_180, tl_220, tl_240, tl_260, tl_280, tl_300, tl_540, tl_780, tl_1020, tl_1180, tl_1190, tl_1200, tl_1220, tl_m1] at *
    have k1 := itC hJ.1 (by simp only [rg]; omega) c3
    simp only [rg] at k1
    have t0 : (x5 + 1).toInt = ((x5).toInt + 1) := (ti_add (a := (x5)) (b := (1 : Int32)) rfl tl_1 (by omega) (by omega))
    omega)⟩
