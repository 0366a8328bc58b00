theorem vc_FMO_dun_ix118_19 (S : hS) (x1 : Int32) (x2 : Int64) (hp : wfM S) (c2 : ¬ ((FMO_isHousehold (sI S 49 4 0) x1) = 0)) (c3 : ¬ ((FMO_isDay (sI S 49 4 0) x2) = 0)) (c5 : (S.2 50 ((40 + x1).toNatClampNeg)) ≤ 0) (c7 : ¬ ((FMO_hasOld (sI S 49 4 0) x1 x2) = 0)) (c9 : ¬ ((S.2 50 ((20 + x1).toNatClampNeg)) = 0)) : vp_in (30 + x1) 1220 := by
    have m0 := hp.1
    have m1 := hp.2.1
    have m3 := hp.2.2.1
    have m4 := hp.2.2.2.1
    have m6 := hp.2.2.2.2.2.2.1
    have k0 := hhM (wfM_I hp) c2
    have k1 := ne64 c9
    simp only [rg, bt, lp, vp_rg, Int32.lt_iff_toInt_lt, Int32.le_iff_toInt_le, Int64.lt_iff_toInt_lt, Int64.le_iff_toInt_le, l32, sI_2, tq_0, tq_1, tq_2, tq_6, tq_8, tq_10, tq_20, tq_30, tq_40, tl_0, tl_1, tl_2, tl_3, tl_4, tl_5, tl_6, tl_8, tl_10, tl_14, tl_20, tl_24, tl_30, tl_40, tl_50, tl_60, tl_70, tl_80, tl_100, tl_120, tl_140, tl_180, tl_220, tl_240, tl_260, tl_280, tl_300, tl_540, tl_780, tl_1020, tl_1180, tl_1190, tl_1200, tl_1220, tl_m1] at *
    have t0 : (30 + x1).toInt = (30 + (x1).toInt) := (ti_add (a := (30 : Int32)) (b := (x1)) tl_30 rfl (by omega) (by omega))
    omega
theorem vc_FMO_dun_ix187_21 (S : hS) (x1 : Int32) (x2 : Int64) (hp : wfM S) (c2 : ¬ ((FMO_isHousehold (sI S 49 4 0) x1) = 0)) (c3 : ¬ ((FMO_isDay (sI S 49 4 0) x2) = 0)) (c5 : (S.2 50 ((40 + x1).toNatClampNeg)) ≤ 0) (c7 : ¬ ((FMO_hasOld (sI S 49 4 0) x1 x2) = 0)) (c9 : ¬ ((S.2 50 ((20 + x1).toNatClampNeg)) = 0)) (c20 : (x2 - (S.2 50 ((30 + x1).toNatClampNeg))) < 14) : vp_in (20 + x1) 1220 := by
    have m0 := hp.1
    have m1 := hp.2.1
    have m3 := hp.2.2.1
    have m4 := hp.2.2.2.1
    have m6 := hp.2.2.2.2.2.2.1
    have k0 := hhM (wfM_I hp) c2
    have k1 := ne64 c9
    simp only [rg, bt, lp, vp_rg, Int32.lt_iff_toInt_lt, Int32.le_iff_toInt_le, Int64.lt_iff_toInt_lt, Int64.le_iff_toInt_le, l32, sI_2, tq_0, tq_1, tq_2, tq_6, tq_8, tq_10, tq_20, tq_30, tq_40, tl_0, tl_1, tl_2, tl_3, tl_4, tl_5, tl_6, tl_8, tl_10, tl_14, tl_20, tl_24, tl_30, tl_40, tl_50, tl_60, tl_70, tl_80, tl_100, tl_120, tl_140, tl_180, tl_220, tl_240, tl_260, tl_280, tl_300, tl_540, tl_780, tl_1020, tl_1180, tl_1190, tl_1200, tl_1220, tl_m1] at *
    have t0 : (20 + x1).toInt = (20 + (x1).toInt) := (ti_add (a := (20 : Int32)) (b := (x1)) tl_20 rfl (by omega) (by omega))
    omega
theorem vc_FMO_dun_ix143_22 (S : hS) (x1 : Int32) (x2 : Int64) (hp : wfM S) (c2 : ¬ ((FMO_isHousehold (sI S 49 4 0) x1) = 0)) (c3 : ¬ ((FMO_isDay (sI S 49 4 0) x2) = 0)) (c5 : (S.2 50 ((40 + x1).toNatClampNeg)) ≤ 0) (c7 : ¬ ((FMO_hasOld (sI S 49 4 0) x1 x2) = 0)) (c9 : ¬ ((S.2 50 ((20 + x1).toNatClampNeg)) = 0)) (c20 : ¬ ((x2 - (S.2 50 ((30 + x1).toNatClampNeg))) < 14)) : vp_in (20 + x1) 1220 := by
    have m0 := hp.1
    have m1 := hp.2.1
    have m3 := hp.2.2.1
    have m4 := hp.2.2.2.1
    have m6 := hp.2.2.2.2.2.2.1
    have k0 := hhM (wfM_I hp) c2
    have k1 := ne64 c9
    simp only [rg, bt, lp, vp_rg, Int32.lt_iff_toInt_lt, Int32.le_iff_toInt_le, Int64.lt_iff_toInt_lt, Int64.le_iff_toInt_le, l32, sI_2, tq_0, tq_1, tq_2, tq_6, tq_8, tq_10, tq_20, tq_30, tq_40, tl_0, tl_1, tl_2, tl_3, tl_4, tl_5, tl_6, tl_8, tl_10, tl_14, tl_20, tl_24, tl_30, tl_40, tl_50, tl_60, tl_70, tl_80, tl_100, tl_120, tl_140, tl_180, tl_220, tl_240, tl_260, tl_280, tl_300, tl_540, tl_780, tl_1020, tl_1180, tl_1190, tl_1200, tl_1220, tl_m1] at *
    have t0 : (20 + x1).toInt = (20 + (x1).toInt) := (ti_add (a := (20 : Int32)) (b := (x1)) tl_20 rfl (by omega) (by omega))
    omega
theorem vc_FMO_dun_ix165_24 (S : hS) (x1 : Int32) (x2 : Int64) (hp : wfM S) (c2 : ¬ ((FMO_isHousehold (sI S 49 4 0) x1) = 0)) (c3 : ¬ ((FMO_isDay (sI S 49 4 0) x2) = 0)) (c5 : (S.2 50 ((40 + x1).toNatClampNeg)) ≤ 0) (c7 : ¬ ((FMO_hasOld (sI S 49 4 0) x1 x2) = 0)) (c9 : ¬ ((S.2 50 ((20 + x1).toNatClampNeg)) = 0)) (c20 : ¬ ((x2 - (S.2 50 ((30 + x1).toNatClampNeg))) < 14)) (c23 : ¬ ((S.2 50 ((20 + x1).toNatClampNeg)) = 3)) : vp_in (20 + x1) 1220 := by
    have m0 := hp.1
    have m1 := hp.2.1
    have m3 := hp.2.2.1
    have m4 := hp.2.2.2.1
    have m6 := hp.2.2.2.2.2.2.1
    have k0 := hhM (wfM_I hp) c2
    have k1 := ne64 c9
    have k2 := ne64 c23
    simp only [rg, bt, lp, vp_rg, Int32.lt_iff_toInt_lt, Int32.le_iff_toInt_le, Int64.lt_iff_toInt_lt, Int64.le_iff_toInt_le, l32, sI_2, tq_0, tq_1, tq_2, tq_6, tq_8, tq_10, tq_20, tq_30, tq_40, tl_0, tl_1, tl_2, tl_3, tl_4, tl_5, tl_6, tl_8, tl_10, tl_14, tl_20, tl_24, tl_30, tl_40, tl_50, tl_60, tl_70, tl_80, tl_100, tl_120, tl_140, tl_180, tl_220, tl_240, tl_260, tl_280, tl_300, tl_540, tl_780, tl_1020, tl_1180, tl_1190, tl_1200, tl_1220, tl_m1] at *
    have t0 : (20 + x1).toInt = (20 + (x1).toInt) := (ti_add (a := (20 : Int32)) (b := (x1)) tl_20 rfl (by omega) (by omega))
    omega
theorem vc_FMO_dun_ix168_25 (S : hS) (x1 : Int32) (x2 : Int64) (hp : wfM S) (c2 : ¬ ((FMO_isHousehold (sI S 49 4 0) x1) = 0)) (c3 : ¬ ((FMO_isDay (sI S 49 4 0) x2) = 0)) (c5 : (S.2 50 ((40 + x1).toNatClampNeg)) ≤ 0) (c7 : ¬ ((FMO_hasOld (sI S 49 4 0) x1 x2) = 0)) (c9 : ¬ ((S.2 50 ((20 + x1).toNatClampNeg)) = 0)) (c20 : ¬ ((x2 - (S.2 50 ((30 + x1).toNatClampNeg))) < 14)) (c23 : ¬ ((S.2 50 ((20 + x1).toNatClampNeg)) = 3)) : vp_in (20 + x1) 1220 := by
    have m0 := hp.1
    have m1 := hp.2.1
    have m3 := hp.2.2.1
    have m4 := hp.2.2.2.1
    have m6 := hp.2.2.2.2.2.2.1
    have k0 := hhM (wfM_I hp) c2
    have k1 := ne64 c9
    have k2 := ne64 c23
    simp only [rg, bt, lp, vp_rg, Int32.lt_iff_toInt_lt, Int32.le_iff_toInt_le, Int64.lt_iff_toInt_lt, Int64.le_iff_toInt_le, l32, sI_2, tq_0, tq_1, tq_2, tq_6, tq_8, tq_10, tq_20, tq_30, tq_40, tl_0, tl_1, tl_2, tl_3, tl_4, tl_5, tl_6, tl_8, tl_10, tl_14, tl_20, tl_24, tl_30, tl_40, tl_50, tl_60, tl_70, tl_80, tl_100, tl_120, tl_140, tl_180, tl_220, tl_240, tl_260, tl_280, tl_300, tl_540, tl_780, tl_1020, tl_1180, tl_1190, tl_1200, tl_1220, tl_m1] at *
    have t0 : (20 + x1).toInt = (20 + (x1).toInt) := (ti_add (a := (20 : Int32)) (b := (x1)) tl_20 rfl (by omega) (by omega))
    omega
theorem vc_FMO_dun_ix178_26 (S : hS) (x1 : Int32) (x2 : Int64) (hp : wfM S) (c2 : ¬ ((FMO_isHousehold (sI S 49 4 0) x1) = 0)) (c3 : ¬ ((FMO_isDay (sI S 49 4 0) x2) = 0)) (c5 : (S.2 50 ((40 + x1).toNatClampNeg)) ≤ 0) (c7 : ¬ ((FMO_hasOld (sI S 49 4 0) x1 x2) = 0)) (c9 : ¬ ((S.2 50 ((20 + x1).toNatClampNeg)) = 0)) (c20 : ¬ ((x2 - (S.2 50 ((30 + x1).toNatClampNeg))) < 14)) (c23 : ¬ ((S.2 50 ((20 + x1).toNatClampNeg)) = 3)) : vp_in (30 + x1) 1220 := by
    have m0 := hp.1
    have m1 := hp.2.1
    have m3 := hp.2.2.1
    have m4 := hp.2.2.2.1
    have m6 := hp.2.2.2.2.2.2.1
    have k0 := hhM (wfM_I hp) c2
    have k1 := ne64 c9
    have k2 := ne64 c23
    simp only [rg, bt, lp, vp_rg, Int32.lt_iff_toInt_lt, Int32.le_iff_toInt_le, Int64.lt_iff_toInt_lt, Int64.le_iff_toInt_le, l32, sI_2, tq_0, tq_1, tq_2, tq_6, tq_8, tq_10, tq_20, tq_30, tq_40, tl_0, tl_1, tl_2, tl_3, tl_4, tl_5, tl_6, tl_8, tl_10, tl_14, tl_20, tl_24, tl_30, tl_40, tl_50, tl_60, tl_70, tl_80, tl_100, tl_120, tl_140, tl_180, tl_220, tl_240, tl_260, tl_280, tl_300, tl_540, tl_780, tl_1020, tl_1180, tl_1190, tl_1200, tl_1220, tl_m1] at *
    have t0 : (30 + x1).toInt = (30 + (x1).toInt) := (ti_add (a := (30 : Int32)) (b := (x1)) tl_30 rfl (by omega) (by omega))
    omega
theorem vc_FMO_dun_ix187_27 (S : hS) (x1 : Int32) (x2 : Int64) (hp : wfM S) (c2 : ¬ ((FMO_isHousehold (sI S 49 4 0) x1) = 0)) (c3 : ¬ ((FMO_isDay (sI S 49 4 0) x2) = 0)) (c5 : (S.2 50 ((40 + x1).toNatClampNeg)) ≤ 0) (c7 : ¬ ((FMO_hasOld (sI S 49 4 0) x1 x2) = 0)) (c9 : ¬ ((S.2 50 ((20 + x1).toNatClampNeg)) = 0)) (c20 : ¬ ((x2 - (S.2 50 ((30 + x1).toNatClampNeg))) < 14)) (c23 : ¬ ((S.2 50 ((20 + x1).toNatClampNeg)) = 3)) : vp_in (20 + x1) 1220 := by
    have m0 := hp.1
    have m1 := hp.2.1
    have m3 := hp.2.2.1
    have m4 := hp.2.2.2.1
    have m6 := hp.2.2.2.2.2.2.1
    have k0 := hhM (wfM_I hp) c2
    have k1 := ne64 c9
    have k2 := ne64 c23
    simp only [rg, bt, lp, vp_rg, Int32.lt_iff_toInt_lt, Int32.le_iff_toInt_le, Int64.lt_iff_toInt_lt, Int64.le_iff_toInt_le, l32, sI_2, tq_0, tq_1, tq_2, tq_6, tq_8, tq_10, tq_20, tq_30, tq_40, tl_0, tl_1, tl_2, tl_3, tl_4, tl_5, tl_6, tl_8, tl_10, tl_14, tl_20, tl_24, tl_30, tl_40, tl_50, tl_60, tl_70, tl_80, tl_100, tl_120, tl_140, tl_180, tl_220, tl_240, tl_260, tl_280, tl_300, tl_540, tl_780, tl_1020, tl_1180, tl_1190, tl_1200, tl_1220, tl_m1] at *
    have t0 : (20 + x1).toInt = (20 + (x1).toInt) := (ti_add (a := (20 : Int32)) (b := (x1)) tl_20 rfl (by omega) (by omega))
    omega
theorem vc_FMO_dun_ix168_28 (S : hS) (x1 : Int32) (x2 : Int64) (hp : wfM S) (c2 : ¬ ((FMO_isHousehold (sI S 49 4 0) x1) = 0)) (c3 : ¬ ((FMO_isDay (sI S 49 4 0) x2) = 0)) (c5 : (S.2 50 ((40 + x1).toNatClampNeg)) ≤ 0) (c7 : ¬ ((FMO_hasOld (sI S 49 4 0) x1 x2) = 0)) (c9 : ¬ ((S.2 50 ((20 + x1).toNatClampNeg)) = 0)) (c20 : ¬ ((x2 - (S.2 50 ((30 + x1).toNatClampNeg))) < 14)) (c23 : (S.2 50 ((20 + x1).toNatClampNeg)) = 3) : vp_in (20 + x1) 1220 := by
    have m0 := hp.1
    have m1 := hp.2.1
    have m3 := hp.2.2.1
    have m4 := hp.2.2.2.1
    have m6 := hp.2.2.2.2.2.2.1
    have k0 := hhM (wfM_I hp) c2
    have k1 := ne64 c9
    simp only [rg, bt, lp, vp_rg, Int32.lt_iff_toInt_lt, Int32.le_iff_toInt_le, Int64.lt_iff_toInt_lt, Int64.le_iff_toInt_le, l32, sI_2, tq_0, tq_1, tq_2, tq_6, tq_8, tq_10, tq_20, tq_30, tq_40, tl_0, tl_1, tl_2, tl_3, tl_4, tl_5, tl_6, tl_8, tl_10, tl_14, tl_20, tl_24, tl_30, tl_40, tl_50, tl_60, tl_70, tl_80, tl_100, tl_120, tl_140, tl_180, tl_220, tl_240, tl_260, tl_280, tl_300, tl_540, tl_780, tl_1020, tl_1180, tl_1190, tl_1200, tl_1220, tl_m1] at *
    have t0 : (20 + x1).toInt = (20 + (x1).toInt) := (ti_add (a := (20 : Int32)) (b := (x1)) tl_20 rfl (by omega) (by omega))
    omega
theorem vc_FMO_dun_ix178_29 (S : hS) (x1 : Int32) (x2 : Int64) (hp : wfM S) (c2 : ¬ ((FMO_isHousehold (sI S 49 4 0) x1) = 0)) (c3 : ¬ ((FMO_isDay (sI S 49 4 0) x2) = 0)) (c5 : (S.2 50 ((40 + x1).toNatClampNeg)) ≤ 0) (c7 : ¬ ((FMO_hasOld (sI S 49 4 0) x1 x2) = 0)) (c9 : ¬ ((S.2 50 ((20 + x1).toNatClampNeg)) = 0)) (c20 : ¬ ((x2 - (S.2 50 ((30 + x1).toNatClampNeg))) < 14)) (c23 : (S.2 50 ((20 + x1).toNatClampNeg)) = 3) : vp_in (30 + x1) 1220 := by
    have m0 := hp.1
    have m1 := hp.2.1
    have m3 := hp.2.2.1
    have m4 := hp.2.2.2.1
    have m6 := hp.2.2.2.2.2.2.1
    have k0 := hhM (wfM_I hp) c2
    have k1 := ne64 c9
    simp only [rg, bt, lp, vp_rg, Int32.lt_iff_toInt_lt, Int32.le_iff_toInt_le, Int64.lt_iff_toInt_lt, Int64.le_iff_toInt_le, l32, sI_2, tq_0, tq_1, tq_2, tq_6, tq_8, tq_10, tq_20, tq_30, tq_40, tl_0, tl_1, tl_2, tl_3, tl_4, tl_5, tl_6, tl_8, tl_10, tl_14, tl_20, tl_24, tl_30, tl_40, tl_50, tl_60, tl_70, tl_80, tl_100, tl_120, tl_140, tl_180, tl_220, tl_240, tl_260, tl_280, tl_300, tl_540, tl_780, tl_1020, tl_1180, tl_1190, tl_1200, tl_1220, tl_m1] at *
    have t0 : (30 + x1).toInt = (30 + (x1).toInt) := (ti_add (a := (30 : Int32)) (b := (x1)) tl_30 rfl (by omega) (by omega))
    omega
theorem vc_FMO_dun_ix187_30 (S : hS) (x1 : Int32) (x2 : Int64) (hp : wfM S) (c2 : ¬ ((FMO_isHousehold (sI S 49 4 0) x1) = 0)) (c3 : ¬ ((FMO_isDay (sI S 49 4 0) x2) = 0)) (c5 : (S.2 50 ((40 + x1).toNatClampNeg)) ≤ 0) (c7 : ¬ ((FMO_hasOld (sI S 49 4 0) x1 x2) = 0)) (c9 : ¬ ((S.2 50 ((20 + x1).toNatClampNeg)) = 0)) (c20 : ¬ ((x2 - (S.2 50 ((30 + x1).toNatClampNeg))) < 14)) (c23 : (S.2 50 ((20 + x1).toNatClampNeg)) = 3) : vp_in (20 + x1) 1220 := by
    have m0 := hp.1
    have m1 := hp.2.1
    have m3 := hp.2.2.1
    have m4 := hp.2.2.2.1
    have m6 := hp.2.2.2.2.2.2.1
    have k0 := hhM (wfM_I hp) c2
    have k1 := ne64 c9
    simp only [rg, bt, lp, vp_rg, Int32.lt_iff_toInt_lt, Int32.le_iff_toInt_le, Int64.lt_iff_toInt_lt, Int64.le_iff_toInt_le, l32, sI_2, tq_0, tq_1, tq_2, tq_6, tq_8, tq_10, tq_20, tq_30, tq_40, tl_0, tl_1, tl_2, tl_3, tl_4, tl_5, tl_6, tl_8, tl_10, tl_14, tl_20, tl_24, tl_30, tl_40, tl_50, tl_60, tl_70, tl_80, tl_100, tl_120, tl_140, tl_180, tl_220, tl_240, tl_260, tl_280, tl_300, tl_540, tl_780, tl_1020, tl_1180, tl_1190, tl_1200, tl_1220, tl_m1] at *
    have t0 : (20 + x1).toInt = (20 + (x1).toInt) := (ti_add (a := (20 : Int32)) (b := (x1)) tl_20 rfl (by omega) (by omega))
    omega
theorem vc_FMO_dun_ix86_31 (S : hS) (x1 : Int32) (x2 : Int64) (hp : wfM S) (c2 : ¬ ((FMO_isHousehold (sI S 49 4 0) x1) = 0)) (c3 : ¬ ((FMO_isDay (sI S 49 4 0) x2) = 0)) (c5 : (S.2 50 ((40 + x1).toNatClampNeg)) ≤ 0) (c7 : (FMO_hasOld (sI S 49 4 0) x1 x2) = 0) : vp_in (20 + x1) 1220 := by
    have m0 := hp.1
    have m1 := hp.2.1
    have m3 := hp.2.2.1
    have m4 := hp.2.2.2.1
    have m6 := hp.2.2.2.2.2.2.1
    have k0 := hhM (wfM_I hp) c2
    simp only [rg, bt, lp, vp_rg, Int32.lt_iff_toInt_lt, Int32.le_iff_toInt_le, Int64.lt_iff_toInt_lt, Int64.le_iff_toInt_le, l32, sI_2, tq_0, tq_1, tq_2, tq_6, tq_8, tq_10, tq_20, tq_30, tq_40, tl_0, tl_1, tl_2, tl_3, tl_4, tl_5, tl_6, tl_8, tl_10, tl_14, tl_20, tl_24, tl_30, tl_40, tl_50, tl_60, tl_70, tl_80, tl_100, tl_120, tl_140, tl_180, tl_220, tl_240, tl_260, tl_280, tl_300, tl_540, tl_780, tl_1020, tl_1180, tl_1190, tl_1200, tl_1220, tl_m1] at *
    have t0 : (20 + x1).toInt = (20 + (x1).toInt) := (ti_add (a := (20 : Int32)) (b := (x1)) tl_20 rfl (by omega) (by omega))
    omega
theorem vc_FMO_dun_ix187_32 (S : hS) (x1 : Int32) (x2 : Int64) (hp : wfM S) (c2 : ¬ ((FMO_isHousehold (sI S 49 4 0) x1) = 0)) (c3 : ¬ ((FMO_isDay (sI S 49 4 0) x2) = 0)) (c5 : (S.2 50 ((40 + x1).toNatClampNeg)) ≤ 0) (c7 : (FMO_hasOld (sI S 49 4 0) x1 x2) = 0) : vp_in (20 + x1) 1220 := by
    have m0 := hp.1
    have m1 := hp.2.1
    have m3 := hp.2.2.1
    have m4 := hp.2.2.2.1
    have m6 := hp.2.2.2.2.2.2.1
    have k0 := hhM (wfM_I hp) c2
    simp only [rg, bt, lp, vp_rg, Int32.lt_iff_toInt_lt, Int32.le_iff_toInt_le, Int64.lt_iff_toInt_lt, Int64.le_iff_toInt_le, l32, sI_2, tq_0, tq_1, tq_2, tq_6, tq_8, tq_10, tq_20, tq_30, tq_40, tl_0, tl_1, tl_2, tl_3, tl_4, tl_5, tl_6, tl_8, tl_10, tl_14, tl_20, tl_24, tl_30, tl_40, tl_50, tl_60, tl_70, tl_80, tl_100, tl_120, tl_140, tl_180, tl_220, tl_240, tl_260, tl_280, tl_300, tl_540, tl_780, tl_1020, tl_1180, tl_1190, tl_1200, tl_1220, tl_m1] at *
    have t0 : (20 + x1).toInt = (20 + (x1).toInt) := (ti_add (a := (20 : Int32)) (b := (x1)) tl_20 rfl (by omega) (by omega))
    omega
theorem vc_FMO_dun_ix45_33 (S : hS) (x1 : Int32) (x2 : Int64) (hp : wfM S) (c2 : ¬ ((FMO_isHousehold (sI S 49 4 0) x1) = 0)) (c3 : ¬ ((FMO_isDay (sI S 49 4 0) x2) = 0)) (c5 : ¬ ((S.2 50 ((40 + x1).toNatClampNeg)) ≤ 0)) : vp_in (50 + x1) 1220 := by
    have m0 := hp.1
    have m1 := hp.2.1
    have m3 := hp.2.2.1
    have m4 := hp.2.2.2.1
    have m6 := hp.2.2.2.2.2.2.1
    have k0 := hhM (wfM_I hp) c2
    simp only [rg, bt, lp, vp_rg, Int32.lt_iff_toInt_lt, Int32.le_iff_toInt_le, Int64.lt_iff_toInt_lt, Int64.le_iff_toInt_le, l32, sI_2, tq_0, tq_1, tq_2, tq_6, tq_8, tq_10, tq_20, tq_30, tq_40, tl_0, tl_1, tl_2, tl_3, tl_4, tl_5, tl_6, tl_8, tl_10, tl_14, tl_20, tl_24, tl_30, tl_40, tl_50, tl_60, tl_70, tl_80, tl_100, tl_120, tl_140, tl_180, tl_220, tl_240, tl_260, tl_280, tl_300, tl_540, tl_780, tl_1020, tl_1180, tl_1190, tl_1200, tl_1220, tl_m1] at *
    have t0 : (50 + x1).toInt = (50 + (x1).toInt) := (ti_add (a := (50 : Int32)) (b := (x1)) tl_50 rfl (by omega) (by omega))
    omega
theorem vc_FMO_dun_ix54_34 (S : hS) (x1 : Int32) (x2 : Int64) (hp : wfM S) (c2 : ¬ ((FMO_isHousehold (sI S 49 4 0) x1) = 0)) (c3 : ¬ ((FMO_isDay (sI S 49 4 0) x2) = 0)) (c5 : ¬ ((S.2 50 ((40 + x1).toNatClampNeg)) ≤ 0)) : vp_in (60 + x1) 1220 := by
    have m0 := hp.1
    have m1 := hp.2.1
    have m3 := hp.2.2.1
    have m4 := hp.2.2.2.1
    have m6 := hp.2.2.2.2.2.2.1
    have k0 := hhM (wfM_I hp) c2
    simp only [rg, bt, lp, vp_rg, Int32.lt_iff_toInt_lt, Int32.le_iff_toInt_le, Int64.lt_iff_toInt_lt, Int64.le_iff_toInt_le, l32, sI_2, tq_0, tq_1, tq_2, tq_6, tq_8, tq_10, tq_20, tq_30, tq_40, tl_0, tl_1, tl_2, tl_3, tl_4, tl_5, tl_6, tl_8, tl_10, tl_14, tl_20, tl_24, tl_30, tl_40, tl_50, tl_60, tl_70, tl_80, tl_100, tl_120, tl_140, tl_180, tl_220, tl_240, tl_260, tl_280, tl_300, tl_540, tl_780, tl_1020, tl_1180, tl_1190, tl_1200, tl_1220, tl_m1] at *
    have t0 : (60 + x1).toInt = (60 + (x1).toInt) := (ti_add (a := (60 : Int32)) (b := (x1)) tl_60 rfl (by omega) (by omega))
    omega
theorem vc_FMO_dun_pre71_36 (S : hS) (x1 : Int32) (x2 : Int64) (hp : wfM S) (c2 : ¬ ((FMO_isHousehold (sI S 49 4 0) x1) = 0)) (c3 : ¬ ((FMO_isDay (sI S 49 4 0) x2) = 0)) (c5 : ¬ ((S.2 50 ((40 + x1).toNatClampNeg)) ≤ 0)) (c35 : (FMO_isIn (sI S 49 4 0) x2 (S.2 50 ((50 + x1).toNatClampNeg)) (S.2 50 ((60 + x1).toNatClampNeg))) = 0) : wfM (sI S 49 4 0) := (wfM_I hp)
theorem vc_FMO_dun_ix103_38 (S : hS) (x1 : Int32) (x2 : Int64) (hp : wfM S) (c2 : ¬ ((FMO_isHousehold (sI S 49 4 0) x1) = 0)) (c3 : ¬ ((FMO_isDay (sI S 49 4 0) x2) = 0)) (c5 : ¬ ((S.2 50 ((40 + x1).toNatClampNeg)) ≤ 0)) (c35 : (FMO_isIn (sI S 49 4 0) x2 (S.2 50 ((50 + x1).toNatClampNeg)) (S.2 50 ((60 + x1).toNatClampNeg))) = 0) (c37 : ¬ ((FMO_hasOld (sI S 49 4 0) x1 x2) = 0)) : vp_in (20 + x1) 1220 := by
    have m0 := hp.1
    have m1 := hp.2.1
    have m3 := hp.2.2.1
    have m4 := hp.2.2.2.1
    have m6 := hp.2.2.2.2.2.2.1
    have k0 := hhM (wfM_I hp) c2
    simp only [rg, bt, lp, vp_rg, Int32.lt_iff_toInt_lt, Int32.le_iff_toInt_le, Int64.lt_iff_toInt_lt, Int64.le_iff_toInt_le, l32, sI_2, tq_0, tq_1, tq_2, tq_6, tq_8, tq_10, tq_20, tq_30, tq_40, tl_0, tl_1, tl_2, tl_3, tl_4, tl_5, tl_6, tl_8, tl_10, tl_14, tl_20, tl_24, tl_30, tl_40, tl_50, tl_60, tl_70, tl_80, tl_100, tl_120, tl_140, tl_180, tl_220, tl_240, tl_260, tl_280, tl_300, tl_540, tl_780, tl_1020, tl_1180, tl_1190, tl_1200, tl_1220, tl_m1] at *
    have t0 : (20 + x1).toInt = (20 + (x1).toInt) := (ti_add (a := (20 : Int32)) (b := (x1)) tl_20 rfl (by omega) (by omega))
    omega
theorem vc_FMO_dun_ix143_40 (S : hS) (x1 : Int32) (x2 : Int64) (hp : wfM S) (c2 : ¬ ((FMO_isHousehold (sI S 49 4 0) x1) = 0)) (c3 : ¬ ((FMO_isDay (sI S 49 4 0) x2) = 0)) (c5 : ¬ ((S.2 50 ((40 + x1).toNatClampNeg)) ≤ 0)) (c35 : (FMO_isIn (sI S 49 4 0) x2 (S.2 50 ((50 + x1).toNatClampNeg)) (S.2 50 ((60 + x1).toNatClampNeg))) = 0) (c37 : ¬ ((FMO_hasOld (sI S 49 4 0) x1 x2) = 0)) (c39 : (S.2 50 ((20 + x1).toNatClampNeg)) = 0) : vp_in (20 + x1) 1220 := by
    have m0 := hp.1
    have m1 := hp.2.1
    have m3 := hp.2.2.1
    have m4 := hp.2.2.2.1
    have m6 := hp.2.2.2.2.2.2.1
    have k0 := hhM (wfM_I hp) c2
    simp only [rg, bt, lp, vp_rg, Int32.lt_iff_toInt_lt, Int32.le_iff_toInt_le, Int64.lt_iff_toInt_lt, Int64.le_iff_toInt_le, l32, sI_2, tq_0, tq_1, tq_2, tq_6, tq_8, tq_10, tq_20, tq_30, tq_40, tl_0, tl_1, tl_2, tl_3, tl_4, tl_5, tl_6, tl_8, tl_10, tl_14, tl_20, tl_24, tl_30, tl_40, tl_50, tl_60, tl_70, tl_80, tl_100, tl_120, tl_140, tl_180, tl_220, tl_240, tl_260, tl_280, tl_300, tl_540, tl_780, tl_1020, tl_1180, tl_1190, tl_1200, tl_1220, tl_m1] at *
    have t0 : (20 + x1).toInt = (20 + (x1).toInt) := (ti_add (a := (20 : Int32)) (b := (x1)) tl_20 rfl (by omega) (by omega))
    omega
theorem vc_FMO_dun_ix165_42 (S : hS) (x1 : Int32) (x2 : Int64) (hp : wfM S) (c2 : ¬ ((FMO_isHousehold (sI S 49 4 0) x1) = 0)) (c3 : ¬ ((FMO_isDay (sI S 49 4 0) x2) = 0)) (c5 : ¬ ((S.2 50 ((40 + x1).toNatClampNeg)) ≤ 0)) (c35 : (FMO_isIn (sI S 49 4 0) x2 (S.2 50 ((50 + x1).toNatClampNeg)) (S.2 50 ((60 + x1).toNatClampNeg))) = 0) (c37 : ¬ ((FMO_hasOld (sI S 49 4 0) x1 x2) = 0)) (c39 : (S.2 50 ((20 + x1).toNatClampNeg)) = 0) (c41 : ¬ ((S.2 50 ((20 + x1).toNatClampNeg)) = 3)) : vp_in (20 + x1) 1220 := by
    have m0 := hp.1
    have m1 := hp.2.1
    have m3 := hp.2.2.1
    have m4 := hp.2.2.2.1
    have m6 := hp.2.2.2.2.2.2.1
    have k0 := hhM (wfM_I hp) c2
    have k1 := ne64 c41
    simp only [rg, bt, lp, vp_rg, Int32.lt_iff_toInt_lt, Int32.le_iff_toInt_le, Int64.lt_iff_toInt_lt, Int64.le_iff_toInt_le, l32, sI_2, tq_0, tq_1, tq_2, tq_6, tq_8, tq_10, tq_20, tq_30, tq_40, tl_0, tl_1, tl_2, tl_3, tl_4, tl_5, tl_6, tl_8, tl_10, tl_14, tl_20, tl_24, tl_30, tl_40, tl_50, tl_60, tl_70, tl_80, tl_100, tl_120, tl_140, tl_180, tl_220, tl_240, tl_260, tl_280, tl_300, tl_540, tl_780, tl_1020, tl_1180, tl_1190, tl_1200, tl_1220, tl_m1] at *
    have t0 : (20 + x1).toInt = (20 + (x1).toInt) := (ti_add (a := (20 : Int32)) (b := (x1)) tl_20 rfl (by omega) (by omega))
    omega
theorem vc_FMO_dun_ix168_43 (S : hS) (x1 : Int32) (x2 : Int64) (hp : wfM S) (c2 : ¬ ((FMO_isHousehold (sI S 49 4 0) x1) = 0)) (c3 : ¬ ((FMO_isDay (sI S 49 4 0) x2) = 0)) (c5 : ¬ ((S.2 50 ((40 + x1).toNatClampNeg)) ≤ 0)) (c35 : (FMO_isIn (sI S 49 4 0) x2 (S.2 50 ((50 + x1).toNatClampNeg)) (S.2 50 ((60 + x1).toNatClampNeg))) = 0) (c37 : ¬ ((FMO_hasOld (sI S 49 4 0) x1 x2) = 0)) (c39 : (S.2 50 ((20 + x1).toNatClampNeg)) = 0) (c41 : ¬ ((S.2 50 ((20 + x1).toNatClampNeg)) = 3)) : vp_in (20 + x1) 1220 := by
    have m0 := hp.1
    have m1 := hp.2.1
    have m3 := hp.2.2.1
    have m4 := hp.2.2.2.1
    have m6 := hp.2.2.2.2.2.2.1
    have k0 := hhM (wfM_I hp) c2
    have k1 := ne64 c41
    simp only [rg, bt, lp, vp_rg, Int32.lt_iff_toInt_lt, Int32.le_iff_toInt_le, Int64.lt_iff_toInt_lt, Int64.le_iff_toInt_le, l32, sI_2, tq_0, tq_1, tq_2, tq_6, tq_8, tq_10, tq_20, tq_30, tq_40, tl_0, tl_1, tl_2, tl_3, tl_4, tl_5, tl_6, tl_8, tl_10, tl_14, tl_20, tl_24, tl_30, tl_40, tl_50, tl_60, tl_70, tl_80, tl_100, tl_120, tl_140, tl_180, tl_220, tl_240, tl_260, tl_280, tl_300, tl_540, tl_780, tl_1020, tl_1180, tl_1190, tl_1200, tl_1220, tl_m1] at *
    have t0 : (20 + x1).toInt = (20 + (x1).toInt) := (ti_add (a := (20 : Int32)) (b := (x1)) tl_20 rfl (by omega) (by omega))
    omega
theorem vc_FMO_dun_ix178_44 (S : hS) (x1 : Int32) (x2 : Int64) (hp : wfM S) (c2 : ¬ ((FMO_isHousehold (sI S 49 4 0) x1) = 0)) (c3 : ¬ ((FMO_isDay (sI S 49 4 0) x2) = 0)) (c5 : ¬ ((S.2 50 ((40 + x1).toNatClampNeg)) ≤ 0)) (c35 : (FMO_isIn (sI S 49 4 0) x2 (S.2 50 ((50 + x1).toNatClampNeg)) (S.2 50 ((60 + x1).toNatClampNeg))) = 0) (c37 : ¬ ((FMO_hasOld (sI S 49 4 0) x1 x2) = 0)) (c39 : (S.2 50 ((20 + x1).toNatClampNeg)) = 0) (c41 : ¬ ((S.2 50 ((20 + x1).toNatClampNeg)) = 3)) : vp_in (30 + x1) 1220 := by
    have m0 := hp.1
    have m1 := hp.2.1
    have m3 := hp.2.2.1
    have m4 := hp.2.2.2.1
    have m6 := hp.2.2.2.2.2.2.1
    have k0 := hhM (wfM_I hp) c2
    have k1 := ne64 c41
    simp only [rg, bt, lp, vp_rg, Int32.lt_iff_toInt_lt, Int32.le_iff_toInt_le, Int64.lt_iff_toInt_lt, Int64.le_iff_toInt_le, l32, sI_2, tq_0, tq_1, tq_2, tq_6, tq_8, tq_10, tq_20, tq_30, tq_40, tl_0, tl_1, tl_2, tl_3, tl_4, tl_5, tl_6, tl_8, tl_10, tl_14, tl_20, tl_24, tl_30, tl_40, tl_50, tl_60, tl_70, tl_80, tl_100, tl_120, tl_140, tl_180, tl_220, tl_240, tl_260, tl_280, tl_300, tl_540, tl_780, tl_1020, tl_1180, tl_1190, tl_1200, tl_1220, tl_m1] at *
    have t0 : (30 + x1).toInt = (30 + (x1).toInt) := (ti_add (a := (30 : Int32)) (b := (x1)) tl_30 rfl (by omega) (by omega))
    omega
theorem vc_FMO_dun_ix187_45 (S : hS) (x1 : Int32) (x2 : Int64) (hp : wfM S) (c2 : ¬ ((FMO_isHousehold (sI S 49 4 0) x1) = 0)) (c3 : ¬ ((FMO_isDay (sI S 49 4 0) x2) = 0)) (c5 : ¬ ((S.2 50 ((40 + x1).toNatClampNeg)) ≤ 0)) (c35 : (FMO_isIn (sI S 49 4 0) x2 (S.2 50 ((50 + x1).toNatClampNeg)) (S.2 50 ((60 + x1).toNatClampNeg))) = 0) (c37 : ¬ ((FMO_hasOld (sI S 49 4 0) x1 x2) = 0)) (c39 : (S.2 50 ((20 + x1).toNatClampNeg)) = 0) (c41 : ¬ ((S.2 50 ((20 + x1).toNatClampNeg)) = 3)) : vp_in (20 + x1) 1220 := by
    have m0 := hp.1
    have m1 := hp.2.1
    have m3 := hp.2.2.1
    have m4 := hp.2.2.2.1
    have m6 := hp.2.2.2.2.2.2.1
    have k0 := hhM (wfM_I hp) c2
    have k1 := ne64 c41
    simp only [rg, bt, lp, vp_rg, Int32.lt_iff_toInt_lt, Int32.le_iff_toInt_le, Int64.lt_iff_toInt_lt, Int64.le_iff_toInt_le, l32, sI_2, tq_0, tq_1, tq_2, tq_6, tq_8, tq_10, tq_20, tq_30, tq_40, tl_0, tl_1, tl_2, tl_3, tl_4, tl_5, tl_6, tl_8, tl_10, tl_14, tl_20, tl_24, tl_30, tl_40, tl_50, tl_60, tl_70, tl_80, tl_100, tl_120, tl_140, tl_180, tl_220, tl_240, tl_260, tl_280, tl_300, tl_540, tl_780, tl_1020, tl_1180, tl_1190, tl_1200, tl_1220, tl_m1] at *
    have t0 : (20 + x1).toInt = (20 + (x1).toInt) := (ti_add (a := (20 : Int32)) (b := (x1)) tl_20 rfl (by omega) (by omega))
    omega
theorem vc_FMO_dun_ix168_46 (S : hS) (x1 : Int32) (x2 : Int64) (hp : wfM S) (c2 : ¬ ((FMO_isHousehold (sI S 49 4 0) x1) = 0)) (c3 : ¬ ((FMO_isDay (sI S 49 4 0) x2) = 0)) (c5 : ¬ ((S.2 50 ((40 + x1).toNatClampNeg)) ≤ 0)) (c35 : (FMO_isIn (sI S 49 4 0) x2 (S.2 50 ((50 + x1).toNatClampNeg)) (S.2 50 ((60 + x1).toNatClampNeg))) = 0) (c37 : ¬ ((FMO_hasOld (sI S 49 4 0) x1 x2) = 0)) (c39 : (S.2 50 ((20 + x1).toNatClampNeg)) = 0) (c41 : (S.2 50 ((20 + x1).toNatClampNeg)) = 3) : vp_in (20 + x1) 1220 := by
    have m0 := hp.1
    have m1 := hp.2.1
    have m3 := hp.2.2.1
    have m4 := hp.2.2.2.1
    have m6 := hp.2.2.2.2.2.2.1
    have k0 := hhM (wfM_I hp) c2
    simp only [rg, bt, lp, vp_rg, Int32.lt_iff_toInt_lt, Int32.le_iff_toInt_le, Int64.lt_iff_toInt_lt, Int64.le_iff_toInt_le, l32, sI_2, tq_0, tq_1, tq_2, tq_6, tq_8, tq_10, tq_20, tq_30, tq_40, tl_0, tl_1, tl_2, tl_3, tl_4, tl_5, tl_6, tl_8, tl_10, tl_14, tl_20, tl_24, tl_30, tl_40, tl_50, tl_60, tl_70, tl_80, tl_100, tl_120, tl_140, tl_180, tl_220, tl_240, tl_260, tl_280, tl_300, tl_540, tl_780, tl_1020, tl_1180, tl_1190, tl_1200, tl_1220, tl_m1] at *
    have t0 : (20 + x1).toInt = (20 + (x1).toInt) := (ti_add (a := (20 : Int32)) (b := (x1)) tl_20 rfl (by omega) (by omega))
    omega
theorem vc_FMO_dun_ix178_47 (S : hS) (x1 : Int32) (x2 : Int64) (hp : wfM S) (c2 : ¬ ((FMO_isHousehold (sI S 49 4 0) x1) = 0)) (c3 : ¬ ((FMO_isDay (sI S 49 4 0) x2) = 0)) (c5 : ¬ ((S.2 50 ((40 + x1).toNatClampNeg)) ≤ 0)) (c35 : (FMO_isIn (sI S 49 4 0) x2 (S.2 50 ((50 + x1).toNatClampNeg)) (S.2 50 ((60 + x1).toNatClampNeg))) = 0) (c37 : ¬ ((FMO_hasOld (sI S 49 4 0) x1 x2) = 0)) (c39 : (S.2 50 ((20 + x1).toNatClampNeg)) = 0) (c41 : (S.2 50 ((20 + x1).toNatClampNeg)) = 3) : vp_in (30 + x1) 1220 := by
    have m0 := hp.1
    have m1 := hp.2.1
    have m3 := hp.2.2.1
    have m4 := hp.2.2.2.1
    have m6 := hp.2.2.2.2.2.2.1
    have k0 := hhM (wfM_I hp) c2
    simp only [rg, bt, lp, vp_rg, Int32.lt_iff_toInt_lt, Int32.le_iff_toInt_le, Int64.lt_iff_toInt_lt, Int64.le_iff_toInt_le, l32, sI_2, tq_0, tq_1, tq_2, tq_6, tq_8, tq_10, tq_20, tq_30, tq_40, tl_0, tl_1, tl_2, tl_3, tl_4, tl_5, tl_6, tl_8, tl_10, tl_14, tl_20, tl_24, tl_30, tl_40, tl_50, tl_60, tl_70, tl_80, tl_100, tl_120, tl_140, tl_180, tl_220, tl_240, tl_260, tl_280, tl_300, tl_540, tl_780, tl_1020, tl_1180, tl_1190, tl_1200, tl_1220, tl_m1] at *
    have t0 : (30 + x1).toInt = (30 + (x1).toInt) := (ti_add (a := (30 : Int32)) (b := (x1)) tl_30 rfl (by omega) (by omega))
    omega
theorem vc_FMO_dun_ix187_48 (S : hS) (x1 : Int32) (x2 : Int64) (hp : wfM S) (c2 : ¬ ((FMO_isHousehold (sI S 49 4 0) x1) = 0)) (c3 : ¬ ((FMO_isDay (sI S 49 4 0) x2) = 0)) (c5 : ¬ ((S.2 50 ((40 + x1).toNatClampNeg)) ≤ 0)) (c35 : (FMO_isIn (sI S 49 4 0) x2 (S.2 50 ((50 + x1).toNatClampNeg)) (S.2 50 ((60 + x1).toNatClampNeg))) = 0) (c37 : ¬ ((FMO_hasOld (sI S 49 4 0) x1 x2) = 0)) (c39 : (S.2 50 ((20 + x1).toNatClampNeg)) = 0) (c41 : (S.2 50 ((20 + x1).toNatClampNeg)) = 3) : vp_in (20 + x1) 1220 := by
    have m0 := hp.1
    have m1 := hp.2.1
    have m3 := hp.2.2.1
    have m4 := hp.2.2.2.1
    have m6 := hp.2.2.2.2.2.2.1
    have k0 := hhM (wfM_I hp) c2
    simp only [rg, bt, lp, vp_rg, Int32.lt_iff_toInt_lt, Int32.le_iff_toInt_le, Int64.lt_iff_toInt_lt, Int64.le_iff_toInt_le, l32, sI_2, tq_0, tq_1, tq_2, tq_6, tq_8, tq_10, tq_20, tq_30, tq_40, tl_0, tl_1, tl_2, tl_3, tl_4, tl_5, tl_6, tl_8, tl_10, tl_14, tl_20, tl_24, tl_30, tl_40, tl_50, tl_60, tl_70, tl_80, tl_100, tl_120, tl_140, tl_180, tl_220, tl_240, tl_260, tl_280, tl_300, tl_540, tl_780, tl_1020, tl_1180, tl_1190, tl_1200, tl_1220, tl_m1] at *
    have t0 : (20 + x1).toInt = (20 + (x1).toInt) := (ti_add (a := (20 : Int32)) (b := (x1)) tl_20 rfl (by omega) (by omega))
    omega
theorem vc_FMO_dun_ix118_49 (S : hS) (x1 : Int32) (x2 : Int64) (hp : wfM S) (c2 : ¬ ((FMO_isHousehold (sI S 49 4 0) x1) = 0)) (c3 : ¬ ((FMO_isDay (sI S 49 4 0) x2) = 0)) (c5 : ¬ ((S.2 50 ((40 + x1).toNatClampNeg)) ≤ 0)) (c35 : (FMO_isIn (sI S 49 4 0) x2 (S.2 50 ((50 + x1).toNatClampNeg)) (S.2 50 ((60 + x1).toNatClampNeg))) = 0) (c37 : ¬ ((FMO_hasOld (sI S 49 4 0) x1 x2) = 0)) (c39 : ¬ ((S.2 50 ((20 + x1).toNatClampNeg)) = 0)) : vp_in (30 + x1) 1220 := by
    have m0 := hp.1
    have m1 := hp.2.1
    have m3 := hp.2.2.1
    have m4 := hp.2.2.2.1
    have m6 := hp.2.2.2.2.2.2.1
    have k0 := hhM (wfM_I hp) c2
    have k1 := ne64 c39
    simp only [rg, bt, lp, vp_rg, Int32.lt_iff_toInt_lt, Int32.le_iff_toInt_le, Int64.lt_iff_toInt_lt, Int64.le_iff_toInt_le, l32, sI_2, tq_0, tq_1, tq_2, tq_6, tq_8, tq_10, tq_20, tq_30, tq_40, tl_0, tl_1, tl_2, tl_3, tl_4, tl_5, tl_6, tl_8, tl_10, tl_14, tl_20, tl_24, tl_30, tl_40, tl_50, tl_60, tl_70, tl_80, tl_100, tl_120, tl_140, tl_180, tl_220, tl_240, tl_260, tl_280, tl_300, tl_540, tl_780, tl_1020, tl_1180, tl_1190, tl_1200, tl_1220, tl_m1] at *
    have t0 : (30 + x1).toInt = (30 + (x1).toInt) := (ti_add (a := (30 : Int32)) (b := (x1)) tl_30 rfl (by omega) (by omega))
    omega
theorem vc_FMO_dun_ix187_51 (S : hS) (x1 : Int32) (x2 : Int64) (hp : wfM S) (c2 : ¬ ((FMO_isHousehold (sI S 49 4 0) x1) = 0)) (c3 : ¬ ((FMO_isDay (sI S 49 4 0) x2) = 0)) (c5 : ¬ ((S.2 50 ((40 + x1).toNatClampNeg)) ≤ 0)) (c35 : (FMO_isIn (sI S 49 4 0) x2 (S.2 50 ((50 + x1).toNatClampNeg)) (S.2 50 ((60 + x1).toNatClampNeg))) = 0) (c37 : ¬ ((FMO_hasOld (sI S 49 4 0) x1 x2) = 0)) (c39 : ¬ ((S.2 50 ((20 + x1).toNatClampNeg)) = 0)) (c50 : (x2 - (S.2 50 ((30 + x1).toNatClampNeg))) < 14) : vp_in (20 + x1) 1220 := by
    have m0 := hp.1
    have m1 := hp.2.1
    have m3 := hp.2.2.1
    have m4 := hp.2.2.2.1
    have m6 := hp.2.2.2.2.2.2.1
    have k0 := hhM (wfM_I hp) c2
    have k1 := ne64 c39
    simp only [rg, bt, lp, vp_rg, Int32.lt_iff_toInt_lt, Int32.le_iff_toInt_le, Int64.lt_iff_toInt_lt, Int64.le_iff_toInt_le, l32, sI_2, tq_0, tq_1, tq_2, tq_6, tq_8, tq_10, tq_20, tq_30, tq_40, tl_0, tl_1, tl_2, tl_3, tl_4, tl_5, tl_6, tl_8, tl_10, tl_14, tl_20, tl_24, tl_30, tl_40, tl_50, tl_60, tl_70, tl_80, tl_100, tl_120, tl_140, tl_180, tl_220, tl_240, tl_260, tl_280, tl_300, tl_540, tl_780, tl_1020, tl_1180, tl_1190, tl_1200, tl_1220, tl_m1] at *
    have t0 : (20 + x1).toInt = (20 + (x1).toInt) := (ti_add (a := (20 : Int32)) (b := (x1)) tl_20 rfl (by omega) (by omega))
    omega
theorem vc_FMO_dun_ix143_52 (S : hS) (x1 : Int32) (x2 : Int64) (hp : wfM S) (c2 : ¬ ((FMO_isHousehold (sI S 49 4 0) x1) = 0)) (c3 : ¬ ((FMO_isDay (sI S 49 4 0) x2) = 0)) (c5 : ¬ ((S.2 50 ((40 + x1).toNatClampNeg)) ≤ 0)) (c35 : (FMO_isIn (sI S 49 4 0) x2 (S.2 50 ((50 + x1).toNatClampNeg)) (S.2 50 ((60 + x1).toNatClampNeg))) = 0) (c37 : ¬ ((FMO_hasOld (sI S 49 4 0) x1 x2) = 0)) (c39 : ¬ ((S.2 50 ((20 + x1).toNatClampNeg)) = 0)) (c50 : ¬ ((x2 - (S.2 50 ((30 + x1).toNatClampNeg))) < 14)) : vp_in (20 + x1) 1220 := by
    have m0 := hp.1
    have m1 := hp.2.1
    have m3 := hp.2.2.1
    have m4 := hp.2.2.2.1
    have m6 := hp.2.2.2.2.2.2.1
    have k0 := hhM (wfM_I hp) c2
    have k1 := ne64 c39
    simp only [rg, bt, lp, vp_rg, Int32.lt_iff_toInt_lt, Int32.le_iff_toInt_le, Int64.lt_iff_toInt_lt, Int64.le_iff_toInt_le, l32, sI_2, tq_0, tq_1, tq_2, tq_6, tq_8, tq_10, tq_20, tq_30, tq_40, tl_0, tl_1, tl_2, tl_3, tl_4, tl_5, tl_6, tl_8, tl_10, tl_14, tl_20, tl_24, tl_30, tl_40, tl_50, tl_60, tl_70, tl_80, tl_100, tl_120, tl_140, tl_180, tl_220, tl_240, tl_260, tl_280, tl_300, tl_540, tl_780, tl_1020, tl_1180, tl_1190, tl_1200, tl_1220, tl_m1] at *
    have t0 : (20 + x1).toInt = (20 + (x1).toInt) := (ti_add (a := (20 : Int32)) (b := (x1)) tl_20 rfl (by omega) (by omega))
    omega
theorem vc_FMO_dun_ix165_54 (S : hS) (x1 : Int32) (x2 : Int64) (hp : wfM S) (c2 : ¬ ((FMO_isHousehold (sI S 49 4 0) x1) = 0)) (c3 : ¬ ((FMO_isDay (sI S 49 4 0) x2) = 0)) (c5 : ¬ ((S.2 50 ((40 + x1).toNatClampNeg)) ≤ 0)) (c35 : (FMO_isIn (sI S 49 4 0) x2 (S.2 50 ((50 + x1).toNatClampNeg)) (S.2 50 ((60 + x1).toNatClampNeg))) = 0) (c37 : ¬ ((FMO_hasOld (sI S 49 4 0) x1 x2) = 0)) (c39 : ¬ ((S.2 50 ((20 + x1).toNatClampNeg)) = 0)) (c50 : ¬ ((x2 - (S.2 50 ((30 + x1).toNatClampNeg))) < 14)) (c53 : ¬ ((S.2 50 ((20 + x1).toNatClampNeg)) = 3)) : vp_in (20 + x1) 1220 := by
    have m0 := hp.1
    have m1 := hp.2.1
    have m3 := hp.2.2.1
    have m4 := hp.2.2.2.1
    have m6 := hp.2.2.2.2.2.2.1
    have k0 := hhM (wfM_I hp) c2
    have k1 := ne64 c39
    have k2 := ne64 c53
    simp only [rg, bt, lp, vp_rg, Int32.lt_iff_toInt_lt, Int32.le_iff_toInt_le, Int64.lt_iff_toInt_lt, Int64.le_iff_toInt_le, l32, sI_2, tq_0, tq_1, tq_2, tq_6, tq_8, tq_10, tq_20, tq_30, tq_40, tl_0, tl_1, tl_2, tl_3, tl_4, tl_5, tl_6, tl_8, tl_10, tl_14, tl_20, tl_24, tl_30, tl_40, tl_50, tl_60, tl_70, tl_80, tl_100, tl_120, tl_140, tl_180, tl_220, tl_240, tl_260, tl_280, tl_300, tl_540, tl_780, tl_1020, tl_1180, tl_1190, tl_1200, tl_1220, tl_m1] at *
    have t0 : (20 + x1).toInt = (20 + (x1).toInt) := (ti_add (a := (20 : Int32)) (b := (x1)) tl_20 rfl (by omega) (by omega))
    omega
theorem vc_FMO_dun_ix168_55 (S : hS) (x1 : Int32) (x2 : Int64) (hp : wfM S) (c2 : ¬ ((FMO_isHousehold (sI S 49 4 0) x1) = 0)) (c3 : ¬ ((FMO_isDay (sI S 49 4 0) x2) = 0)) (c5 : ¬ ((S.2 50 ((40 + x1).toNatClampNeg)) ≤ 0)) (c35 : (FMO_isIn (sI S 49 4 0) x2 (S.2 50 ((50 + x1).toNatClampNeg)) (S.2 50 ((60 + x1).toNatClampNeg))) = 0) (c37 : ¬ ((FMO_hasOld (sI S 49 4 0) x1 x2) = 0)) (c39 : ¬ ((S.2 50 ((20 + x1).toNatClampNeg)) = 0)) (c50 : ¬ ((x2 - (S.2 50 ((30 + x1).toNatClampNeg))) < 14)) (c53 : ¬ ((S.2 50 ((20 + x1).toNatClampNeg)) = 3)) : vp_in (20 + x1) 1220 := by
    have m0 := hp.1
    have m1 := hp.2.1
    have m3 := hp.2.2.1
    have m4 := hp.2.2.2.1
    have m6 := hp.2.2.2.2.2.2.1
    have k0 := hhM (wfM_I hp) c2
    have k1 := ne64 c39
    have k2 := ne64 c53
    simp only [rg, bt, lp, vp_rg, Int32.lt_iff_toInt_lt, Int32.le_iff_toInt_le, Int64.lt_iff_toInt_lt, Int64.le_iff_toInt_le, l32, sI_2, tq_0, tq_1, tq_2, tq_6, tq_8, tq_10, tq_20, tq_30, tq_40, tl_0, tl_1, tl_2, tl_3, tl_4, tl_5, tl_6, tl_8, tl_10, tl_14, tl_20, tl_24, tl_30, tl_40, tl_50, tl_60, tl_70, tl_80, tl_100, tl_120, tl_140, tl_180, tl_220, tl_240, tl_260, tl_280, tl_300, tl_540, tl_780, tl_1020, tl_1180, tl_1190, tl_1200, tl_1220, tl_m1] at *
    have t0 : (20 + x1).toInt = (20 + (x1).toInt) := (ti_add (a := (20 : Int32)) (b := (x1)) tl_20 rfl (by omega) (by omega))
    omega
theorem vc_FMO_dun_ix178_56 (S : hS) (x1 : Int32) (x2 : Int64) (hp : wfM S) (c2 : ¬ ((FMO_isHousehold (sI S 49 4 0) x1) = 0)) (c3 : ¬ ((FMO_isDay (sI S 49 4 0) x2) = 0)) (c5 : ¬ ((S.2 50 ((40 + x1).toNatClampNeg)) ≤ 0)) (c35 : (FMO_isIn (sI S 49 4 0) x2 (S.2 50 ((50 + x1).toNatClampNeg)) (S.2 50 ((60 + x1).toNatClampNeg))) = 0) (c37 : ¬ ((FMO_hasOld (sI S 49 4 0) x1 x2) = 0)) (c39 : ¬ ((S.2 50 ((20 + x1).toNatClampNeg)) = 0)) (c50 : ¬ ((x2 - (S.2 50 ((30 + x1).toNatClampNeg))) < 14)) (c53 : ¬ ((S.2 50 ((20 + x1).toNatClampNeg)) = 3)) : vp_in (30 + x1) 1220 := by
    have m0 := hp.1
    have m1 := hp.2.1
    have m3 := hp.2.2.1
    have m4 := hp.2.2.2.1
    have m6 := hp.2.2.2.2.2.2.1
    have k0 := hhM (wfM_I hp) c2
    have k1 := ne64 c39
    have k2 := ne64 c53
    simp only [rg, bt, lp, vp_rg, Int32.lt_iff_toInt_lt, Int32.le_iff_toInt_le, Int64.lt_iff_toInt_lt, Int64.le_iff_toInt_le, l32, sI_2, tq_0, tq_1, tq_2, tq_6, tq_8, tq_10, tq_20, tq_30, tq_40, tl_0, tl_1, tl_2, tl_3, tl_4, tl_5, tl_6, tl_8, tl_10, tl_14, tl_20, tl_24, tl_30, tl_40, tl_50, tl_60, tl_70, tl_80, tl_100, tl_120, tl_140, tl_180, tl_220, tl_240, tl_260, tl_280, tl_300, tl_540, tl_780, tl_1020, tl_1180, tl_1190, tl_1200, tl_1220, tl_m1] at *
    have t0 : (30 + x1).toInt = (30 + (x1).toInt) := (ti_add (a := (30 : Int32)) (b := (x1)) tl_30 rfl (by omega) (by omega))
    omega
theorem vc_FMO_dun_ix187_57 (S : hS) (x1 : Int32) (x2 : Int64) (hp : wfM S) (c2 : ¬ ((FMO_isHousehold (sI S 49 4 0) x1) = 0)) (c3 : ¬ ((FMO_isDay (sI S 49 4 0) x2) = 0)) (c5 : ¬ ((S.2 50 ((40 + x1).toNatClampNeg)) ≤ 0)) (c35 : (FMO_isIn (sI S 49 4 0) x2 (S.2 50 ((50 + x1).toNatClampNeg)) (S.2 50 ((60 + x1).toNatClampNeg))) = 0) (c37 : ¬ ((FMO_hasOld (sI S 49 4 0) x1 x2) = 0)) (c39 : ¬ ((S.2 50 ((20 + x1).toNatClampNeg)) = 0)) (c50 : ¬ ((x2 - (S.2 50 ((30 + x1).toNatClampNeg))) < 14)) (c53 : ¬ ((S.2 50 ((20 + x1).toNatClampNeg)) = 3)) : vp_in (20 + x1) 1220 := by
    have m0 := hp.1
    have m1 := hp.2.1
    have m3 := hp.2.2.1
    have m4 := hp.2.2.2.1
    have m6 := hp.2.2.2.2.2.2.1
    have k0 := hhM (wfM_I hp) c2
    have k1 := ne64 c39
    have k2 := ne64 c53
    simp only [rg, bt, lp, vp_rg, Int32.lt_iff_toInt_lt, Int32.le_iff_toInt_le, Int64.lt_iff_toInt_lt, Int64.le_iff_toInt_le, l32, sI_2, tq_0, tq_1, tq_2, tq_6, tq_8, tq_10, tq_20, tq_30, tq_40, tl_0, tl_1, tl_2, tl_3, tl_4, tl_5, tl_6, tl_8, tl_10, tl_14, tl_20, tl_24, tl_30, tl_40, tl_50, tl_60, tl_70, tl_80, tl_100, tl_120, tl_140, tl_180, tl_220, tl_240, tl_260, tl_280, tl_300, tl_540, tl_780, tl_1020, tl_1180, tl_1190, tl_1200, tl_1220, tl_m1] at *
    have t0 : (20 + x1).toInt = (20 + (x1).toInt) := (ti_add (a := (20 : Int32)) (b := (x1)) tl_20 rfl (by omega) (by omega))
    omega
theorem vc_FMO_dun_ix168_58 (S : hS) (x1 : Int32) (x2 : Int64) (hp : wfM S) (c2 : ¬ ((FMO_isHousehold (sI S 49 4 0) x1) = 0)) (c3 : ¬ ((FMO_isDay (sI S 49 4 0) x2) = 0)) (c5 : ¬ ((S.2 50 ((40 + x1).toNatClampNeg)) ≤ 0)) (c35 : (FMO_isIn (sI S 49 4 0) x2 (S.2 50 ((50 + x1).toNatClampNeg)) (S.2 50 ((60 + x1).toNatClampNeg))) = 0) (c37 : ¬ ((FMO_hasOld (sI S 49 4 0) x1 x2) = 0)) (c39 : ¬ ((S.2 50 ((20 + x1).toNatClampNeg)) = 0)) (c50 : ¬ ((x2 - (S.2 50 ((30 + x1).toNatClampNeg))) < 14)) (c53 : (S.2 50 ((20 + x1).toNatClampNeg)) = 3) : vp_in (20 + x1) 1220 := by
    have m0 := hp.1
    have m1 := hp.2.1
    have m3 := hp.2.2.1
    have m4 := hp.2.2.2.1
    have m6 := hp.2.2.2.2.2.2.1
    have k0 := hhM (wfM_I hp) c2
    have k1 := ne64 c39
    simp only [rg, bt, lp, vp_rg, Int32.lt_iff_toInt_lt, Int32.le_iff_toInt_le, Int64.lt_iff_toInt_lt, Int64.le_iff_toInt_le, l32, sI_2, tq_0, tq_1, tq_2, tq_6, tq_8, tq_10, tq_20, tq_30, tq_40, tl_0, tl_1, tl_2, tl_3, tl_4, tl_5, tl_6, tl_8, tl_10, tl_14, tl_20, tl_24, tl_30, tl_40, tl_50, tl_60, tl_70, tl_80, tl_100, tl_120, tl_140, tl_180, tl_220, tl_240, tl_260, tl_280, tl_300, tl_540, tl_780, tl_1020, tl_1180, tl_1190, tl_1200, tl_1220, tl_m1] at *
    have t0 : (20 + x1).toInt = (20 + (x1).toInt) := (ti_add (a := (20 : Int32)) (b := (x1)) tl_20 rfl (by omega) (by omega))
    omega
theorem vc_FMO_dun_ix178_59 (S : hS) (x1 : Int32) (x2 : Int64) (hp : wfM S) (c2 : ¬ ((FMO_isHousehold (sI S 49 4 0) x1) = 0)) (c3 : ¬ ((FMO_isDay (sI S 49 4 0) x2) = 0)) (c5 : ¬ ((S.2 50 ((40 + x1).toNatClampNeg)) ≤ 0)) (c35 : (FMO_isIn (sI S 49 4 0) x2 (S.2 50 ((50 + x1).toNatClampNeg)) (S.2 50 ((60 + x1).toNatClampNeg))) = 0) (c37 : ¬ ((FMO_hasOld (sI S 49 4 0) x1 x2) = 0)) (c39 : ¬ ((S.2 50 ((20 + x1).toNatClampNeg)) = 0)) (c50 : ¬ ((x2 - (S.2 50 ((30 + x1).toNatClampNeg))) < 14)) (c53 : (S.2 50 ((20 + x1).toNatClampNeg)) = 3) : vp_in (30 + x1) 1220 := by
    have m0 := hp.1
    have m1 := hp.2.1
    have m3 := hp.2.2.1
    have m4 := hp.2.2.2.1
    have m6 := hp.2.2.2.2.2.2.1
    have k0 := hhM (wfM_I hp) c2
    have k1 := ne64 c39
    simp only [rg, bt, lp, vp_rg, Int32.lt_iff_toInt_lt, Int32.le_iff_toInt_le, Int64.lt_iff_toInt_lt, Int64.le_iff_toInt_le, l32, sI_2, tq_0, tq_1, tq_2, tq_6, tq_8, tq_10, tq_20, tq_30, tq_40, tl_0, tl_1, tl_2, tl_3, tl_4, tl_5, tl_6, tl_8, tl_10, tl_14, tl_20, tl_24, tl_30, tl_40, tl_50, tl_60, tl_70, tl_80, tl_100, tl_120, tl_140, tl_180, tl_220, tl_240, tl_260, tl_280, tl_300, tl_540, tl_780, tl_1020, tl_1180, tl_1190, tl_1200, tl_1220, tl_m1] at *
    have t0 : (30 + x1).toInt = (30 + (x1).toInt) := (ti_add (a := (30 : Int32)) (b := (x1)) tl_30 rfl (by omega) (by omega))
    omega
theorem vc_FMO_dun_ix187_60 (S : hS) (x1 : Int32) (x2 : Int64) (hp : wfM S) (c2 : ¬ ((FMO_isHousehold (sI S 49 4 0) x1) = 0)) (c3 : ¬ ((FMO_isDay (sI S 49 4 0) x2) = 0)) (c5 : ¬ ((S.2 50 ((40 + x1).toNatClampNeg)) ≤ 0)) (c35 : (FMO_isIn (sI S 49 4 0) x2 (S.2 50 ((50 + x1).toNatClampNeg)) (S.2 50 ((60 + x1).toNatClampNeg))) = 0) (c37 : ¬ ((FMO_hasOld (sI S 49 4 0) x1 x2) = 0)) (c39 : ¬ ((S.2 50 ((20 + x1).toNatClampNeg)) = 0)) (c50 : ¬ ((x2 - (S.2 50 ((30 + x1).toNatClampNeg))) < 14)) (c53 : (S.2 50 ((20 + x1).toNatClampNeg)) = 3) : vp_in (20 + x1) 1220 := by
    have m0 := hp.1
    have m1 := hp.2.1
    have m3 := hp.2.2.1
    have m4 := hp.2.2.2.1
    have m6 := hp.2.2.2.2.2.2.1
    have k0 := hhM (wfM_I hp) c2
    have k1 := ne64 c39
    simp only [rg, bt, lp, vp_rg, Int32.lt_iff_toInt_lt, Int32.le_iff_toInt_le, Int64.lt_iff_toInt_lt, Int64.le_iff_toInt_le, l32, sI_2, tq_0, tq_1, tq_2, tq_6, tq_8, tq_10, tq_20, tq_30, tq_40, tl_0, tl_1, tl_2, tl_3, tl_4, tl_5, tl_6, tl_8, tl_10, tl_14, tl_20, tl_24, tl_30, tl_40, tl_50, tl_60, tl_70, tl_80, tl_100, tl_120, tl_140, tl_180, tl_220, tl_240, tl_260, tl_280, tl_300, tl_540, tl_780, tl_1020, tl_1180, tl_1190, tl_1200, tl_1220, tl_m1] at *
    have t0 : (20 + x1).toInt = (20 + (x1).toInt) := (ti_add (a := (20 : Int32)) (b := (x1)) tl_20 rfl (by omega) (by omega))
    omega
theorem vc_FMO_dun_ix86_61 (S : hS) (x1 : Int32) (x2 : Int64) (hp : wfM S) (c2 : ¬ ((FMO_isHousehold (sI S 49 4 0) x1) = 0)) (c3 : ¬ ((FMO_isDay (sI S 49 4 0) x2) = 0)) (c5 : ¬ ((S.2 50 ((40 + x1).toNatClampNeg)) ≤ 0)) (c35 : (FMO_isIn (sI S 49 4 0) x2 (S.2 50 ((50 + x1).toNatClampNeg)) (S.2 50 ((60 + x1).toNatClampNeg))) = 0) (c37 : (FMO_hasOld (sI S 49 4 0) x1 x2) = 0) : vp_in (20 + x1) 1220 := by
    have m0 := hp.1
    have m1 := hp.2.1
    have m3 := hp.2.2.1
    have m4 := hp.2.2.2.1
    have m6 := hp.2.2.2.2.2.2.1
    have k0 := hhM (wfM_I hp) c2
    simp only [rg, bt, lp, vp_rg, Int32.lt_iff_toInt_lt, Int32.le_iff_toInt_le, Int64.lt_iff_toInt_lt, Int64.le_iff_toInt_le, l32, sI_2, tq_0, tq_1, tq_2, tq_6, tq_8, tq_10, tq_20, tq_30, tq_40, tl_0, tl_1, tl_2, tl_3, tl_4, tl_5, tl_6, tl_8, tl_10, tl_14, tl_20, tl_24, tl_30, tl_40, tl_50, tl_60, tl_70, tl_80, tl_100, tl_120, tl_140, tl_180, tl_220, tl_240, tl_260, tl_280, tl_300, tl_540, tl_780, tl_1020, tl_1180, tl_1190, tl_1200, tl_1220, tl_m1] at *
    have t0 : (20 + x1).toInt = (20 + (x1).toInt) := (ti_add (a := (20 : Int32)) (b := (x1)) tl_20 rfl (by omega) (by omega))
    omega
theorem vc_FMO_dun_ix187_62 (S : hS) (x1 : Int32) (x2 : Int64) (hp : wfM S) (c2 : ¬ ((FMO_isHousehold (sI S 49 4 0) x1) = 0)) (c3 : ¬ ((FMO_isDay (sI S 49 4 0) x2) = 0)) (c5 : ¬ ((S.2 50 ((40 + x1).toNatClampNeg)) ≤ 0)) (c35 : (FMO_isIn (sI S 49 4 0) x2 (S.2 50 ((50 + x1).toNatClampNeg)) (S.2 50 ((60 + x1).toNatClampNeg))) = 0) (c37 : (FMO_hasOld (sI S 49 4 0) x1 x2) = 0) : vp_in (20 + x1) 1220 := by
    have m0 := hp.1
    have m1 := hp.2.1
    have m3 := hp.2.2.1
    have m4 := hp.2.2.2.1
    have m6 := hp.2.2.2.2.2.2.1
    have k0 := hhM (wfM_I hp) c2
    simp only [rg, bt, lp, vp_rg, Int32.lt_iff_toInt_lt, Int32.le_iff_toInt_le, Int64.lt_iff_toInt_lt, Int64.le_iff_toInt_le, l32, sI_2, tq_0, tq_1, tq_2, tq_6, tq_8, tq_10, tq_20, tq_30, tq_40, tl_0, tl_1, tl_2, tl_3, tl_4, tl_5, tl_6, tl_8, tl_10, tl_14, tl_20, tl_24, tl_30, tl_40, tl_50, tl_60, tl_70, tl_80, tl_100, tl_120, tl_140, tl_180, tl_220, tl_240, tl_260, tl_280, tl_300, tl_540, tl_780, tl_1020, tl_1180, tl_1190, tl_1200, tl_1220, tl_m1] at *
    have t0 : (20 + x1).toInt = (20 + (x1).toInt) := (ti_add (a := (20 : Int32)) (b := (x1)) tl_20 rfl (by omega) (by omega))
    omega
theorem vc_FMO_dun_pre71_63 (S : hS) (x1 : Int32) (x2 : Int64) (hp : wfM S) (c2 : ¬ ((FMO_isHousehold (sI S 49 4 0) x1) = 0)) (c3 : ¬ ((FMO_isDay (sI S 49 4 0) x2) = 0)) (c5 : ¬ ((S.2 50 ((40 + x1).toNatClampNeg)) ≤ 0)) (c35 : ¬ ((FMO_isIn (sI S 49 4 0) x2 (S.2 50 ((50 + x1).toNatClampNeg)) (S.2 50 ((60 + x1).toNatClampNeg))) = 0)) : wfM (sI S 49 4 0) := (wfM_I hp)
theorem vc_FMO_dun_ix187_65 (S : hS) (x1 : Int32) (x2 : Int64) (hp : wfM S) (c2 : ¬ ((FMO_isHousehold (sI S 49 4 0) x1) = 0)) (c3 : ¬ ((FMO_isDay (sI S 49 4 0) x2) = 0)) (c5 : ¬ ((S.2 50 ((40 + x1).toNatClampNeg)) ≤ 0)) (c35 : ¬ ((FMO_isIn (sI S 49 4 0) x2 (S.2 50 ((50 + x1).toNatClampNeg)) (S.2 50 ((60 + x1).toNatClampNeg))) = 0)) (c64 : ¬ ((FMO_hasOld (sI S 49 4 0) x1 x2) = 0)) : vp_in (20 + x1) 1220 := by
    have m0 := hp.1
    have m1 := hp.2.1
    have m3 := hp.2.2.1
    have m4 := hp.2.2.2.1
    have m6 := hp.2.2.2.2.2.2.1
    have k0 := hhM (wfM_I hp) c2
    simp only [rg, bt, lp, vp_rg, Int32.lt_iff_toInt_lt, Int32.le_iff_toInt_le, Int64.lt_iff_toInt_lt, Int64.le_iff_toInt_le, l32, sI_2, tq_0, tq_1, tq_2, tq_6, tq_8, tq_10, tq_20, tq_30, tq_40, tl_0, tl_1, tl_2, tl_3, tl_4, tl_5, tl_6, tl_8, tl_10, tl_14, tl_20, tl_24, tl_30, tl_40, tl_50, tl_60, tl_70, tl_80, tl_100, tl_120, tl_140, tl_180, tl_220, tl_240, tl_260, tl_280, tl_300, tl_540, tl_780, tl_1020, tl_1180, tl_1190, tl_1200, tl_1220, tl_m1] at *
    have t0 : (20 + x1).toInt = (20 + (x1).toInt) := (ti_add (a := (20 : Int32)) (b := (x1)) tl_20 rfl (by omega) (by omega))
    omega
theorem vc_FMO_dun_ix86_66 (S : hS) (x1 : Int32) (x2 : Int64) (hp : wfM S) (c2 : ¬ ((FMO_isHousehold (sI S 49 4 0) x1) = 0)) (c3 : ¬ ((FMO_isDay (sI S 49 4 0) x2) = 0)) (c5 : ¬ ((S.2 50 ((40 + x1).toNatClampNeg)) ≤ 0)) (c35 : ¬ ((FMO_isIn (sI S 49 4 0) x2 (S.2 50 ((50 + x1).toNatClampNeg)) (S.2 50 ((60 + x1).toNatClampNeg))) = 0)) (c64 : (FMO_hasOld (sI S 49 4 0) x1 x2) = 0) : vp_in (20 + x1) 1220 := by
    have m0 := hp.1
    have m1 := hp.2.1
    have m3 := hp.2.2.1
    have m4 := hp.2.2.2.1
    have m6 := hp.2.2.2.2.2.2.1
    have k0 := hhM (wfM_I hp) c2
    simp only [rg, bt, lp, vp_rg, Int32.lt_iff_toInt_lt, Int32.le_iff_toInt_le, Int64.lt_iff_toInt_lt, Int64.le_iff_toInt_le, l32, sI_2, tq_0, tq_1, tq_2, tq_6, tq_8, tq_10, tq_20, tq_30, tq_40, tl_0, tl_1, tl_2, tl_3, tl_4, tl_5, tl_6, tl_8, tl_10, tl_14, tl_20, tl_24, tl_30, tl_40, tl_50, tl_60, tl_70, tl_80, tl_100, tl_120, tl_140, tl_180, tl_220, tl_240, tl_260, tl_280, tl_300, tl_540, tl_780, tl_1020, tl_1180, tl_1190, tl_1200, tl_1220, tl_m1] at *
    have t0 : (20 + x1).toInt = (20 + (x1).toInt) := (ti_add (a := (20 : Int32)) (b := (x1)) tl_20 rfl (by omega) (by omega))
    omega
theorem vc_FMO_dun_ix187_67 (S : hS) (x1 : Int32) (x2 : Int64) (hp : wfM S) (c2 : ¬ ((FMO_isHousehold (sI S 49 4 0) x1) = 0)) (c3 : ¬ ((FMO_isDay (sI S 49 4 0) x2) = 0)) (c5 : ¬ ((S.2 50 ((40 + x1).toNatClampNeg)) ≤ 0)) (c35 : ¬ ((FMO_isIn (sI S 49 4 0) x2 (S.2 50 ((50 + x1).toNatClampNeg)) (S.2 50 ((60 + x1).toNatClampNeg))) = 0)) (c64 : (FMO_hasOld (sI S 49 4 0) x1 x2) = 0) : vp_in (20 + x1) 1220 := by
    have m0 := hp.1
    have m1 := hp.2.1
    have m3 := hp.2.2.1
    have m4 := hp.2.2.2.1
    have m6 := hp.2.2.2.2.2.2.1
    have k0 := hhM (wfM_I hp) c2
    simp only [rg, bt, lp, vp_rg, Int32.lt_iff_toInt_lt, Int32.le_iff_toInt_le, Int64.lt_iff_toInt_lt, Int64.le_iff_toInt_le, l32, sI_2, tq_0, tq_1, tq_2, tq_6, tq_8, tq_10, tq_20, tq_30, tq_40, tl_0, tl_1, tl_2, tl_3, tl_4, tl_5, tl_6, tl_8, tl_10, tl_14, tl_20, tl_24, tl_30, tl_40, tl_50, tl_60, tl_70, tl_80, tl_100, tl_120, tl_140, tl_180, tl_220, tl_240, tl_260, tl_280, tl_300, tl_540, tl_780, tl_1020, tl_1180, tl_1190, tl_1200, tl_1220, tl_m1] at *
    have t0 : (20 + x1).toInt = (20 + (x1).toInt) := (ti_add (a := (20 : Int32)) (b := (x1)) tl_20 rfl (by omega) (by omega))
    omega
theorem vc_FMO_hardship_pre7_1 (S : hS) (x1 : Int32) (x2 : Int64) (x4 : Int64) (hp : wfM S) : wfM (sI S 49 4 0) := (wfM_I hp)
theorem vc_FMO_hardship_ix31_4 (S : hS) (x1 : Int32) (x2 : Int64) (x4 : Int64) (hp : wfM S) (c2 : ¬ ((FMO_isHousehold (sI S 49 4 0) x1) = 0)) (c3 : x2 ≤ x4) : vp_in (40 + x1) 1220 := by
    have m0 := hp.1
    have m1 := hp.2.1
    have m3 := hp.2.2.1
    have m4 := hp.2.2.2.1
    have m6 := hp.2.2.2.2.2.2.1
    have k0 := hhM (wfM_I hp) c2
    simp only [rg, bt, lp, vp_rg, Int32.lt_iff_toInt_lt, Int32.le_iff_toInt_le, Int64.lt_iff_toInt_lt, Int64.le_iff_toInt_le, l32, sI_2, tq_0, tq_1, tq_2, tq_6, tq_8, tq_10, tq_20, tq_30, tq_40, tl_0, tl_1, tl_2, tl_3, tl_4, tl_5, tl_6, tl_8, tl_10, tl_14, tl_20, tl_24, tl_30, tl_40, tl_50, tl_60, tl_70, tl_80, tl_100, tl_120, tl_140, tl_180, tl_220, tl_240, tl_260, tl_280, tl_300, tl_540, tl_780, tl_1020, tl_1180, tl_1190, tl_1200, tl_1220, tl_m1] at *
    have t0 : (40 + x1).toInt = (40 + (x1).toInt) := (ti_add (a := (40 : Int32)) (b := (x1)) tl_40 rfl (by omega) (by omega))
    omega
theorem vc_FMO_hardship_ix41_5 (S : hS) (x1 : Int32) (x2 : Int64) (x4 : Int64) (hp : wfM S) (c2 : ¬ ((FMO_isHousehold (sI S 49 4 0) x1) = 0)) (c3 : x2 ≤ x4) : vp_in (50 + x1) 1220 := by
    have m0 := hp.1
    have m1 := hp.2.1
    have m3 := hp.2.2.1
    have m4 := hp.2.2.2.1
    have m6 := hp.2.2.2.2.2.2.1
    have k0 := hhM (wfM_I hp) c2
    simp only [rg, bt, lp, vp_rg, Int32.lt_iff_toInt_lt, Int32.le_iff_toInt_le, Int64.lt_iff_toInt_lt, Int64.le_iff_toInt_le, l32, sI_2, tq_0, tq_1, tq_2, tq_6, tq_8, tq_10, tq_20, tq_30, tq_40, tl_0, tl_1, tl_2, tl_3, tl_4, tl_5, tl_6, tl_8, tl_10, tl_14, tl_20, tl_24, tl_30, tl_40, tl_50, tl_60, tl_70, tl_80, tl_100, tl_120, tl_140, tl_180, tl_220, tl_240, tl_260, tl_280, tl_300, tl_540, tl_780, tl_1020, tl_1180, tl_1190, tl_1200, tl_1220, tl_m1] at *
    have t0 : (50 + x1).toInt = (50 + (x1).toInt) := (ti_add (a := (50 : Int32)) (b := (x1)) tl_50 rfl (by omega) (by omega))
    omega
theorem vc_FMO_hardship_ix52_6 (S : hS) (x1 : Int32) (x2 : Int64) (x4 : Int64) (hp : wfM S) (c2 : ¬ ((FMO_isHousehold (sI S 49 4 0) x1) = 0)) (c3 : x2 ≤ x4) : vp_in (60 + x1) 1220 := by
    have m0 := hp.1
    have m1 := hp.2.1
    have m3 := hp.2.2.1
    have m4 := hp.2.2.2.1
    have m6 := hp.2.2.2.2.2.2.1
    have k0 := hhM (wfM_I hp) c2
    simp only [rg, bt, lp, vp_rg, Int32.lt_iff_toInt_lt, Int32.le_iff_toInt_le, Int64.lt_iff_toInt_lt, Int64.le_iff_toInt_le, l32, sI_2, tq_0, tq_1, tq_2, tq_6, tq_8, tq_10, tq_20, tq_30, tq_40, tl_0, tl_1, tl_2, tl_3, tl_4, tl_5, tl_6, tl_8, tl_10, tl_14, tl_20, tl_24, tl_30, tl_40, tl_50, tl_60, tl_70, tl_80, tl_100, tl_120, tl_140, tl_180, tl_220, tl_240, tl_260, tl_280, tl_300, tl_540, tl_780, tl_1020, tl_1180, tl_1190, tl_1200, tl_1220, tl_m1] at *
    have t0 : (60 + x1).toInt = (60 + (x1).toInt) := (ti_add (a := (60 : Int32)) (b := (x1)) tl_60 rfl (by omega) (by omega))
    omega
theorem vc_FMO_allDue_pre18_2 (S : hS) (x1 : Int32) (x2 : Int64) (x4 : Int32) (hJ : wfM S ∧ bt x4 240) (c1 : ¬ (240 ≤ x4)) : wfM S ∧ rg x4 240 := ⟨hJ.1, (by
    have k0 := hJ.2
    have m0 := hJ.1.1
    have m1 := hJ.1.2.1
    have m3 := hJ.1.2.2.1
    have m4 := hJ.1.2.2.2.1
    have m6 := hJ.1.2.2.2.2.2.2.1
    simp only [rg, bt, lp, vp_rg, Int32.lt_iff_toInt_lt, Int32.le_iff_toInt_le, Int64.lt_iff_toInt_lt, Int64.le_iff_toInt_le, l32, sI_2, tq_0, tq_1, tq_2, tq_6, tq_8, tq_10, tq_20, tq_30, tq_40, tl_0, tl_1, tl_2, tl_3, tl_4, tl_5, tl_6, tl_8, tl_10, tl_14, tl_20, tl_24, tl_30, tl_40, tl_50, tl_60, tl_70, tl_80, tl_100, tl_120, tl_140, tl_180, tl_220, tl_240, tl_260, tl_280, tl_300, tl_540, tl_780, tl_1020, tl_1180, tl_1190, tl_1200, tl_1220, tl_m1] at *
    omega)⟩
theorem vc_FMO_allDue_inv5_4 (S : hS) (x1 : Int32) (x2 : Int64) (x4 : Int32) (hJ : wfM S ∧ bt x4 240) (c1 : ¬ (240 ≤ x4)) (c3 : (FMO_isItemOf S x4 x1) = 0) : wfM S ∧ bt (x4 + 1) 240 := ⟨hJ.1, (by
    have k0 := hJ.2
    have m0 := hJ.1.1
    have m1 := hJ.1.2.1
    have m3 := hJ.1.2.2.1
    have m4 := hJ.1.2.2.2.1
    have m6 := hJ.1.2.2.2.2.2.2.1
    simp only [rg, bt, lp, vp_rg, Int32.lt_iff_toInt_lt, Int32.le_iff_toInt_le, Int64.lt_iff_toInt_lt, Int64.le_iff_toInt_le, l32, sI_2, tq_0, tq_1, tq_2, tq_6, tq_8, tq_10, tq_20, tq_30, tq_40, tl_0, tl_1, tl_2, tl_3, tl_4, tl_5, tl_6, tl_8, tl_10, tl_14, tl_20, tl_24, tl_30, tl_40, tl_50, tl_60, tl_70, tl_80, tl_100, tl_120, tl_140, tl_180, tl_220, tl_240, tl_260, tl_280, tl_300, tl_540, tl_780, tl_1020, tl_1180, tl_1190, tl_1200, tl_1220, tl_m1] at *
    have t0 : (x4 + 1).toInt = ((x4).toInt + 1) := (ti_add (a := (x4)) (b := (1 : Int32)) rfl tl_1 (by omega) (by omega))
    omega)⟩
theorem vc_FMO_allDue_mu5_5 (S : hS) (x1 : Int32) (x2 : Int64) (x4 : Int32) (hJ : wfM S ∧ bt x4 240) (c1 : ¬ (240 ≤ x4)) (c3 : (FMO_isItemOf S x4 x1) = 0) : ((240 - (x4 + 1).toInt).toNat) < ((240 - x4.toInt).toNat) := by
    have k0 := hJ.2
    have m0 := hJ.1.1
    have m1 := hJ.1.2.1
    have m3 := hJ.1.2.2.1
    have m4 := hJ.1.2.2.2.1
    have m6 := hJ.1.2.2.2.2.2.2.1
    simp only [rg, bt, lp, vp_rg, Int32.lt_iff_toInt_lt, Int32.le_iff_toInt_le, Int64.lt_iff_toInt_lt, Int64.le_iff_toInt_le, l32, sI_2, tq_0, tq_1, tq_2, tq_6, tq_8, tq_10, tq_20, tq_30, tq_40, tl_0, tl_1, tl_2, tl_3, tl_4, tl_5, tl_6, tl_8, tl_10, tl_14, tl_20, tl_24, tl_30, tl_40, tl_50, tl_60, tl_70, tl_80, tl_100, tl_120, tl_140, tl_180, tl_220, tl_240, tl_260, tl_280, tl_300, tl_540, tl_780, tl_1020, tl_1180, tl_1190, tl_1200, tl_1220, tl_m1] at *
    have t0 : (x4 + 1).toInt = ((x4).toInt + 1) := (ti_add (a := (x4)) (b := (1 : Int32)) rfl tl_1 (by omega) (by omega))
    omega
theorem vc_FMO_allDue_ix34_6 (S : hS) (x1 : Int32) (x2 : Int64) (x4 : Int32) (hJ : wfM S ∧ bt x4 240) (c1 : ¬ (240 ≤ x4)) (c3 : ¬ ((FMO_isItemOf S x4 x1) = 0)) : vp_in (780 + x4) 1220 := by
    have k0 := hJ.2
    have m0 := hJ.1.1
    have m1 := hJ.1.2.1
    have m3 := hJ.1.2.2.1
    have m4 := hJ.1.2.2.2.1
    have m6 := hJ.1.2.2.2.2.2.2.1
    simp only [rg, bt, lp, vp_rg, Int32.lt_iff_toInt_lt, Int32.le_iff_toInt_le, Int64.lt_iff_toInt_lt, Int64.le_iff_toInt_le, l32, sI_2, tq_0, tq_1, tq_2, tq_6, tq_8, tq_10, tq_20, tq_30, tq_40, tl_0, tl_1, tl_2, tl_3, tl_4, tl_5, tl_6, tl_8, tl_10, tl_14, tl_20, tl_24, tl_30, tl_40, tl_50, tl_60, tl_70, tl_80, tl_100, tl_120, tl_140, tl_180, tl_220, tl_240, tl_260, tl_280, tl_300, tl_540, tl_780, tl_1020, tl_1180, tl_1190, tl_1200, tl_1220, tl_m1] at *
    have t0 : (780 + x4).toInt = (780 + (x4).toInt) := (ti_add (a := (780 : Int32)) (b := (x4)) tl_780 rfl (by omega) (by omega))
    omega
theorem vc_FMO_allDue_inv5_7 (S : hS) (x1 : Int32) (x2 : Int64) (x4 : Int32) (hJ : wfM S ∧ bt x4 240) (c1 : ¬ (240 ≤ x4)) (c3 : ¬ ((FMO_isItemOf S x4 x1) = 0)) : wfM S ∧ bt (x4 + 1) 240 := ⟨hJ.1, (by
    have k0 := hJ.2
    have m0 := hJ.1.1
    have m1 := hJ.1.2.1
    have m3 := hJ.1.2.2.1
    have m4 := hJ.1.2.2.2.1
    have m6 := hJ.1.2.2.2.2.2.2.1
    simp only [rg, bt, lp, vp_rg, Int32.lt_iff_toInt_lt, Int32.le_iff_toInt_le, Int64.lt_iff_toInt_lt, Int64.le_iff_toInt_le, l32, sI_2, tq_0, tq_1, tq_2, tq_6, tq_8, tq_10, tq_20, tq_30, tq_40, tl_0, tl_1, tl_2, tl_3, tl_4, tl_5, tl_6, tl_8, tl_10, tl_14, tl_20, tl_24, tl_30, tl_40, tl_50, tl_60, tl_70, tl_80, tl_100, tl_120, tl_140, tl_180, tl_220, tl_240, tl_260, tl_280, tl_300, tl_540, tl_780, tl_1020, tl_1180, tl_1190, tl_1200, tl_1220, tl_m1] at *
    have t0 : (x4 + 1).toInt = ((x4).toInt + 1) := (ti_add (a := (x4)) (b := (1 : Int32)) rfl tl_1 (by omega) (by omega))
    omega)⟩
theorem vc_FMO_allDue_mu5_8 (S : hS) (x1 : Int32) (x2 : Int64) (x4 : Int32) (hJ : wfM S ∧ bt x4 240) (c1 : ¬ (240 ≤ x4)) (c3 : ¬ ((FMO_isItemOf S x4 x1) = 0)) : ((240 - (x4 + 1).toInt).toNat) < ((240 - x4.toInt).toNat) := by
    have k0 := hJ.2
    have m0 := hJ.1.1
    have m1 := hJ.1.2.1
    have m3 := hJ.1.2.2.1
    have m4 := hJ.1.2.2.2.1
    have m6 := hJ.1.2.2.2.2.2.2.1
    simp only [rg, bt, lp, vp_rg, Int32.lt_iff_toInt_lt, Int32.le_iff_toInt_le, Int64.lt_iff_toInt_lt, Int64.le_iff_toInt_le, l32, sI_2, tq_0, tq_1, tq_2, tq_6, tq_8, tq_10, tq_20, tq_30, tq_40, tl_0, tl_1, tl_2, tl_3, tl_4, tl_5, tl_6, tl_8, tl_10, tl_14, tl_20, tl_24, tl_30, tl_40, tl_50, tl_60, tl_70, tl_80, tl_100, tl_120, tl_140, tl_180, tl_220, tl_240, tl_260, tl_280, tl_300, tl_540, tl_780, tl_1020, tl_1180, tl_1190, tl_1200, tl_1220, tl_m1] at *
    have t0 : (x4 + 1).toInt = ((x4).toInt + 1) := (ti_add (a := (x4)) (b := (1 : Int32)) rfl tl_1 (by omega) (by omega))
    omega
theorem vc_FMO_allDue_inv05_10 (S : hS) (x1 : Int32) (hp : wfM S) : wfM S ∧ bt (0 : Int32) 240 := ⟨hp, (by
    have m0 := hp.1
    have m1 := hp.2.1
    have m3 := hp.2.2.1
    have m4 := hp.2.2.2.1
    have m6 := hp.2.2.2.2.2.2.1
    simp only [rg, bt, lp, vp_rg, Int32.lt_iff_toInt_lt, Int32.le_iff_toInt_le, Int64.lt_iff_toInt_lt, Int64.le_iff_toInt_le, l32, sI_2, tq_0, tq_1, tq_2, tq_6, tq_8, tq_10, tq_20, tq_30, tq_40, tl_0, tl_1, tl_2, tl_3, tl_4, tl_5, tl_6, tl_8, tl_10, tl_14, tl_20, tl_24, tl_30, tl_40, tl_50, tl_60, tl_70, tl_80, tl_100, tl_120, tl_140, tl_180, tl_220, tl_240, tl_260, tl_280, tl_300, tl_540, tl_780, tl_1020, tl_1180, tl_1190, tl_1200, tl_1220, tl_m1] at *
    have t0 : (0 : Int32).toInt = 0 := tl_0
    omega)⟩
theorem vc_FMO_allDue_mu05_11 (S : hS) (x1 : Int32) (hp : wfM S) : ((240 - (0 : Int32).toInt).toNat) < 300 := by
    have m0 := hp.1
    have m1 := hp.2.1
    have m3 := hp.2.2.1
    have m4 := hp.2.2.2.1
    have m6 := hp.2.2.2.2.2.2.1
    simp only [rg, bt, lp, vp_rg, Int32.lt_iff_toInt_lt, Int32.le_iff_toInt_le, Int64.lt_iff_toInt_lt, Int64.le_iff_toInt_le, l32, sI_2, tq_0, tq_1, tq_2, tq_6, tq_8, tq_10, tq_20, tq_30, tq_40, tl_0, tl_1, tl_2, tl_3, tl_4, tl_5, tl_6, tl_8, tl_10, tl_14, tl_20, tl_24, tl_30, tl_40, tl_50, tl_60, tl_70, tl_80, tl_100, tl_120, tl_140, tl_180, tl_220, tl_240, tl_260, tl_280, tl_300, tl_540, tl_780, tl_1020, tl_1180, tl_1190, tl_1200, tl_1220, tl_m1] at *
    have t0 : (0 : Int32).toInt = 0 := tl_0
    omega
theorem vc_FMO_instal_pre7_1 (S : hS) (x1 : Int32) (x2 : Int32) (hp : wfM S) : wfM (sI S 49 4 0) := (wfM_I hp)
theorem vc_FMO_instal_ix29_5 (S : hS) (x1 : Int32) (x2 : Int32) (hp : wfM S) (c2 : ¬ ((FMO_isHousehold (sI S 49 4 0) x1) = 0)) (c3 : ¬ (x2 < 1)) (c4 : ¬ (24 < x2)) : vp_in 3 1220 := by
    have m0 := hp.1
    have m1 := hp.2.1
    have m3 := hp.2.2.1
    have m4 := hp.2.2.2.1
    have m6 := hp.2.2.2.2.2.2.1
    have k0 := hhM (wfM_I hp) c2
    simp only [rg, bt, lp, vp_rg, Int32.lt_iff_toInt_lt, Int32.le_iff_toInt_le, Int64.lt_iff_toInt_lt, Int64.le_iff_toInt_le, l32, sI_2, tq_0, tq_1, tq_2, tq_6, tq_8, tq_10, tq_20, tq_30, tq_40, tl_0, tl_1, tl_2, tl_3, tl_4, tl_5, tl_6, tl_8, tl_10, tl_14, tl_20, tl_24, tl_30, tl_40, tl_50, tl_60, tl_70, tl_80, tl_100, tl_120, tl_140, tl_180, tl_220, tl_240, tl_260, tl_280, tl_300, tl_540, tl_780, tl_1020, tl_1180, tl_1190, tl_1200, tl_1220, tl_m1] at *
    have t0 : (3 : Int32).toInt = 3 := tl_3
    omega
theorem vc_FMO_instal_pre39_7 (S : hS) (x1 : Int32) (x2 : Int32) (hp : wfM S) (c2 : ¬ ((FMO_isHousehold (sI S 49 4 0) x1) = 0)) (c3 : ¬ (x2 < 1)) (c4 : ¬ (24 < x2)) (c6 : ¬ ((S.2 50 3) = 10)) : wfM (sI S 49 4 0) := (wfM_I hp)
theorem vc_FMO_instal_ix54_9 (S : hS) (x1 : Int32) (x2 : Int32) (hp : wfM S) (c2 : ¬ ((FMO_isHousehold (sI S 49 4 0) x1) = 0)) (c3 : ¬ (x2 < 1)) (c4 : ¬ (24 < x2)) (c6 : ¬ ((S.2 50 3) = 10)) (c8 : ¬ ((FMO_allDue (sI S 49 4 0) x1) = 0)) : vp_in 3 1220 := by
    have m0 := hp.1
    have m1 := hp.2.1
    have m3 := hp.2.2.1
    have m4 := hp.2.2.2.1
    have m6 := hp.2.2.2.2.2.2.1
    have k0 := hhM (wfM_I hp) c2
    have k1 := ne64 c6
    simp only [rg, bt, lp, vp_rg, Int32.lt_iff_toInt_lt, Int32.le_iff_toInt_le, Int64.lt_iff_toInt_lt, Int64.le_iff_toInt_le, l32, sI_2, tq_0, tq_1, tq_2, tq_6, tq_8, tq_10, tq_20, tq_30, tq_40, tl_0, tl_1, tl_2, tl_3, tl_4, tl_5, tl_6, tl_8, tl_10, tl_14, tl_20, tl_24, tl_30, tl_40, tl_50, tl_60, tl_70, tl_80, tl_100, tl_120, tl_140, tl_180, tl_220, tl_240, tl_260, tl_280, tl_300, tl_540, tl_780, tl_1020, tl_1180, tl_1190, tl_1200, tl_1220, tl_m1] at *
    have t0 : (3 : Int32).toInt = 3 := tl_3
    omega
theorem vc_FMO_instal_pre68_10 (S : hS) (x1 : Int32) (x2 : Int32) (hp : wfM S) (c2 : ¬ ((FMO_isHousehold (sI S 49 4 0) x1) = 0)) (c3 : ¬ (x2 < 1)) (c4 : ¬ (24 < x2)) (c6 : ¬ ((S.2 50 3) = 10)) (c8 : ¬ ((FMO_allDue (sI S 49 4 0) x1) = 0)) : wfM (sI S 49 4 0) := (wfM_I hp)
theorem vc_FMO_instal_ix71_11 (S : hS) (x1 : Int32) (x2 : Int32) (hp : wfM S) (c2 : ¬ ((FMO_isHousehold (sI S 49 4 0) x1) = 0)) (c3 : ¬ (x2 < 1)) (c4 : ¬ (24 < x2)) (c6 : ¬ ((S.2 50 3) = 10)) (c8 : ¬ ((FMO_allDue (sI S 49 4 0) x1) = 0)) : vp_in (1180 + ((S.2 50 3).toInt32)) 1220 := by
    have m0 := hp.1
    have m1 := hp.2.1
    have m3 := hp.2.2.1
    have m4 := hp.2.2.2.1
    have m6 := hp.2.2.2.2.2.2.1
    have k0 := hhM (wfM_I hp) c2
    have k1 := ne64 c6
    simp only [rg, bt, lp, vp_rg, Int32.lt_iff_toInt_lt, Int32.le_iff_toInt_le, Int64.lt_iff_toInt_lt, Int64.le_iff_toInt_le, l32, sI_2, tq_0, tq_1, tq_2, tq_6, tq_8, tq_10, tq_20, tq_30, tq_40, tl_0, tl_1, tl_2, tl_3, tl_4, tl_5, tl_6, tl_8, tl_10, tl_14, tl_20, tl_24, tl_30, tl_40, tl_50, tl_60, tl_70, tl_80, tl_100, tl_120, tl_140, tl_180, tl_220, tl_240, tl_260, tl_280, tl_300, tl_540, tl_780, tl_1020, tl_1180, tl_1190, tl_1200, tl_1220, tl_m1] at *
    have t0 : (1180 + ((S.2 50 3).toInt32)).toInt = (1180 + (S.2 50 3).toInt) := (ti_add (a := (1180 : Int32)) (b := ((S.2 50 3).toInt32)) tl_1180 (ti_32 (a := (S.2 50 3)) rfl (by omega) (by omega)) (by omega) (by omega))
    omega
theorem vc_FMO_instal_ix83_12 (S : hS) (x1 : Int32) (x2 : Int32) (hp : wfM S) (c2 : ¬ ((FMO_isHousehold (sI S 49 4 0) x1) = 0)) (c3 : ¬ (x2 < 1)) (c4 : ¬ (24 < x2)) (c6 : ¬ ((S.2 50 3) = 10)) (c8 : ¬ ((FMO_allDue (sI S 49 4 0) x1) = 0)) : vp_in (1190 + ((S.2 50 3).toInt32)) 1220 := by
    have m0 := hp.1
    have m1 := hp.2.1
    have m3 := hp.2.2.1
    have m4 := hp.2.2.2.1
    have m6 := hp.2.2.2.2.2.2.1
    have k0 := hhM (wfM_I hp) c2
    have k1 := ne64 c6
    simp only [rg, bt, lp, vp_rg, Int32.lt_iff_toInt_lt, Int32.le_iff_toInt_le, Int64.lt_iff_toInt_lt, Int64.le_iff_toInt_le, l32, sI_2, tq_0, tq_1, tq_2, tq_6, tq_8, tq_10, tq_20, tq_30, tq_40, tl_0, tl_1, tl_2, tl_3, tl_4, tl_5, tl_6, tl_8, tl_10, tl_14, tl_20, tl_24, tl_30, tl_40, tl_50, tl_60, tl_70, tl_80, tl_100, tl_120, tl_140, tl_180, tl_220, tl_240, tl_260, tl_280, tl_300, tl_540, tl_780, tl_1020, tl_1180, tl_1190, tl_1200, tl_1220, tl_m1] at *
    have t0 : (1190 + ((S.2 50 3).toInt32)).toInt = (1190 + (S.2 50 3).toInt) := (ti_add (a := (1190 : Int32)) (b := ((S.2 50 3).toInt32)) tl_1190 (ti_32 (a := (S.2 50 3)) rfl (by omega) (by omega)) (by omega) (by omega))
    omega
theorem vc_FMO_instal_ix90_13 (S : hS) (x1 : Int32) (x2 : Int32) (hp : wfM S) (c2 : ¬ ((FMO_isHousehold (sI S 49 4 0) x1) = 0)) (c3 : ¬ (x2 < 1)) (c4 : ¬ (24 < x2)) (c6 : ¬ ((S.2 50 3) = 10)) (c8 : ¬ ((FMO_allDue (sI S 49 4 0) x1) = 0)) : vp_in 3 1220 := by
    have m0 := hp.1
    have m1 := hp.2.1
    have m3 := hp.2.2.1
    have m4 := hp.2.2.2.1
    have m6 := hp.2.2.2.2.2.2.1
    have k0 := hhM (wfM_I hp) c2
    have k1 := ne64 c6
    simp only [rg, bt, lp, vp_rg, Int32.lt_iff_toInt_lt, Int32.le_iff_toInt_le, Int64.lt_iff_toInt_lt, Int64.le_iff_toInt_le, l32, sI_2, tq_0, tq_1, tq_2, tq_6, tq_8, tq_10, tq_20, tq_30, tq_40, tl_0, tl_1, tl_2, tl_3, tl_4, tl_5, tl_6, tl_8, tl_10, tl_14, tl_20, tl_24, tl_30, tl_40, tl_50, tl_60, tl_70, tl_80, tl_100, tl_120, tl_140, tl_180, tl_220, tl_240, tl_260, tl_280, tl_300, tl_540, tl_780, tl_1020, tl_1180, tl_1190, tl_1200, tl_1220, tl_m1] at *
    have t0 : (3 : Int32).toInt = 3 := tl_3
    omega
theorem vc_FMO_instal_ix93_14 (S : hS) (x1 : Int32) (x2 : Int32) (hp : wfM S) (c2 : ¬ ((FMO_isHousehold (sI S 49 4 0) x1) = 0)) (c3 : ¬ (x2 < 1)) (c4 : ¬ (24 < x2)) (c6 : ¬ ((S.2 50 3) = 10)) (c8 : ¬ ((FMO_allDue (sI S 49 4 0) x1) = 0)) : vp_in 3 1220 := by
    have m0 := hp.1
    have m1 := hp.2.1
    have m3 := hp.2.2.1
    have m4 := hp.2.2.2.1
    have m6 := hp.2.2.2.2.2.2.1
    have k0 := hhM (wfM_I hp) c2
    have k1 := ne64 c6
    simp only [rg, bt, lp, vp_rg, Int32.lt_iff_toInt_lt, Int32.le_iff_toInt_le, Int64.lt_iff_toInt_lt, Int64.le_iff_toInt_le, l32, sI_2, tq_0, tq_1, tq_2, tq_6, tq_8, tq_10, tq_20, tq_30, tq_40, tl_0, tl_1, tl_2, tl_3, tl_4, tl_5, tl_6, tl_8, tl_10, tl_14, tl_20, tl_24, tl_30, tl_40, tl_50, tl_60, tl_70, tl_80, tl_100, tl_120, tl_140, tl_180, tl_220, tl_240, tl_260, tl_280, tl_300, tl_540, tl_780, tl_1020, tl_1180, tl_1190, tl_1200, tl_1220, tl_m1] at *
    have t0 : (3 : Int32).toInt = 3 := tl_3
    omega
theorem vc_FMO_due_ix16_2 (S : hS) (x1 : Int32) (x2 : Int32) (hp : wfM S) (c1 : ¬ (x1 < 0)) : vp_in 3 1220 := by
    have m0 := hp.1
    have m1 := hp.2.1
    have m3 := hp.2.2.1
    have m4 := hp.2.2.2.1
    have m6 := hp.2.2.2.2.2.2.1
    simp only [rg, bt, lp, vp_rg, Int32.lt_iff_toInt_lt, Int32.le_iff_toInt_le, Int64.lt_iff_toInt_lt, Int64.le_iff_toInt_le, l32, sI_2, tq_0, tq_1, tq_2, tq_6, tq_8, tq_10, tq_20, tq_30, tq_40, tl_0, tl_1, tl_2, tl_3, tl_4, tl_5, tl_6, tl_8, tl_10, tl_14, tl_20, tl_24, tl_30, tl_40, tl_50, tl_60, tl_70, tl_80, tl_100, tl_120, tl_140, tl_180, tl_220, tl_240, tl_260, tl_280, tl_300, tl_540, tl_780, tl_1020, tl_1180, tl_1190, tl_1200, tl_1220, tl_m1] at *
    have t0 : (3 : Int32).toInt = 3 := tl_3
    omega
theorem vc_FMO_due_ix36_5 (S : hS) (x1 : Int32) (x2 : Int32) (hp : wfM S) (c1 : ¬ (x1 < 0)) (c3 : ¬ ((S.2 50 3) ≤ x1.toInt64)) (c4 : ¬ (x2 < 0)) : vp_in (1190 + x1) 1220 := by
    have m0 := hp.1
    have m1 := hp.2.1
    have m3 := hp.2.2.1
    have m4 := hp.2.2.2.1
    have m6 := hp.2.2.2.2.2.2.1
    simp only [rg, bt, lp, vp_rg, Int32.lt_iff_toInt_lt, Int32.le_iff_toInt_le, Int64.lt_iff_toInt_lt, Int64.le_iff_toInt_le, l32, sI_2, tq_0, tq_1, tq_2, tq_6, tq_8, tq_10, tq_20, tq_30, tq_40, tl_0, tl_1, tl_2, tl_3, tl_4, tl_5, tl_6, tl_8, tl_10, tl_14, tl_20, tl_24, tl_30, tl_40, tl_50, tl_60, tl_70, tl_80, tl_100, tl_120, tl_140, tl_180, tl_220, tl_240, tl_260, tl_280, tl_300, tl_540, tl_780, tl_1020, tl_1180, tl_1190, tl_1200, tl_1220, tl_m1] at *
    have t0 : (1190 + x1).toInt = (1190 + (x1).toInt) := (ti_add (a := (1190 : Int32)) (b := (x1)) tl_1190 rfl (by omega) (by omega))
    omega
theorem vc_FMO_due_ix54_7 (S : hS) (x1 : Int32) (x2 : Int32) (hp : wfM S) (c1 : ¬ (x1 < 0)) (c3 : ¬ ((S.2 50 3) ≤ x1.toInt64)) (c4 : ¬ (x2 < 0)) (c6 : x2.toInt64 < (S.2 50 ((1190 + x1).toNatClampNeg))) : vp_in (1190 + x1) 1220 := by
    have m0 := hp.1
    have m1 := hp.2.1
    have m3 := hp.2.2.1
    have m4 := hp.2.2.2.1
    have m6 := hp.2.2.2.2.2.2.1
    simp only [rg, bt, lp, vp_rg, Int32.lt_iff_toInt_lt, Int32.le_iff_toInt_le, Int64.lt_iff_toInt_lt, Int64.le_iff_toInt_le, l32, sI_2, tq_0, tq_1, tq_2, tq_6, tq_8, tq_10, tq_20, tq_30, tq_40, tl_0, tl_1, tl_2, tl_3, tl_4, tl_5, tl_6, tl_8, tl_10, tl_14, tl_20, tl_24, tl_30, tl_40, tl_50, tl_60, tl_70, tl_80, tl_100, tl_120, tl_140, tl_180, tl_220, tl_240, tl_260, tl_280, tl_300, tl_540, tl_780, tl_1020, tl_1180, tl_1190, tl_1200, tl_1220, tl_m1] at *
    have t0 : (1190 + x1).toInt = (1190 + (x1).toInt) := (ti_add (a := (1190 : Int32)) (b := (x1)) tl_1190 rfl (by omega) (by omega))
    omega
theorem vc_FMO_due_ix65_8 (S : hS) (x1 : Int32) (x2 : Int32) (hp : wfM S) (c1 : ¬ (x1 < 0)) (c3 : ¬ ((S.2 50 3) ≤ x1.toInt64)) (c4 : ¬ (x2 < 0)) (c6 : x2.toInt64 < (S.2 50 ((1190 + x1).toNatClampNeg))) : vp_in (1180 + x1) 1220 := by
    have m0 := hp.1
    have m1 := hp.2.1
    have m3 := hp.2.2.1
    have m4 := hp.2.2.2.1
    have m6 := hp.2.2.2.2.2.2.1
    simp only [rg, bt, lp, vp_rg, Int32.lt_iff_toInt_lt, Int32.le_iff_toInt_le, Int64.lt_iff_toInt_lt, Int64.le_iff_toInt_le, l32, sI_2, tq_0, tq_1, tq_2, tq_6, tq_8, tq_10, tq_20, tq_30, tq_40, tl_0, tl_1, tl_2, tl_3, tl_4, tl_5, tl_6, tl_8, tl_10, tl_14, tl_20, tl_24, tl_30, tl_40, tl_50, tl_60, tl_70, tl_80, tl_100, tl_120, tl_140, tl_180, tl_220, tl_240, tl_260, tl_280, tl_300, tl_540, tl_780, tl_1020, tl_1180, tl_1190, tl_1200, tl_1220, tl_m1] at *
    have t0 : (1180 + x1).toInt = (1180 + (x1).toInt) := (ti_add (a := (1180 : Int32)) (b := (x1)) tl_1180 rfl (by omega) (by omega))
    omega
theorem vc_FMO_due_nz67_9 (S : hS) (x1 : Int32) (x2 : Int32) (hp : wfM S) (c1 : ¬ (x1 < 0)) (c3 : ¬ ((S.2 50 3) ≤ x1.toInt64)) (c4 : ¬ (x2 < 0)) (c6 : x2.toInt64 < (S.2 50 ((1190 + x1).toNatClampNeg))) : ¬ (S.2 50 ((1190 + x1).toNatClampNeg)) = 0 := nz_part c4 c6
theorem vc_FMO_due_ix79_10 (S : hS) (x1 : Int32) (x2 : Int32) (hp : wfM S) (c1 : ¬ (x1 < 0)) (c3 : ¬ ((S.2 50 3) ≤ x1.toInt64)) (c4 : ¬ (x2 < 0)) (c6 : x2.toInt64 < (S.2 50 ((1190 + x1).toNatClampNeg))) : vp_in (1180 + x1) 1220 := by
    have m0 := hp.1
    have m1 := hp.2.1
    have m3 := hp.2.2.1
    have m4 := hp.2.2.2.1
    have m6 := hp.2.2.2.2.2.2.1
    simp only [rg, bt, lp, vp_rg, Int32.lt_iff_toInt_lt, Int32.le_iff_toInt_le, Int64.lt_iff_toInt_lt, Int64.le_iff_toInt_le, l32, sI_2, tq_0, tq_1, tq_2, tq_6, tq_8, tq_10, tq_20, tq_30, tq_40, tl_0, tl_1, tl_2, tl_3, tl_4, tl_5, tl_6, tl_8, tl_10, tl_14, tl_20, tl_24, tl_30, tl_40, tl_50, tl_60, tl_70, tl_80, tl_100, tl_120, tl_140, tl_180, tl_220, tl_240, tl_260, tl_280, tl_300, tl_540, tl_780, tl_1020, tl_1180, tl_1190, tl_1200, tl_1220, tl_m1] at *
    have t0 : (1180 + x1).toInt = (1180 + (x1).toInt) := (ti_add (a := (1180 : Int32)) (b := (x1)) tl_1180 rfl (by omega) (by omega))
    omega
theorem vc_FMO_due_nz81_11 (S : hS) (x1 : Int32) (x2 : Int32) (hp : wfM S) (c1 : ¬ (x1 < 0)) (c3 : ¬ ((S.2 50 3) ≤ x1.toInt64)) (c4 : ¬ (x2 < 0)) (c6 : x2.toInt64 < (S.2 50 ((1190 + x1).toNatClampNeg))) : ¬ (S.2 50 ((1190 + x1).toNatClampNeg)) = 0 := nz_part c4 c6
theorem vc_FMO_hasMoved_ix8_1 (S : hS) (x1 : Int32) (hp : wfM S ∧ rg x1 8) : vp_in (70 + x1) 1220 := by
    have k0 := hp.2
    have m0 := hp.1.1
    have m1 := hp.1.2.1
    have m3 := hp.1.2.2.1
    have m4 := hp.1.2.2.2.1
    have m6 := hp.1.2.2.2.2.2.2.1
    simp only [rg, bt, lp, vp_rg, Int32.lt_iff_toInt_lt, Int32.le_iff_toInt_le, Int64.lt_iff_toInt_lt, Int64.le_iff_toInt_le, l32, sI_2, tq_0, tq_1, tq_2, tq_6, tq_8, tq_10, tq_20, tq_30, tq_40, tl_0, tl_1, tl_2, tl_3, tl_4, tl_5, tl_6, tl_8, tl_10, tl_14, tl_20, tl_24, tl_30, tl_40, tl_50, tl_60, tl_70, tl_80, tl_100, tl_120, tl_140, tl_180, tl_220, tl_240, tl_260, tl_280, tl_300, tl_540, tl_780, tl_1020, tl_1180, tl_1190, tl_1200, tl_1220, tl_m1] at *
    have t0 : (70 + x1).toInt = (70 + (x1).toInt) := (ti_add (a := (70 : Int32)) (b := (x1)) tl_70 rfl (by omega) (by omega))
    omega
theorem vc_FMO_hasMoved_ix22_3 (S : hS) (x1 : Int32) (hp : wfM S ∧ rg x1 8) (c2 : ¬ (0 < (S.2 50 ((70 + x1).toNatClampNeg)))) : vp_in (80 + x1) 1220 := by
    have k0 := hp.2
    have m0 := hp.1.1
    have m1 := hp.1.2.1
    have m3 := hp.1.2.2.1
    have m4 := hp.1.2.2.2.1
    have m6 := hp.1.2.2.2.2.2.2.1
    simp only [rg, bt, lp, vp_rg, Int32.lt_iff_toInt_lt, Int32.le_iff_toInt_le, Int64.lt_iff_toInt_lt, Int64.le_iff_toInt_le, l32, sI_2, tq_0, tq_1, tq_2, tq_6, tq_8, tq_10, tq_20, tq_30, tq_40, tl_0, tl_1, tl_2, tl_3, tl_4, tl_5, tl_6, tl_8, tl_10, tl_14, tl_20, tl_24, tl_30, tl_40, tl_50, tl_60, tl_70, tl_80, tl_100, tl_120, tl_140, tl_180, tl_220, tl_240, tl_260, tl_280, tl_300, tl_540, tl_780, tl_1020, tl_1180, tl_1190, tl_1200, tl_1220, tl_m1] at *
    have t0 : (80 + x1).toInt = (80 + (x1).toInt) := (ti_add (a := (80 : Int32)) (b := (x1)) tl_80 rfl (by omega) (by omega))
    omega
theorem vc_FMO_move_pre7_1 (S : hS) (x1 : Int32) (x2 : Int32) (x3 : Int64) (hp : wfM S) : wfM (sI S 49 4 0) := (wfM_I hp)
theorem vc_FMO_move_pre15_3 (S : hS) (x1 : Int32) (x2 : Int32) (x3 : Int64) (hp : wfM S) (c2 : ¬ ((FMO_isHousehold (sI S 49 4 0) x1) = 0)) : wfM (sI S 49 4 0) := (wfM_I hp)
theorem vc_FMO_move_pre35_7 (S : hS) (x1 : Int32) (x2 : Int32) (x3 : Int64) (hp : wfM S) (c2 : ¬ ((FMO_isHousehold (sI S 49 4 0) x1) = 0)) (c4 : ¬ ((FMO_isHousehold (sI S 49 4 0) x2) = 0)) (c5 : ¬ (x1 = x2)) (c6 : ¬ ((FMO_isDay (sI S 49 4 0) x3) = 0)) : wfM (sI S 49 4 0) ∧ rg x1 8 := ⟨(wfM_I hp), (by
    have m0 := hp.1
    have m1 := hp.2.1
    have m3 := hp.2.2.1
    have m4 := hp.2.2.2.1
    have m6 := hp.2.2.2.2.2.2.1
    have k0 := hhM (wfM_I hp) c2
    have k1 := hhM (wfM_I hp) c4
    simp only [rg, bt, lp, vp_rg, Int32.lt_iff_toInt_lt, Int32.le_iff_toInt_le, Int64.lt_iff_toInt_lt, Int64.le_iff_toInt_le, l32, sI_2, tq_0, tq_1, tq_2, tq_6, tq_8, tq_10, tq_20, tq_30, tq_40, tl_0, tl_1, tl_2, tl_3, tl_4, tl_5, tl_6, tl_8, tl_10, tl_14, tl_20, tl_24, tl_30, tl_40, tl_50, tl_60, tl_70, tl_80, tl_100, tl_120, tl_140, tl_180, tl_220, tl_240, tl_260, tl_280, tl_300, tl_540, tl_780, tl_1020, tl_1180, tl_1190, tl_1200, tl_1220, tl_m1] at *
    omega)⟩
theorem vc_FMO_move_pre43_9 (S : hS) (x1 : Int32) (x2 : Int32) (x3 : Int64) (hp : wfM S) (c2 : ¬ ((FMO_isHousehold (sI S 49 4 0) x1) = 0)) (c4 : ¬ ((FMO_isHousehold (sI S 49 4 0) x2) = 0)) (c5 : ¬ (x1 = x2)) (c6 : ¬ ((FMO_isDay (sI S 49 4 0) x3) = 0)) (c8 : (FMO_hasMoved (sI S 49 4 0) x1) = 0) : wfM (sI S 49 4 0) ∧ rg x2 8 := ⟨(wfM_I hp), (by
    have m0 := hp.1
    have m1 := hp.2.1
    have m3 := hp.2.2.1
    have m4 := hp.2.2.2.1
    have m6 := hp.2.2.2.2.2.2.1
    have k0 := hhM (wfM_I hp) c2
    have k1 := hhM (wfM_I hp) c4
    simp only [rg, bt, lp, vp_rg, Int32.lt_iff_toInt_lt, Int32.le_iff_toInt_le, Int64.lt_iff_toInt_lt, Int64.le_iff_toInt_le, l32, sI_2, tq_0, tq_1, tq_2, tq_6, tq_8, tq_10, tq_20, tq_30, tq_40, tl_0, tl_1, tl_2, tl_3, tl_4, tl_5, tl_6, tl_8, tl_10, tl_14, tl_20, tl_24, tl_30, tl_40, tl_50, tl_60, tl_70, tl_80, tl_100, tl_120, tl_140, tl_180, tl_220, tl_240, tl_260, tl_280, tl_300, tl_540, tl_780, tl_1020, tl_1180, tl_1190, tl_1200, tl_1220, tl_m1] at *
    omega)⟩
theorem vc_FMO_move_ix62_11 (S : hS) (x1 : Int32) (x2 : Int32) (x3 : Int64) (hp : wfM S) (c2 : ¬ ((FMO_isHousehold (sI S 49 4 0) x1) = 0)) (c4 : ¬ ((FMO_isHousehold (sI S 49 4 0) x2) = 0)) (c5 : ¬ (x1 = x2)) (c6 : ¬ ((FMO_isDay (sI S 49 4 0) x3) = 0)) (c8 : (FMO_hasMoved (sI S 49 4 0) x1) = 0) (c10 : (FMO_hasMoved (sI S 49 4 0) x2) = 0) : vp_in (70 + x1) 1220 := by
    have m0 := hp.1
    have m1 := hp.2.1
    have m3 := hp.2.2.1
    have m4 := hp.2.2.2.1
    have m6 := hp.2.2.2.2.2.2.1
    have k0 := hhM (wfM_I hp) c2
    have k1 := hhM (wfM_I hp) c4
    simp only [rg, bt, lp, vp_rg, Int32.lt_iff_toInt_lt, Int32.le_iff_toInt_le, Int64.lt_iff_toInt_lt, Int64.le_iff_toInt_le, l32, sI_2, tq_0, tq_1, tq_2, tq_6, tq_8, tq_10, tq_20, tq_30, tq_40, tl_0, tl_1, tl_2, tl_3, tl_4, tl_5, tl_6, tl_8, tl_10, tl_14, tl_20, tl_24, tl_30, tl_40, tl_50, tl_60, tl_70, tl_80, tl_100, tl_120, tl_140, tl_180, tl_220, tl_240, tl_260, tl_280, tl_300, tl_540, tl_780, tl_1020, tl_1180, tl_1190, tl_1200, tl_1220, tl_m1] at *
    have t0 : (70 + x1).toInt = (70 + (x1).toInt) := (ti_add (a := (70 : Int32)) (b := (x1)) tl_70 rfl (by omega) (by omega))
    omega
theorem vc_FMO_move_ix74_12 (S : hS) (x1 : Int32) (x2 : Int32) (x3 : Int64) (hp : wfM S) (c2 : ¬ ((FMO_isHousehold (sI S 49 4 0) x1) = 0)) (c4 : ¬ ((FMO_isHousehold (sI S 49 4 0) x2) = 0)) (c5 : ¬ (x1 = x2)) (c6 : ¬ ((FMO_isDay (sI S 49 4 0) x3) = 0)) (c8 : (FMO_hasMoved (sI S 49 4 0) x1) = 0) (c10 : (FMO_hasMoved (sI S 49 4 0) x2) = 0) : vp_in (80 + x2) 1220 := by
    have m0 := hp.1
    have m1 := hp.2.1
    have m3 := hp.2.2.1
    have m4 := hp.2.2.2.1
    have m6 := hp.2.2.2.2.2.2.1
    have k0 := hhM (wfM_I hp) c2
    have k1 := hhM (wfM_I hp) c4
    simp only [rg, bt, lp, vp_rg, Int32.lt_iff_toInt_lt, Int32.le_iff_toInt_le, Int64.lt_iff_toInt_lt, Int64.le_iff_toInt_le, l32, sI_2, tq_0, tq_1, tq_2, tq_6, tq_8, tq_10, tq_20, tq_30, tq_40, tl_0, tl_1, tl_2, tl_3, tl_4, tl_5, tl_6, tl_8, tl_10, tl_14, tl_20, tl_24, tl_30, tl_40, tl_50, tl_60, tl_70, tl_80, tl_100, tl_120, tl_140, tl_180, tl_220, tl_240, tl_260, tl_280, tl_300, tl_540, tl_780, tl_1020, tl_1180, tl_1190, tl_1200, tl_1220, tl_m1] at *
    have t0 : (80 + x2).toInt = (80 + (x2).toInt) := (ti_add (a := (80 : Int32)) (b := (x2)) tl_80 rfl (by omega) (by omega))
    omega
theorem vc_FMO_common_nz17_2 (S : hS) (x0 : Int64) (x2 : Int64) (x4 : Int64) (x6 : Int64) (c1 : ¬ (x4 = 0)) : ¬ x4 = 0 := c1
theorem vc_FMO_common_mu6_3 (S : hS) (x0 : Int64) (x2 : Int64) (x4 : Int64) (x6 : Int64) (c1 : ¬ (x4 = 0)) : ((x6 - x6 / x4 * x4).toInt.natAbs) < (x4.toInt.natAbs) := com_mu c1
theorem vc_FMO_common_mu06_5 (S : hS) (x0 : Int64) (x2 : Int64) : (x0.toInt.natAbs) < 9223372036854775809 := abs64 _
theorem vc_FMO_part_nz22_2 (S : hS) (x0 : Int64) (x2 : Int64) (x4 : Int32) (hp : ¬ x2 = 0) (c1 : ¬ (x4 = 0)) : ¬ (FMO_common S x0 x2) = 0 := comNZ hp
theorem vc_FMO_part_nz15_3 (S : hS) (x0 : Int64) (x2 : Int64) (x4 : Int32) (hp : ¬ x2 = 0) (c1 : x4 = 0) : ¬ (FMO_common S x0 x2) = 0 := comNZ hp
theorem vc_FMO_share_pre7_1 (S : hS) (x1 : Int32) (x2 : Int32) (x3 : Int32) (hp : wfM S) : wfM (sI S 49 4 0) := (wfM_I hp)
theorem vc_FMO_share_ix65_8 (S : hS) (x1 : Int32) (x2 : Int32) (x3 : Int32) (x4 : Int32) (x5 : Int32) (hJ : wfM S ∧ rg x1 8 ∧ rg x2 120 ∧ 30 * x2.toInt ≤ x5.toInt ∧ x5.toInt ≤ 30 * x2.toInt + 30) (c7 : ¬ (((30 * x2) + 30) ≤ x5)) : vp_in (70 + x1) 1220 := by
    have k0 := hJ.2.1
    have k1 := hJ.2.2.1
    have k2 := hJ.2.2.2.1
    have k3 := hJ.2.2.2.2
    have m0 := hJ.1.1
    have m1 := hJ.1.2.1
    have m3 := hJ.1.2.2.1
    have m4 := hJ.1.2.2.2.1
    have m6 := hJ.1.2.2.2.2.2.2.1
    simp only [rg, bt, lp, vp_rg, Int32.lt_iff_toInt_lt, Int32.le_iff_toInt_le, Int64.lt_iff_toInt_lt, Int64.le_iff_toInt_le, l32, sI_2, tq_0, tq_1, tq_2, tq_6, tq_8, tq_10, tq_20, tq_30, tq_40, tl_0, tl_1, tl_2, tl_3, tl_4, tl_5, tl_6, tl_8, tl_10, tl_14, tl_20, tl_24, tl_30, tl_40, tl_50, tl_60, tl_70, tl_80, tl_100, tl_120, tl_140, tl_180, tl_220, tl_240, tl_260, tl_280, tl_300, tl_540, tl_780, tl_1020, tl_1180, tl_1190, tl_1200, tl_1220, tl_m1] at *
    have k4 : ((30 * x2) + 30).toInt = ((30 * (x2).toInt) + 30) := (ti_add (a := (30 * x2)) (b := (30 : Int32)) (ti_mul (a := (30 : Int32)) (b := (x2)) tl_30 rfl (by omega) (by omega)) tl_30 (by omega) (by omega))
    have t0 : (70 + x1).toInt = (70 + (x1).toInt) := (ti_add (a := (70 : Int32)) (b := (x1)) tl_70 rfl (by omega) (by omega))
    omega
theorem vc_FMO_share_ix104_10 (S : hS) (x1 : Int32) (x2 : Int32) (x3 : Int32) (x4 : Int32) (x5 : Int32) (hJ : wfM S ∧ rg x1 8 ∧ rg x2 120 ∧ 30 * x2.toInt ≤ x5.toInt ∧ x5.toInt ≤ 30 * x2.toInt + 30) (c7 : ¬ (((30 * x2) + 30) ≤ x5)) (c9 : (S.2 50 ((70 + x1).toNatClampNeg)) ≤ 0) : vp_in (80 + x1) 1220 := by
    have k0 := hJ.2.1
    have k1 := hJ.2.2.1
    have k2 := hJ.2.2.2.1
    have k3 := hJ.2.2.2.2
    have m0 := hJ.1.1
    have m1 := hJ.1.2.1
    have m3 := hJ.1.2.2.1
    have m4 := hJ.1.2.2.2.1
    have m6 := hJ.1.2.2.2.2.2.2.1
    simp only [rg, bt, lp, vp_rg, Int32.lt_iff_toInt_lt, Int32.le_iff_toInt_le, Int64.lt_iff_toInt_lt, Int64.le_iff_toInt_le, l32, sI_2, tq_0, tq_1, tq_2, tq_6, tq_8, tq_10, tq_20, tq_30, tq_40, tl_0, tl_1, tl_2, tl_3, tl_4, tl_5, tl_6, tl_8, tl_10, tl_14, tl_20, tl_24, tl_30, tl_40, tl_50, tl_60, tl_70, tl_80, tl_100, tl_120, tl_140, tl_180, tl_220, tl_240, tl_260, tl_280, tl_300, tl_540, tl_780, tl_1020, tl_1180, tl_1190, tl_1200, tl_1220, tl_m1] at *
    have k4 : ((30 * x2) + 30).toInt = ((30 * (x2).toInt) + 30) := (ti_add (a := (30 * x2)) (b := (30 : Int32)) (ti_mul (a := (30 : Int32)) (b := (x2)) tl_30 rfl (by omega) (by omega)) tl_30 (by omega) (by omega))
    have t0 : (80 + x1).toInt = (80 + (x1).toInt) := (ti_add (a := (80 : Int32)) (b := (x1)) tl_80 rfl (by omega) (by omega))
    omega
theorem vc_FMO_share_inv45_12 (S : hS) (x1 : Int32) (x2 : Int32) (x3 : Int32) (x4 : Int32) (x5 : Int32) (hJ : wfM S ∧ rg x1 8 ∧ rg x2 120 ∧ 30 * x2.toInt ≤ x5.toInt ∧ x5.toInt ≤ 30 * x2.toInt + 30) (c7 : ¬ (((30 * x2) + 30) ≤ x5)) (c9 : (S.2 50 ((70 + x1).toNatClampNeg)) ≤ 0) (c11 : (S.2 50 ((80 + x1).toNatClampNeg)) ≤ 0) : wfM S ∧ rg x1 8 ∧ rg x2 120 ∧ 30 * x2.toInt ≤ (x5 + 1).toInt ∧ (x5 + 1).toInt ≤ 30 * x2.toInt + 30 := ⟨hJ.1, hJ.2.1, hJ.2.2.1, (by
    have k0 := hJ.2.1
    have k1 := hJ.2.2.1
    have k2 := hJ.2.2.2.1
    have k3 := hJ.2.2.2.2
    have m0 := hJ.1.1
    have m1 := hJ.1.2.1
    have m3 := hJ.1.2.2.1
    have m4 := hJ.1.2.2.2.1
    have m6 := hJ.1.2.2.2.2.2.2.1
    simp only [rg, bt, lp, vp_rg, Int32.lt_iff_toInt_lt, Int32.le_iff_toInt_le, Int64.lt_iff_toInt_lt, Int64.le_iff_toInt_le, l32, sI_2, tq_0, tq_1, tq_2, tq_6, tq_8, tq_10, tq_20, tq_30, tq_40, tl_0, tl_1, tl_2, tl_3, tl_4, tl_5, tl_6, tl_8, tl_10, tl_14, tl_20, tl_24, tl_30, tl_40, tl_50, tl_60, tl_70, tl_80, tl_100, tl_120, tl_140, tl_180, tl_220, tl_240, tl_260, tl_280, tl_300, tl_540, tl_780, tl_1020, tl_1180, tl_1190, tl_1200, tl_1220, tl_m1] at *
    have k4 : ((30 * x2) + 30).toInt = ((30 * (x2).toInt) + 30) := (ti_add (a := (30 * x2)) (b := (30 : Int32)) (ti_mul (a := (30 : Int32)) (b := (x2)) tl_30 rfl (by omega) (by omega)) tl_30 (by omega) (by omega))
    have t0 : (x5 + 1).toInt = ((x5).toInt + 1) := (ti_add (a := (x5)) (b := (1 : Int32)) rfl tl_1 (by omega) (by omega))
    omega), (by
    have k0 := hJ.2.1
    have k1 := hJ.2.2.1
    have k2 := hJ.2.2.2.1
    have k3 := hJ.2.2.2.2
    have m0 := hJ.1.1
    have m1 := hJ.1.2.1
    have m3 := hJ.1.2.2.1
    have m4 := hJ.1.2.2.2.1
    have m6 := hJ.1.2.2.2.2.2.2.1
    simp only [rg, bt, lp, vp_rg, Int32.lt_iff_toInt_lt, Int32.le_iff_toInt_le, Int64.lt_iff_toInt_lt, Int64.le_iff_toInt_le, l32, sI_2, tq_0, tq_1, tq_2, tq_6, tq_8, tq_10, tq_20, tq_30, tq_40, tl_0, tl_1, tl_2, tl_3, tl_4, tl_5, tl_6, tl_8, tl_10, tl_14, tl_20, tl_24, tl_30, tl_40, tl_50, tl_60, tl_70, tl_80, tl_100, tl_120, tl_140, tl_180, tl_220, tl_240, tl_260, tl_280, tl_300, tl_540, tl_780, tl_1020, tl_1180, tl_1190, tl_1200, tl_1220, tl_m1] at *
    have k4 : ((30 * x2) + 30).toInt = ((30 * (x2).toInt) + 30) := (ti_add (a := (30 * x2)) (b := (30 : Int32)) (ti_mul (a := (30 : Int32)) (b := (x2)) tl_30 rfl (by omega) (by omega)) tl_30 (by omega) (by omega))
    have t0 : (x5 + 1).toInt = ((x5).toInt + 1) := (ti_add (a := (x5)) (b := (1 : Int32)) rfl tl_1 (by omega) (by omega))
    omega)⟩
theorem vc_FMO_share_mu45_13 (S : hS) (x1 : Int32) (x2 : Int32) (x3 : Int32) (x4 : Int32) (x5 : Int32) (hJ : wfM S ∧ rg x1 8 ∧ rg x2 120 ∧ 30 * x2.toInt ≤ x5.toInt ∧ x5.toInt ≤ 30 * x2.toInt + 30) (c7 : ¬ (((30 * x2) + 30) ≤ x5)) (c9 : (S.2 50 ((70 + x1).toNatClampNeg)) ≤ 0) (c11 : (S.2 50 ((80 + x1).toNatClampNeg)) ≤ 0) : ((30 * x2.toInt + 30 - (x5 + 1).toInt).toNat) < ((30 * x2.toInt + 30 - x5.toInt).toNat) := by
    have k0 := hJ.2.1
    have k1 := hJ.2.2.1
    have k2 := hJ.2.2.2.1
    have k3 := hJ.2.2.2.2
    have m0 := hJ.1.1
    have m1 := hJ.1.2.1
    have m3 := hJ.1.2.2.1
    have m4 := hJ.1.2.2.2.1
    have m6 := hJ.1.2.2.2.2.2.2.1
    simp only [rg, bt, lp, vp_rg, Int32.lt_iff_toInt_lt, Int32.le_iff_toInt_le, Int64.lt_iff_toInt_lt, Int64.le_iff_toInt_le, l32, sI_2, tq_0, tq_1, tq_2, tq_6, tq_8, tq_10, tq_20, tq_30, tq_40, tl_0, tl_1, tl_2, tl_3, tl_4, tl_5, tl_6, tl_8, tl_10, tl_14, tl_20, tl_24, tl_30, tl_40, tl_50, tl_60, tl_70, tl_80, tl_100, tl_120, tl_140, tl_180, tl_220, tl_240, tl_260, tl_280, tl_300, tl_540, tl_780, tl_1020, tl_1180, tl_1190, tl_1200, tl_1220, tl_m1] at *
    have k4 : ((30 * x2) + 30).toInt = ((30 * (x2).toInt) + 30) := (ti_add (a := (30 * x2)) (b := (30 : Int32)) (ti_mul (a := (30 : Int32)) (b := (x2)) tl_30 rfl (by omega) (by omega)) tl_30 (by omega) (by omega))
    have t0 : (x5 + 1).toInt = ((x5).toInt + 1) := (ti_add (a := (x5)) (b := (1 : Int32)) rfl tl_1 (by omega) (by omega))
    omega
theorem vc_FMO_share_ix121_14 (S : hS) (x1 : Int32) (x2 : Int32) (x3 : Int32) (x4 : Int32) (x5 : Int32) (hJ : wfM S ∧ rg x1 8 ∧ rg x2 120 ∧ 30 * x2.toInt ≤ x5.toInt ∧ x5.toInt ≤ 30 * x2.toInt + 30) (c7 : ¬ (((30 * x2) + 30) ≤ x5)) (c9 : (S.2 50 ((70 + x1).toNatClampNeg)) ≤ 0) (c11 : ¬ ((S.2 50 ((80 + x1).toNatClampNeg)) ≤ 0)) : vp_in (80 + x1) 1220 := by
    have k0 := hJ.2.1
    have k1 := hJ.2.2.1
    have k2 := hJ.2.2.2.1
    have k3 := hJ.2.2.2.2
    have m0 := hJ.1.1
    have m1 := hJ.1.2.1
    have m3 := hJ.1.2.2.1
    have m4 := hJ.1.2.2.2.1
    have m6 := hJ.1.2.2.2.2.2.2.1
    simp only [rg, bt, lp, vp_rg, Int32.lt_iff_toInt_lt, Int32.le_iff_toInt_le, Int64.lt_iff_toInt_lt, Int64.le_iff_toInt_le, l32, sI_2, tq_0, tq_1, tq_2, tq_6, tq_8, tq_10, tq_20, tq_30, tq_40, tl_0, tl_1, tl_2, tl_3, tl_4, tl_5, tl_6, tl_8, tl_10, tl_14, tl_20, tl_24, tl_30, tl_40, tl_50, tl_60, tl_70, tl_80, tl_100, tl_120, tl_140, tl_180, tl_220, tl_240, tl_260, tl_280, tl_300, tl_540, tl_780, tl_1020, tl_1180, tl_1190, tl_1200, tl_1220, tl_m1] at *
    have k4 : ((30 * x2) + 30).toInt = ((30 * (x2).toInt) + 30) := (ti_add (a := (30 * x2)) (b := (30 : Int32)) (ti_mul (a := (30 : Int32)) (b := (x2)) tl_30 rfl (by omega) (by omega)) tl_30 (by omega) (by omega))
    have t0 : (80 + x1).toInt = (80 + (x1).toInt) := (ti_add (a := (80 : Int32)) (b := (x1)) tl_80 rfl (by omega) (by omega))
    omega
theorem vc_FMO_share_inv45_16 (S : hS) (x1 : Int32) (x2 : Int32) (x3 : Int32) (x4 : Int32) (x5 : Int32) (hJ : wfM S ∧ rg x1 8 ∧ rg x2 120 ∧ 30 * x2.toInt ≤ x5.toInt ∧ x5.toInt ≤ 30 * x2.toInt + 30) (c7 : ¬ (((30 * x2) + 30) ≤ x5)) (c9 : (S.2 50 ((70 + x1).toNatClampNeg)) ≤ 0) (c11 : ¬ ((S.2 50 ((80 + x1).toNatClampNeg)) ≤ 0)) (c15 : ((S.2 50 ((80 + x1).toNatClampNeg)) - 1) ≤ x5.toInt64) : wfM S ∧ rg x1 8 ∧ rg x2 120 ∧ 30 * x2.toInt ≤ (x5 + 1).toInt ∧ (x5 + 1).toInt ≤ 30 * x2.toInt + 30 := ⟨hJ.1, hJ.2.1, hJ.2.2.1, (by
    have k0 := hJ.2.1
    have k1 := hJ.2.2.1
    have k2 := hJ.2.2.2.1
    have k3 := hJ.2.2.2.2
    have m0 := hJ.1.1
    have m1 := hJ.1.2.1
    have m3 := hJ.1.2.2.1
    have m4 := hJ.1.2.2.2.1
    have m6 := hJ.1.2.2.2.2.2.2.1
    simp only [rg, bt, lp, vp_rg, Int32.lt_iff_toInt_lt, Int32.le_iff_toInt_le, Int64.lt_iff_toInt_lt, Int64.le_iff_toInt_le, l32, sI_2, tq_0, tq_1, tq_2, tq_6, tq_8, tq_10, tq_20, tq_30, tq_40, tl_0, tl_1, tl_2, tl_3, tl_4, tl_5, tl_6, tl_8, tl_10, tl_14, tl_20, tl_24, tl_30, tl_40, tl_50, tl_60, tl_70, tl_80, tl_100, tl_120, tl_140, tl_180, tl_220, tl_240, tl_260, tl_280, tl_300, tl_540, tl_780, tl_1020, tl_1180, tl_1190, tl_1200, tl_1220, tl_m1] at *
    have k4 : ((30 * x2) + 30).toInt = ((30 * (x2).toInt) + 30) := (ti_add (a := (30 * x2)) (b := (30 : Int32)) (ti_mul (a := (30 : Int32)) (b := (x2)) tl_30 rfl (by omega) (by omega)) tl_30 (by omega) (by omega))
    have t0 : (x5 + 1).toInt = ((x5).toInt + 1) := (ti_add (a := (x5)) (b := (1 : Int32)) rfl tl_1 (by omega) (by omega))
    omega), (by
    have k0 := hJ.2.1
    have k1 := hJ.2.2.1
    have k2 := hJ.2.2.2.1
    have k3 := hJ.2.2.2.2
    have m0 := hJ.1.1
    have m1 := hJ.1.2.1
    have m3 := hJ.1.2.2.1
    have m4 := hJ.1.2.2.2.1
    have m6 := hJ.1.2.2.2.2.2.2.1
    simp only [rg, bt, lp, vp_rg, Int32.lt_iff_toInt_lt, Int32.le_iff_toInt_le, Int64.lt_iff_toInt_lt, Int64.le_iff_toInt_le, l32, sI_2, tq_0, tq_1, tq_2, tq_6, tq_8, tq_10, tq_20, tq_30, tq_40, tl_0, tl_1, tl_2, tl_3, tl_4, tl_5, tl_6, tl_8, tl_10, tl_14, tl_20, tl_24, tl_30, tl_40, tl_50, tl_60, tl_70, tl_80, tl_100, tl_120, tl_140, tl_180, tl_220, tl_240, tl_260, tl_280, tl_300, tl_540, tl_780, tl_1020, tl_1180, tl_1190, tl_1200, tl_1220, tl_m1] at *
    have k4 : ((30 * x2) + 30).toInt = ((30 * (x2).toInt) + 30) := (ti_add (a := (30 * x2)) (b := (30 : Int32)) (ti_mul (a := (30 : Int32)) (b := (x2)) tl_30 rfl (by omega) (by omega)) tl_30 (by omega) (by omega))
    have t0 : (x5 + 1).toInt = ((x5).toInt + 1) := (ti_add (a := (x5)) (b := (1 : Int32)) rfl tl_1 (by omega) (by omega))
    omega)⟩
theorem vc_FMO_share_mu45_17 (S : hS) (x1 : Int32) (x2 : Int32) (x3 : Int32) (x4 : Int32) (x5 : Int32) (hJ : wfM S ∧ rg x1 8 ∧ rg x2 120 ∧ 30 * x2.toInt ≤ x5.toInt ∧ x5.toInt ≤ 30 * x2.toInt + 30) (c7 : ¬ (((30 * x2) + 30) ≤ x5)) (c9 : (S.2 50 ((70 + x1).toNatClampNeg)) ≤ 0) (c11 : ¬ ((S.2 50 ((80 + x1).toNatClampNeg)) ≤ 0)) (c15 : ((S.2 50 ((80 + x1).toNatClampNeg)) - 1) ≤ x5.toInt64) : ((30 * x2.toInt + 30 - (x5 + 1).toInt).toNat) < ((30 * x2.toInt + 30 - x5.toInt).toNat) := by
    have k0 := hJ.2.1
    have k1 := hJ.2.2.1
    have k2 := hJ.2.2.2.1
    have k3 := hJ.2.2.2.2
    have m0 := hJ.1.1
    have m1 := hJ.1.2.1
    have m3 := hJ.1.2.2.1
    have m4 := hJ.1.2.2.2.1
    have m6 := hJ.1.2.2.2.2.2.2.1
    simp only [rg, bt, lp, vp_rg, Int32.lt_iff_toInt_lt, Int32.le_iff_toInt_le, Int64.lt_iff_toInt_lt, Int64.le_iff_toInt_le, l32, sI_2, tq_0, tq_1, tq_2, tq_6, tq_8, tq_10, tq_20, tq_30, tq_40, tl_0, tl_1, tl_2, tl_3, tl_4, tl_5, tl_6, tl_8, tl_10, tl_14, tl_20, tl_24, tl_30, tl_40, tl_50, tl_60, tl_70, tl_80, tl_100, tl_120, tl_140, tl_180, tl_220, tl_240, tl_260, tl_280, tl_300, tl_540, tl_780, tl_1020, tl_1180, tl_1190, tl_1200, tl_1220, tl_m1] at *
    have k4 : ((30 * x2) + 30).toInt = ((30 * (x2).toInt) + 30) := (ti_add (a := (30 * x2)) (b := (30 : Int32)) (ti_mul (a := (30 : Int32)) (b := (x2)) tl_30 rfl (by omega) (by omega)) tl_30 (by omega) (by omega))
    have t0 : (x5 + 1).toInt = ((x5).toInt + 1) := (ti_add (a := (x5)) (b := (1 : Int32)) rfl tl_1 (by omega) (by omega))
    omega
theorem vc_FMO_share_inv45_18 (S : hS) (x1 : Int32) (x2 : Int32) (x3 : Int32) (x4 : Int32) (x5 : Int32) (hJ : wfM S ∧ rg x1 8 ∧ rg x2 120 ∧ 30 * x2.toInt ≤ x5.toInt ∧ x5.toInt ≤ 30 * x2.toInt + 30) (c7 : ¬ (((30 * x2) + 30) ≤ x5)) (c9 : (S.2 50 ((70 + x1).toNatClampNeg)) ≤ 0) (c11 : ¬ ((S.2 50 ((80 + x1).toNatClampNeg)) ≤ 0)) (c15 : ¬ (((S.2 50 ((80 + x1).toNatClampNeg)) - 1) ≤ x5.toInt64)) : wfM S ∧ rg x1 8 ∧ rg x2 120 ∧ 30 * x2.toInt ≤ (x5 + 1).toInt ∧ (x5 + 1).toInt ≤ 30 * x2.toInt + 30 := ⟨hJ.1, hJ.2.1, hJ.2.2.1, (by
    have k0 := hJ.2.1
    have k1 := hJ.2.2.1
    have k2 := hJ.2.2.2.1
    have k3 := hJ.2.2.2.2
    have m0 := hJ.1.1
    have m1 := hJ.1.2.1
    have m3 := hJ.1.2.2.1
    have m4 := hJ.1.2.2.2.1
    have m6 := hJ.1.2.2.2.2.2.2.1
    simp only [rg, bt, lp, vp_rg, Int32.lt_iff_toInt_lt, Int32.le_iff_toInt_le, Int64.lt_iff_toInt_lt, Int64.le_iff_toInt_le, l32, sI_2, tq_0, tq_1, tq_2, tq_6, tq_8, tq_10, tq_20, tq_30, tq_40, tl_0, tl_1, tl_2, tl_3, tl_4, tl_5, tl_6, tl_8, tl_10, tl_14, tl_20, tl_24, tl_30, tl_40, tl_50, tl_60, tl_70, tl_80, tl_100, tl_120, tl_140, tl_180, tl_220, tl_240, tl_260, tl_280, tl_300, tl_540, tl_780, tl_1020, tl_1180, tl_1190, tl_1200, tl_1220, tl_m1] at *
    have k4 : ((30 * x2) + 30).toInt = ((30 * (x2).toInt) + 30) := (ti_add (a := (30 * x2)) (b := (30 : Int32)) (ti_mul (a := (30 : Int32)) (b := (x2)) tl_30 rfl (by omega) (by omega)) tl_30 (by omega) (by omega))
    have t0 : (x5 + 1).toInt = ((x5).toInt + 1) := (ti_add (a := (x5)) (b := (1 : Int32)) rfl tl_1 (by omega) (by omega))
    omega), (by
    have k0 := hJ.2.1
    have k1 := hJ.2.2.1
    have k2 := hJ.2.2.2.1
    have k3 := hJ.2.2.2.2
    have m0 := hJ.1.1
    have m1 := hJ.1.2.1
    have m3 := hJ.1.2.2.1
    have m4 := hJ.1.2.2.2.1
    have m6 := hJ.1.2.2.2.2.2.2.1
    simp only [rg, bt, lp, vp_rg, Int32.lt_iff_toInt_lt, Int32.le_iff_toInt_le, Int64.lt_iff_toInt_lt, Int64.le_iff_toInt_le, l32, sI_2, tq_0, tq_1, tq_2, tq_6, tq_8, tq_10, tq_20, tq_30, tq_40, tl_0, tl_1, tl_2, tl_3, tl_4, tl_5, tl_6, tl_8, tl_10, tl_14, tl_20, tl_24, tl_30, tl_40, tl_50, tl_60, tl_70, tl_80, tl_100, tl_120, tl_140, tl_180, tl_220, tl_240, tl_260, tl_280, tl_300, tl_540, tl_780, tl_1020, tl_1180, tl_1190, tl_1200, tl_1220, tl_m1] at *
    have k4 : ((30 * x2) + 30).toInt = ((30 * (x2).toInt) + 30) := (ti_add (a := (30 * x2)) (b := (30 : Int32)) (ti_mul (a := (30 : Int32)) (b := (x2)) tl_30 rfl (by omega) (by omega)) tl_30 (by omega) (by omega))
    have t0 : (x5 + 1).toInt = ((x5).toInt + 1) := (ti_add (a := (x5)) (b := (1 : Int32)) rfl tl_1 (by omega) (by omega))
    omega)⟩
theorem vc_FMO_share_mu45_19 (S : hS) (x1 : Int32) (x2 : Int32) (x3 : Int32) (x4 : Int32) (x5 : Int32) (hJ : wfM S ∧ rg x1 8 ∧ rg x2 120 ∧ 30 * x2.toInt ≤ x5.toInt ∧ x5.toInt ≤ 30 * x2.toInt + 30) (c7 : ¬ (((30 * x2) + 30) ≤ x5)) (c9 : (S.2 50 ((70 + x1).toNatClampNeg)) ≤ 0) (c11 : ¬ ((S.2 50 ((80 + x1).toNatClampNeg)) ≤ 0)) (c15 : ¬ (((S.2 50 ((80 + x1).toNatClampNeg)) - 1) ≤ x5.toInt64)) : ((30 * x2.toInt + 30 - (x5 + 1).toInt).toNat) < ((30 * x2.toInt + 30 - x5.toInt).toNat) := by
    have k0 := hJ.2.1
    have k1 := hJ.2.2.1
    have k2 := hJ.2.2.2.1
    have k3 := hJ.2.2.2.2
    have m0 := hJ.1.1
    have m1 := hJ.1.2.1
    have m3 := hJ.1.2.2.1
    have m4 := hJ.1.2.2.2.1
    have m6 := hJ.1.2.2.2.2.2.2.1
    simp only [rg, bt, lp, vp_rg, Int32.lt_iff_toInt_lt, Int32.le_iff_toInt_le, Int64.lt_iff_toInt_lt, Int64.le_iff_toInt_le, l32, sI_2, tq_0, tq_1, tq_2, tq_6, tq_8, tq_10, tq_20, tq_30, tq_40, tl_0, tl_1, tl_2, tl_3, tl_4, tl_5, tl_6, tl_8, tl_10, tl_14, tl_20, tl_24, tl_30, tl_40, tl_50, tl_60, tl_70, tl_80, tl_100, tl_120, tl_140, tl_180, tl_220, tl_240, tl_260, tl_280, tl_300, tl_540, tl_780, tl_1020, tl_1180, tl_1190, tl_1200, tl_1220, tl_m1] at *
    have k4 : ((30 * x2) + 30).toInt = ((30 * (x2).toInt) + 30) := (ti_add (a := (30 * x2)) (b := (30 : Int32)) (ti_mul (a := (30 : Int32)) (b := (x2)) tl_30 rfl (by omega) (by omega)) tl_30 (by omega) (by omega))
    have t0 : (x5 + 1).toInt = ((x5).toInt + 1) := (ti_add (a := (x5)) (b := (1 : Int32)) rfl tl_1 (by omega) (by omega))
    omega
theorem vc_FMO_share_ix82_20 (S : hS) (x1 : Int32) (x2 : Int32) (x3 : Int32) (x4 : Int32) (x5 : Int32) (hJ : wfM S ∧ rg x1 8 ∧ rg x2 120 ∧ 30 * x2.toInt ≤ x5.toInt ∧ x5.toInt ≤ 30 * x2.toInt + 30) (c7 : ¬ (((30 * x2) + 30) ≤ x5)) (c9 : ¬ ((S.2 50 ((70 + x1).toNatClampNeg)) ≤ 0)) : vp_in (70 + x1) 1220 := by
    have k0 := hJ.2.1
    have k1 := hJ.2.2.1
    have k2 := hJ.2.2.2.1
    have k3 := hJ.2.2.2.2
    have m0 := hJ.1.1
    have m1 := hJ.1.2.1
    have m3 := hJ.1.2.2.1
    have m4 := hJ.1.2.2.2.1
    have m6 := hJ.1.2.2.2.2.2.2.1
    simp only [rg, bt, lp, vp_rg, Int32.lt_iff_toInt_lt, Int32.le_iff_toInt_le, Int64.lt_iff_toInt_lt, Int64.le_iff_toInt_le, l32, sI_2, tq_0, tq_1, tq_2, tq_6, tq_8, tq_10, tq_20, tq_30, tq_40, tl_0, tl_1, tl_2, tl_3, tl_4, tl_5, tl_6, tl_8, tl_10, tl_14, tl_20, tl_24, tl_30, tl_40, tl_50, tl_60, tl_70, tl_80, tl_100, tl_120, tl_140, tl_180, tl_220, tl_240, tl_260, tl_280, tl_300, tl_540, tl_780, tl_1020, tl_1180, tl_1190, tl_1200, tl_1220, tl_m1] at *
    have k4 : ((30 * x2) + 30).toInt = ((30 * (x2).toInt) + 30) := (ti_add (a := (30 * x2)) (b := (30 : Int32)) (ti_mul (a := (30 : Int32)) (b := (x2)) tl_30 rfl (by omega) (by omega)) tl_30 (by omega) (by omega))
    have t0 : (70 + x1).toInt = (70 + (x1).toInt) := (ti_add (a := (70 : Int32)) (b := (x1)) tl_70 rfl (by omega) (by omega))
    omega
theorem vc_FMO_share_ix104_22 (S : hS) (x1 : Int32) (x2 : Int32) (x3 : Int32) (x4 : Int32) (x5 : Int32) (hJ : wfM S ∧ rg x1 8 ∧ rg x2 120 ∧ 30 * x2.toInt ≤ x5.toInt ∧ x5.toInt ≤ 30 * x2.toInt + 30) (c7 : ¬ (((30 * x2) + 30) ≤ x5)) (c9 : ¬ ((S.2 50 ((70 + x1).toNatClampNeg)) ≤ 0)) (c21 : x5.toInt64 < ((S.2 50 ((70 + x1).toNatClampNeg)) - 1)) : vp_in (80 + x1) 1220 := by
    have k0 := hJ.2.1
    have k1 := hJ.2.2.1
    have k2 := hJ.2.2.2.1
    have k3 := hJ.2.2.2.2
    have m0 := hJ.1.1
    have m1 := hJ.1.2.1
    have m3 := hJ.1.2.2.1
    have m4 := hJ.1.2.2.2.1
    have m6 := hJ.1.2.2.2.2.2.2.1
    simp only [rg, bt, lp, vp_rg, Int32.lt_iff_toInt_lt, Int32.le_iff_toInt_le, Int64.lt_iff_toInt_lt, Int64.le_iff_toInt_le, l32, sI_2, tq_0, tq_1, tq_2, tq_6, tq_8, tq_10, tq_20, tq_30, tq_40, tl_0, tl_1, tl_2, tl_3, tl_4, tl_5, tl_6, tl_8, tl_10, tl_14, tl_20, tl_24, tl_30, tl_40, tl_50, tl_60, tl_70, tl_80, tl_100, tl_120, tl_140, tl_180, tl_220, tl_240, tl_260, tl_280, tl_300, tl_540, tl_780, tl_1020, tl_1180, tl_1190, tl_1200, tl_1220, tl_m1] at *
    have k4 : ((30 * x2) + 30).toInt = ((30 * (x2).toInt) + 30) := (ti_add (a := (30 * x2)) (b := (30 : Int32)) (ti_mul (a := (30 : Int32)) (b := (x2)) tl_30 rfl (by omega) (by omega)) tl_30 (by omega) (by omega))
    have t0 : (80 + x1).toInt = (80 + (x1).toInt) := (ti_add (a := (80 : Int32)) (b := (x1)) tl_80 rfl (by omega) (by omega))
    omega
theorem vc_FMO_share_inv45_24 (S : hS) (x1 : Int32) (x2 : Int32) (x3 : Int32) (x4 : Int32) (x5 : Int32) (hJ : wfM S ∧ rg x1 8 ∧ rg x2 120 ∧ 30 * x2.toInt ≤ x5.toInt ∧ x5.toInt ≤ 30 * x2.toInt + 30) (c7 : ¬ (((30 * x2) + 30) ≤ x5)) (c9 : ¬ ((S.2 50 ((70 + x1).toNatClampNeg)) ≤ 0)) (c21 : x5.toInt64 < ((S.2 50 ((70 + x1).toNatClampNeg)) - 1)) (c23 : (S.2 50 ((80 + x1).toNatClampNeg)) ≤ 0) : wfM S ∧ rg x1 8 ∧ rg x2 120 ∧ 30 * x2.toInt ≤ (x5 + 1).toInt ∧ (x5 + 1).toInt ≤ 30 * x2.toInt + 30 := ⟨hJ.1, hJ.2.1, hJ.2.2.1, (by
    have k0 := hJ.2.1
    have k1 := hJ.2.2.1
    have k2 := hJ.2.2.2.1
    have k3 := hJ.2.2.2.2
    have m0 := hJ.1.1
    have m1 := hJ.1.2.1
    have m3 := hJ.1.2.2.1
    have m4 := hJ.1.2.2.2.1
    have m6 := hJ.1.2.2.2.2.2.2.1
    simp only [rg, bt, lp, vp_rg, Int32.lt_iff_toInt_lt, Int32.le_iff_toInt_le, Int64.lt_iff_toInt_lt, Int64.le_iff_toInt_le, l32, sI_2, tq_0, tq_1, tq_2, tq_6, tq_8, tq_10, tq_20, tq_30, tq_40, tl_0, tl_1, tl_2, tl_3, tl_4, tl_5, tl_6, tl_8, tl_10, tl_14, tl_20, tl_24, tl_30, tl_40, tl_50, tl_60, tl_70, tl_80, tl_100, tl_120, tl_140, tl_180, tl_220, tl_240, tl_260, tl_280, tl_300, tl_540, tl_780, tl_1020, tl_1180, tl_1190, tl_1200, tl_1220, tl_m1] at *
    have k4 : ((30 * x2) + 30).toInt = ((30 * (x2).toInt) + 30) := (ti_add (a := (30 * x2)) (b := (30 : Int32)) (ti_mul (a := (30 : Int32)) (b := (x2)) tl_30 rfl (by omega) (by omega)) tl_30 (by omega) (by omega))
    have t0 : (x5 + 1).toInt = ((x5).toInt + 1) := (ti_add (a := (x5)) (b := (1 : Int32)) rfl tl_1 (by omega) (by omega))
    omega), (by
    have k0 := hJ.2.1
    have k1 := hJ.2.2.1
    have k2 := hJ.2.2.2.1
    have k3 := hJ.2.2.2.2
    have m0 := hJ.1.1
    have m1 := hJ.1.2.1
    have m3 := hJ.1.2.2.1
    have m4 := hJ.1.2.2.2.1
    have m6 := hJ.1.2.2.2.2.2.2.1
    simp only [rg, bt, lp, vp_rg, Int32.lt_iff_toInt_lt, Int32.le_iff_toInt_le, Int64.lt_iff_toInt_lt, Int64.le_iff_toInt_le, l32, sI_2, tq_0, tq_1, tq_2, tq_6, tq_8, tq_10, tq_20, tq_30, tq_40, tl_0, tl_1, tl_2, tl_3, tl_4, tl_5, tl_6, tl_8, tl_10, tl_14, tl_20, tl_24, tl_30, tl_40, tl_50, tl_60, tl_70, tl_80, tl_100, tl_120, tl_140, tl_180, tl_220, tl_240, tl_260, tl_280, tl_300, tl_540, tl_780, tl_1020, tl_1180, tl_1190, tl_1200, tl_1220, tl_m1] at *
    have k4 : ((30 * x2) + 30).toInt = ((30 * (x2).toInt) + 30) := (ti_add (a := (30 * x2)) (b := (30 : Int32)) (ti_mul (a := (30 : Int32)) (b := (x2)) tl_30 rfl (by omega) (by omega)) tl_30 (by omega) (by omega))
    have t0 : (x5 + 1).toInt = ((x5).toInt + 1) := (ti_add (a := (x5)) (b := (1 : Int32)) rfl tl_1 (by omega) (by omega))
    omega)⟩
theorem vc_FMO_share_mu45_25 (S : hS) (x1 : Int32) (x2 : Int32) (x3 : Int32) (x4 : Int32) (x5 : Int32) (hJ : wfM S ∧ rg x1 8 ∧ rg x2 120 ∧ 30 * x2.toInt ≤ x5.toInt ∧ x5.toInt ≤ 30 * x2.toInt + 30) (c7 : ¬ (((30 * x2) + 30) ≤ x5)) (c9 : ¬ ((S.2 50 ((70 + x1).toNatClampNeg)) ≤ 0)) (c21 : x5.toInt64 < ((S.2 50 ((70 + x1).toNatClampNeg)) - 1)) (c23 : (S.2 50 ((80 + x1).toNatClampNeg)) ≤ 0) : ((30 * x2.toInt + 30 - (x5 + 1).toInt).toNat) < ((30 * x2.toInt + 30 - x5.toInt).toNat) := by
    have k0 := hJ.2.1
    have k1 := hJ.2.2.1
    have k2 := hJ.2.2.2.1
    have k3 := hJ.2.2.2.2
    have m0 := hJ.1.1
    have m1 := hJ.1.2.1
    have m3 := hJ.1.2.2.1
    have m4 := hJ.1.2.2.2.1
    have m6 := hJ.1.2.2.2.2.2.2.1
    simp only [rg, bt, lp, vp_rg, Int32.lt_iff_toInt_lt, Int32.le_iff_toInt_le, Int64.lt_iff_toInt_lt, Int64.le_iff_toInt_le, l32, sI_2, tq_0, tq_1, tq_2, tq_6, tq_8, tq_10, tq_20, tq_30, tq_40, tl_0, tl_1, tl_2, tl_3, tl_4, tl_5, tl_6, tl_8, tl_10, tl_14, tl_20, tl_24, tl_30, tl_40, tl_50, tl_60, tl_70, tl_80, tl_100, tl_120, tl_140, tl_180, tl_220, tl_240, tl_260, tl_280, tl_300, tl_540, tl_780, tl_1020, tl_1180, tl_1190, tl_1200, tl_1220, tl_m1] at *
    have k4 : ((30 * x2) + 30).toInt = ((30 * (x2).toInt) + 30) := (ti_add (a := (30 * x2)) (b := (30 : Int32)) (ti_mul (a := (30 : Int32)) (b := (x2)) tl_30 rfl (by omega) (by omega)) tl_30 (by omega) (by omega))
    have t0 : (x5 + 1).toInt = ((x5).toInt + 1) := (ti_add (a := (x5)) (b := (1 : Int32)) rfl tl_1 (by omega) (by omega))
    omega
theorem vc_FMO_share_ix121_26 (S : hS) (x1 : Int32) (x2 : Int32) (x3 : Int32) (x4 : Int32) (x5 : Int32) (hJ : wfM S ∧ rg x1 8 ∧ rg x2 120 ∧ 30 * x2.toInt ≤ x5.toInt ∧ x5.toInt ≤ 30 * x2.toInt + 30) (c7 : ¬ (((30 * x2) + 30) ≤ x5)) (c9 : ¬ ((S.2 50 ((70 + x1).toNatClampNeg)) ≤ 0)) (c21 : x5.toInt64 < ((S.2 50 ((70 + x1).toNatClampNeg)) - 1)) (c23 : ¬ ((S.2 50 ((80 + x1).toNatClampNeg)) ≤ 0)) : vp_in (80 + x1) 1220 := by
    have k0 := hJ.2.1
    have k1 := hJ.2.2.1
    have k2 := hJ.2.2.2.1
    have k3 := hJ.2.2.2.2
    have m0 := hJ.1.1
    have m1 := hJ.1.2.1
    have m3 := hJ.1.2.2.1
    have m4 := hJ.1.2.2.2.1
    have m6 := hJ.1.2.2.2.2.2.2.1
    simp only [rg, bt, lp, vp_rg, Int32.lt_iff_toInt_lt, Int32.le_iff_toInt_le, Int64.lt_iff_toInt_lt, Int64.le_iff_toInt_le, l32, sI_2, tq_0, tq_1, tq_2, tq_6, tq_8, tq_10, tq_20, tq_30, tq_40, tl_0, tl_1, tl_2, tl_3, tl_4, tl_5, tl_6, tl_8, tl_10, tl_14, tl_20, tl_24, tl_30, tl_40, tl_50, tl_60, tl_70, tl_80, tl_100, tl_120, tl_140, tl_180, tl_220, tl_240, tl_260, tl_280, tl_300, tl_540, tl_780, tl_1020, tl_1180, tl_1190, tl_1200, tl_1220, tl_m1] at *
    have k4 : ((30 * x2) + 30).toInt = ((30 * (x2).toInt) + 30) := (ti_add (a := (30 * x2)) (b := (30 : Int32)) (ti_mul (a := (30 : Int32)) (b := (x2)) tl_30 rfl (by omega) (by omega)) tl_30 (by omega) (by omega))
    have t0 : (80 + x1).toInt = (80 + (x1).toInt) := (ti_add (a := (80 : Int32)) (b := (x1)) tl_80 rfl (by omega) (by omega))
    omega
theorem vc_FMO_share_inv45_28 (S : hS) (x1 : Int32) (x2 : Int32) (x3 : Int32) (x4 : Int32) (x5 : Int32) (hJ : wfM S ∧ rg x1 8 ∧ rg x2 120 ∧ 30 * x2.toInt ≤ x5.toInt ∧ x5.toInt ≤ 30 * x2.toInt + 30) (c7 : ¬ (((30 * x2) + 30) ≤ x5)) (c9 : ¬ ((S.2 50 ((70 + x1).toNatClampNeg)) ≤ 0)) (c21 : x5.toInt64 < ((S.2 50 ((70 + x1).toNatClampNeg)) - 1)) (c23 : ¬ ((S.2 50 ((80 + x1).toNatClampNeg)) ≤ 0)) (c27 : ((S.2 50 ((80 + x1).toNatClampNeg)) - 1) ≤ x5.toInt64) : wfM S ∧ rg x1 8 ∧ rg x2 120 ∧ 30 * x2.toInt ≤ (x5 + 1).toInt ∧ (x5 + 1).toInt ≤ 30 * x2.toInt + 30 := ⟨hJ.1, hJ.2.1, hJ.2.2.1, (by
    have k0 := hJ.2.1
    have k1 := hJ.2.2.1
    have k2 := hJ.2.2.2.1
    have k3 := hJ.2.2.2.2
    have m0 := hJ.1.1
    have m1 := hJ.1.2.1
    have m3 := hJ.1.2.2.1
    have m4 := hJ.1.2.2.2.1
    have m6 := hJ.1.2.2.2.2.2.2.1
    simp only [rg, bt, lp, vp_rg, Int32.lt_iff_toInt_lt, Int32.le_iff_toInt_le, Int64.lt_iff_toInt_lt, Int64.le_iff_toInt_le, l32, sI_2, tq_0, tq_1, tq_2, tq_6, tq_8, tq_10, tq_20, tq_30, tq_40, tl_0, tl_1, tl_2, tl_3, tl_4, tl_5, tl_6, tl_8, tl_10, tl_14, tl_20, tl_24, tl_30, tl_40, tl_50, tl_60, tl_70, tl_80, tl_100, tl_120, tl_140, tl_180, tl_220, tl_240, tl_260, tl_280, tl_300, tl_540, tl_780, tl_1020, tl_1180, tl_1190, tl_1200, tl_1220, tl_m1] at *
    have k4 : ((30 * x2) + 30).toInt = ((30 * (x2).toInt) + 30) := (ti_add (a := (30 * x2)) (b := (30 : Int32)) (ti_mul (a := (30 : Int32)) (b := (x2)) tl_30 rfl (by omega) (by omega)) tl_30 (by omega) (by omega))
    have t0 : (x5 + 1).toInt = ((x5).toInt + 1) := (ti_add (a := (x5)) (b := (1 : Int32)) rfl tl_1 (by omega) (by omega))
    omega), (by
    have k0 := hJ.2.1
    have k1 := hJ.2.2.1
    have k2 := hJ.2.2.2.1
    have k3 := hJ.2.2.2.2
    have m0 := hJ.1.1
    have m1 := hJ.1.2.1
    have m3 := hJ.1.2.2.1
    have m4 := hJ.1.2.2.2.1
    have m6 := hJ.1.2.2.2.2.2.2.1
    simp only [rg, bt, lp, vp_rg, Int32.lt_iff_toInt_lt, Int32.le_iff_toInt_le, Int64.lt_iff_toInt_lt, Int64.le_iff_toInt_le, l32, sI_2, tq_0, tq_1, tq_2, tq_6, tq_8, tq_10, tq_20, tq_30, tq_40, tl_0, tl_1, tl_2, tl_3, tl_4, tl_5, tl_6, tl_8, tl_10, tl_14, tl_20, tl_24, tl_30, tl_40, tl_50, tl_60, tl_70, tl_80, tl_100, tl_120, tl_140, tl_180, tl_220, tl_240, tl_260, tl_280, tl_300, tl_540, tl_780, tl_1020, tl_1180, tl_1190, tl_1200, tl_1220, tl_m1] at *
    have k4 : ((30 * x2) + 30).toInt = ((30 * (x2).toInt) + 30) := (ti_add (a := (30 * x2)) (b := (30 : Int32)) (ti_mul (a := (30 : Int32)) (b := (x2)) tl_30 rfl (by omega) (by omega)) tl_30 (by omega) (by omega))
    have t0 : (x5 + 1).toInt = ((x5).toInt + 1) := (ti_add (a := (x5)) (b := (1 : Int32)) rfl tl_1 (by omega) (by omega))
    omega)⟩
theorem vc_FMO_share_mu45_29 (S : hS) (x1 : Int32) (x2 : Int32) (x3 : Int32) (x4 : Int32) (x5 : Int32) (hJ : wfM S ∧ rg x1 8 ∧ rg x2 120 ∧ 30 * x2.toInt ≤ x5.toInt ∧ x5.toInt ≤ 30 * x2.toInt + 30) (c7 : ¬ (((30 * x2) + 30) ≤ x5)) (c9 : ¬ ((S.2 50 ((70 + x1).toNatClampNeg)) ≤ 0)) (c21 : x5.toInt64 < ((S.2 50 ((70 + x1).toNatClampNeg)) - 1)) (c23 : ¬ ((S.2 50 ((80 + x1).toNatClampNeg)) ≤ 0)) (c27 : ((S.2 50 ((80 + x1).toNatClampNeg)) - 1) ≤ x5.toInt64) : ((30 * x2.toInt + 30 - (x5 + 1).toInt).toNat) < ((30 * x2.toInt + 30 - x5.toInt).toNat) := by
    have k0 := hJ.2.1
    have k1 := hJ.2.2.1
    have k2 := hJ.2.2.2.1
    have k3 := hJ.2.2.2.2
    have m0 := hJ.1.1
    have m1 := hJ.1.2.1
    have m3 := hJ.1.2.2.1
    have m4 := hJ.1.2.2.2.1
    have m6 := hJ.1.2.2.2.2.2.2.1
    simp only [rg, bt, lp, vp_rg, Int32.lt_iff_toInt_lt, Int32.le_iff_toInt_le, Int64.lt_iff_toInt_lt, Int64.le_iff_toInt_le, l32, sI_2, tq_0, tq_1, tq_2, tq_6, tq_8, tq_10, tq_20, tq_30, tq_40, tl_0, tl_1, tl_2, tl_3, tl_4, tl_5, tl_6, tl_8, tl_10, tl_14, tl_20, tl_24, tl_30, tl_40, tl_50, tl_60, tl_70, tl_80, tl_100, tl_120, tl_140, tl_180, tl_220, tl_240, tl_260, tl_280, tl_300, tl_540, tl_780, tl_1020, tl_1180, tl_1190, tl_1200, tl_1220, tl_m1] at *
    have k4 : ((30 * x2) + 30).toInt = ((30 * (x2).toInt) + 30) := (ti_add (a := (30 * x2)) (b := (30 : Int32)) (ti_mul (a := (30 : Int32)) (b := (x2)) tl_30 rfl (by omega) (by omega)) tl_30 (by omega) (by omega))
    have t0 : (x5 + 1).toInt = ((x5).toInt + 1) := (ti_add (a := (x5)) (b := (1 : Int32)) rfl tl_1 (by omega) (by omega))
    omega
theorem vc_FMO_share_inv45_30 (S : hS) (x1 : Int32) (x2 : Int32) (x3 : Int32) (x4 : Int32) (x5 : Int32) (hJ : wfM S ∧ rg x1 8 ∧ rg x2 120 ∧ 30 * x2.toInt ≤ x5.toInt ∧ x5.toInt ≤ 30 * x2.toInt + 30) (c7 : ¬ (((30 * x2) + 30) ≤ x5)) (c9 : ¬ ((S.2 50 ((70 + x1).toNatClampNeg)) ≤ 0)) (c21 : x5.toInt64 < ((S.2 50 ((70 + x1).toNatClampNeg)) - 1)) (c23 : ¬ ((S.2 50 ((80 + x1).toNatClampNeg)) ≤ 0)) (c27 : ¬ (((S.2 50 ((80 + x1).toNatClampNeg)) - 1) ≤ x5.toInt64)) : wfM S ∧ rg x1 8 ∧ rg x2 120 ∧ 30 * x2.toInt ≤ (x5 + 1).toInt ∧ (x5 + 1).toInt ≤ 30 * x2.toInt + 30 := ⟨hJ.1, hJ.2.1, hJ.2.2.1, (by
    have k0 := hJ.2.1
    have k1 := hJ.2.2.1
    have k2 := hJ.2.2.2.1
    have k3 := hJ.2.2.2.2
    have m0 := hJ.1.1
    have m1 := hJ.1.2.1
    have m3 := hJ.1.2.2.1
    have m4 := hJ.1.2.2.2.1
    have m6 := hJ.1.2.2.2.2.2.2.1
    simp only [rg, bt, lp, vp_rg, Int32.lt_iff_toInt_lt, Int32.le_iff_toInt_le, Int64.lt_iff_toInt_lt, Int64.le_iff_toInt_le, l32, sI_2, tq_0, tq_1, tq_2, tq_6, tq_8, tq_10, tq_20, tq_30, tq_40, tl_0, tl_1, tl_2, tl_3, tl_4, tl_5, tl_6, tl_8, tl_10, tl_14, tl_20, tl_24, tl_30, tl_40, tl_50, tl_60, tl_70, tl_80, tl_100, tl_120, tl_140, tl_180, tl_220, tl_240, tl_260, tl_280, tl_300, tl_540, tl_780, tl_1020, tl_1180, tl_1190, tl_1200, tl_1220, tl_m1] at *
    have k4 : ((30 * x2) + 30).toInt = ((30 * (x2).toInt) + 30) := (ti_add (a := (30 * x2)) (b := (30 : Int32)) (ti_mul (a := (30 : Int32)) (b := (x2)) tl_30 rfl (by omega) (by omega)) tl_30 (by omega) (by omega))
    have t0 : (x5 + 1).toInt = ((x5).toInt + 1) := (ti_add (a := (x5)) (b := (1 : Int32)) rfl tl_1 (by omega) (by omega))
    omega), (by
    have k0 := hJ.2.1
    have k1 := hJ.2.2.1
    have k2 := hJ.2.2.2.1
    have k3 := hJ.2.2.2.2
    have m0 := hJ.1.1
    have m1 := hJ.1.2.1
    have m3 := hJ.1.2.2.1
    have m4 := hJ.1.2.2.2.1
    have m6 := hJ.1.2.2.2.2.2.2.1
    simp only [rg, bt, lp, vp_rg, Int32.lt_iff_toInt_lt, Int32.le_iff_toInt_le, Int64.lt_iff_toInt_lt, Int64.le_iff_toInt_le, l32, sI_2, tq_0, tq_1, tq_2, tq_6, tq_8, tq_10, tq_20, tq_30, tq_40, tl_0, tl_1, tl_2, tl_3, tl_4, tl_5, tl_6, tl_8, tl_10, tl_14, tl_20, tl_24, tl_30, tl_40, tl_50, tl_60, tl_70, tl_80, tl_100, tl_120, tl_140, tl_180, tl_220, tl_240, tl_260, tl_280, tl_300, tl_540, tl_780, tl_1020, tl_1180, tl_1190, tl_1200, tl_1220, tl_m1] at *
    have k4 : ((30 * x2) + 30).toInt = ((30 * (x2).toInt) + 30) := (ti_add (a := (30 * x2)) (b := (30 : Int32)) (ti_mul (a := (30 : Int32)) (b := (x2)) tl_30 rfl (by omega) (by omega)) tl_30 (by omega) (by omega))
    have t0 : (x5 + 1).toInt = ((x5).toInt + 1) := (ti_add (a := (x5)) (b := (1 : Int32)) rfl tl_1 (by omega) (by omega))
    omega)⟩
theorem vc_FMO_share_mu45_31 (S : hS) (x1 : Int32) (x2 : Int32) (x3 : Int32) (x4 : Int32) (x5 : Int32) (hJ : wfM S ∧ rg x1 8 ∧ rg x2 120 ∧ 30 * x2.toInt ≤ x5.toInt ∧ x5.toInt ≤ 30 * x2.toInt + 30) (c7 : ¬ (((30 * x2) + 30) ≤ x5)) (c9 : ¬ ((S.2 50 ((70 + x1).toNatClampNeg)) ≤ 0)) (c21 : x5.toInt64 < ((S.2 50 ((70 + x1).toNatClampNeg)) - 1)) (c23 : ¬ ((S.2 50 ((80 + x1).toNatClampNeg)) ≤ 0)) (c27 : ¬ (((S.2 50 ((80 + x1).toNatClampNeg)) - 1) ≤ x5.toInt64)) : ((30 * x2.toInt + 30 - (x5 + 1).toInt).toNat) < ((30 * x2.toInt + 30 - x5.toInt).toNat) := by
    have k0 := hJ.2.1
    have k1 := hJ.2.2.1
    have k2 := hJ.2.2.2.1
    have k3 := hJ.2.2.2.2
    have m0 := hJ.1.1
    have m1 := hJ.1.2.1
    have m3 := hJ.1.2.2.1
    have m4 := hJ.1.2.2.2.1
    have m6 := hJ.1.2.2.2.2.2.2.1
    simp only [rg, bt, lp, vp_rg, Int32.lt_iff_toInt_lt, Int32.le_iff_toInt_le, Int64.lt_iff_toInt_lt, Int64.le_iff_toInt_le, l32, sI_2, tq_0, tq_1, tq_2, tq_6, tq_8, tq_10, tq_20, tq_30, tq_40, tl_0, tl_1, tl_2, tl_3, tl_4, tl_5, tl_6, tl_8, tl_10, tl_14, tl_20, tl_24, tl_30, tl_40, tl_50, tl_60, tl_70, tl_80, tl_100, tl_120, tl_140, tl_180, tl_220, tl_240, tl_260, tl_280, tl_300, tl_540, tl_780, tl_1020, tl_1180, tl_1190, tl_1200, tl_1220, tl_m1] at *
    have k4 : ((30 * x2) + 30).toInt = ((30 * (x2).toInt) + 30) := (ti_add (a := (30 * x2)) (b := (30 : Int32)) (ti_mul (a := (30 : Int32)) (b := (x2)) tl_30 rfl (by omega) (by omega)) tl_30 (by omega) (by omega))
    have t0 : (x5 + 1).toInt = ((x5).toInt + 1) := (ti_add (a := (x5)) (b := (1 : Int32)) rfl tl_1 (by omega) (by omega))
    omega
theorem vc_FMO_share_ix104_32 (S : hS) (x1 : Int32) (x2 : Int32) (x3 : Int32) (x4 : Int32) (x5 : Int32) (hJ : wfM S ∧ rg x1 8 ∧ rg x2 120 ∧ 30 * x2.toInt ≤ x5.toInt ∧ x5.toInt ≤ 30 * x2.toInt + 30) (c7 : ¬ (((30 * x2) + 30) ≤ x5)) (c9 : ¬ ((S.2 50 ((70 + x1).toNatClampNeg)) ≤ 0)) (c21 : ¬ (x5.toInt64 < ((S.2 50 ((70 + x1).toNatClampNeg)) - 1))) : vp_in (80 + x1) 1220 := by
    have k0 := hJ.2.1
    have k1 := hJ.2.2.1
    have k2 := hJ.2.2.2.1
    have k3 := hJ.2.2.2.2
    have m0 := hJ.1.1
    have m1 := hJ.1.2.1
    have m3 := hJ.1.2.2.1
    have m4 := hJ.1.2.2.2.1
    have m6 := hJ.1.2.2.2.2.2.2.1
    simp only [rg, bt, lp, vp_rg, Int32.lt_iff_toInt_lt, Int32.le_iff_toInt_le, Int64.lt_iff_toInt_lt, Int64.le_iff_toInt_le, l32, sI_2, tq_0, tq_1, tq_2, tq_6, tq_8, tq_10, tq_20, tq_30, tq_40, tl_0, tl_1, tl_2, tl_3, tl_4, tl_5, tl_6, tl_8, tl_10, tl_14, tl_20, tl_24, tl_30, tl_40, tl_50, tl_60, tl_70, tl_80, tl_100, tl_120, tl_140, tl_180, tl_220, tl_240, tl_260, tl_280, tl_300, tl_540, tl_780, tl_1020, tl_1180, tl_1190, tl_1200, tl_1220, tl_m1] at *
    have k4 : ((30 * x2) + 30).toInt = ((30 * (x2).toInt) + 30) := (ti_add (a := (30 * x2)) (b := (30 : Int32)) (ti_mul (a := (30 : Int32)) (b := (x2)) tl_30 rfl (by omega) (by omega)) tl_30 (by omega) (by omega))
    have t0 : (80 + x1).toInt = (80 + (x1).toInt) := (ti_add (a := (80 : Int32)) (b := (x1)) tl_80 rfl (by omega) (by omega))
    omega
theorem vc_FMO_share_inv45_34 (S : hS) (x1 : Int32) (x2 : Int32) (x3 : Int32) (x4 : Int32) (x5 : Int32) (hJ : wfM S ∧ rg x1 8 ∧ rg x2 120 ∧ 30 * x2.toInt ≤ x5.toInt ∧ x5.toInt ≤ 30 * x2.toInt + 30) (c7 : ¬ (((30 * x2) + 30) ≤ x5)) (c9 : ¬ ((S.2 50 ((70 + x1).toNatClampNeg)) ≤ 0)) (c21 : ¬ (x5.toInt64 < ((S.2 50 ((70 + x1).toNatClampNeg)) - 1))) (c33 : (S.2 50 ((80 + x1).toNatClampNeg)) ≤ 0) : wfM S ∧ rg x1 8 ∧ rg x2 120 ∧ 30 * x2.toInt ≤ (x5 + 1).toInt ∧ (x5 + 1).toInt ≤ 30 * x2.toInt + 30 := ⟨hJ.1, hJ.2.1, hJ.2.2.1, (by
    have k0 := hJ.2.1
    have k1 := hJ.2.2.1
    have k2 := hJ.2.2.2.1
    have k3 := hJ.2.2.2.2
    have m0 := hJ.1.1
    have m1 := hJ.1.2.1
    have m3 := hJ.1.2.2.1
    have m4 := hJ.1.2.2.2.1
    have m6 := hJ.1.2.2.2.2.2.2.1
    simp only [rg, bt, lp, vp_rg, Int32.lt_iff_toInt_lt, Int32.le_iff_toInt_le, Int64.lt_iff_toInt_lt, Int64.le_iff_toInt_le, l32, sI_2, tq_0, tq_1, tq_2, tq_6, tq_8, tq_10, tq_20, tq_30, tq_40, tl_0, tl_1, tl_2, tl_3, tl_4, tl_5, tl_6, tl_8, tl_10, tl_14, tl_20, tl_24, tl_30, tl_40, tl_50, tl_60, tl_70, tl_80, tl_100, tl_120, tl_140, tl_180, tl_220, tl_240, tl_260, tl_280, tl_300, tl_540, tl_780, tl_1020, tl_1180, tl_1190, tl_1200, tl_1220, tl_m1] at *
    have k4 : ((30 * x2) + 30).toInt = ((30 * (x2).toInt) + 30) := (ti_add (a := (30 * x2)) (b := (30 : Int32)) (ti_mul (a := (30 : Int32)) (b := (x2)) tl_30 rfl (by omega) (by omega)) tl_30 (by omega) (by omega))
    have t0 : (x5 + 1).toInt = ((x5).toInt + 1) := (ti_add (a := (x5)) (b := (1 : Int32)) rfl tl_1 (by omega) (by omega))
    omega), (by
    have k0 := hJ.2.1
    have k1 := hJ.2.2.1
    have k2 := hJ.2.2.2.1
    have k3 := hJ.2.2.2.2
    have m0 := hJ.1.1
    have m1 := hJ.1.2.1
    have m3 := hJ.1.2.2.1
    have m4 := hJ.1.2.2.2.1
    have m6 := hJ.1.2.2.2.2.2.2.1
    simp only [rg, bt, lp, vp_rg, Int32.lt_iff_toInt_lt, Int32.le_iff_toInt_le, Int64.lt_iff_toInt_lt, Int64.le_iff_toInt_le, l32, sI_2, tq_0, tq_1, tq_2, tq_6, tq_8, tq_10, tq_20, tq_30, tq_40, tl_0, tl_1, tl_2, tl_3, tl_4, tl_5, tl_6, tl_8, tl_10, tl_14, tl_20, tl_24, tl_30, tl_40, tl_50, tl_60, tl_70, tl_80, tl_100, tl_120, tl_140, tl_180, tl_220, tl_240, tl_260, tl_280, tl_300, tl_540, tl_780, tl_1020, tl_1180, tl_1190, tl_1200, tl_1220, tl_m1] at *
    have k4 : ((30 * x2) + 30).toInt = ((30 * (x2).toInt) + 30) := (ti_add (a := (30 * x2)) (b := (30 : Int32)) (ti_mul (a := (30 : Int32)) (b := (x2)) tl_30 rfl (by omega) (by omega)) tl_30 (by omega) (by omega))
    have t0 : (x5 + 1).toInt = ((x5).toInt + 1) := (ti_add (a := (x5)) (b := (1 : Int32)) rfl tl_1 (by omega) (by omega))
    omega)⟩
theorem vc_FMO_share_mu45_35 (S : hS) (x1 : Int32) (x2 : Int32) (x3 : Int32) (x4 : Int32) (x5 : Int32) (hJ : wfM S ∧ rg x1 8 ∧ rg x2 120 ∧ 30 * x2.toInt ≤ x5.toInt ∧ x5.toInt ≤ 30 * x2.toInt + 30) (c7 : ¬ (((30 * x2) + 30) ≤ x5)) (c9 : ¬ ((S.2 50 ((70 + x1).toNatClampNeg)) ≤ 0)) (c21 : ¬ (x5.toInt64 < ((S.2 50 ((70 + x1).toNatClampNeg)) - 1))) (c33 : (S.2 50 ((80 + x1).toNatClampNeg)) ≤ 0) : ((30 * x2.toInt + 30 - (x5 + 1).toInt).toNat) < ((30 * x2.toInt + 30 - x5.toInt).toNat) := by
    have k0 := hJ.2.1
    have k1 := hJ.2.2.1
    have k2 := hJ.2.2.2.1
    have k3 := hJ.2.2.2.2
    have m0 := hJ.1.1
    have m1 := hJ.1.2.1
    have m3 := hJ.1.2.2.1
    have m4 := hJ.1.2.2.2.1
    have m6 := hJ.1.2.2.2.2.2.2.1
    simp only [rg, bt, lp, vp_rg, Int32.lt_iff_toInt_lt, Int32.le_iff_toInt_le, Int64.lt_iff_toInt_lt, Int64.le_iff_toInt_le, l32, sI_2, tq_0, tq_1, tq_2, tq_6, tq_8, tq_10, tq_20, tq_30, tq_40, tl_0, tl_1, tl_2, tl_3, tl_4, tl_5, tl_6, tl_8, tl_10, tl_14, tl_20, tl_24, tl_30, tl_40, tl_50, tl_60, tl_70, tl_80, tl_100, tl_120, tl_140, tl_180, tl_220, tl_240, tl_260, tl_280, tl_300, tl_540, tl_780, tl_1020, tl_1180, tl_1190, tl_1200, tl_1220, tl_m1] at *
    have k4 : ((30 * x2) + 30).toInt = ((30 * (x2).toInt) + 30) := (ti_add (a := (30 * x2)) (b := (30 : Int32)) (ti_mul (a := (30 : Int32)) (b := (x2)) tl_30 rfl (by omega) (by omega)) tl_30 (by omega) (by omega))
    have t0 : (x5 + 1).toInt = ((x5).toInt + 1) := (ti_add (a := (x5)) (b := (1 : Int32)) rfl tl_1 (by omega) (by omega))
    omega
theorem vc_FMO_share_ix121_36 (S : hS) (x1 : Int32) (x2 : Int32) (x3 : Int32) (x4 : Int32) (x5 : Int32) (hJ : wfM S ∧ rg x1 8 ∧ rg x2 120 ∧ 30 * x2.toInt ≤ x5.toInt ∧ x5.toInt ≤ 30 * x2.toInt + 30) (c7 : ¬ (((30 * x2) + 30) ≤ x5)) (c9 : ¬ ((S.2 50 ((70 + x1).toNatClampNeg)) ≤ 0)) (c21 : ¬ (x5.toInt64 < ((S.2 50 ((70 + x1).toNatClampNeg)) - 1))) (c33 : ¬ ((S.2 50 ((80 + x1).toNatClampNeg)) ≤ 0)) : vp_in (80 + x1) 1220 := by
    have k0 := hJ.2.1
    have k1 := hJ.2.2.1
    have k2 := hJ.2.2.2.1
    have k3 := hJ.2.2.2.2
    have m0 := hJ.1.1
    have m1 := hJ.1.2.1
    have m3 := hJ.1.2.2.1
    have m4 := hJ.1.2.2.2.1
    have m6 := hJ.1.2.2.2.2.2.2.1
    simp only [rg, bt, lp, vp_rg, Int32.lt_iff_toInt_lt, Int32.le_iff_toInt_le, Int64.lt_iff_toInt_lt, Int64.le_iff_toInt_le, l32, sI_2, tq_0, tq_1, tq_2, tq_6, tq_8, tq_10, tq_20, tq_30, tq_40, tl_0, tl_1, tl_2, tl_3, tl_4, tl_5, tl_6, tl_8, tl_10, tl_14, tl_20, tl_24, tl_30, tl_40, tl_50, tl_60, tl_70, tl_80, tl_100, tl_120, tl_140, tl_180, tl_220, tl_240, tl_260, tl_280, tl_300, tl_540, tl_780, tl_1020, tl_1180, tl_1190, tl_1200, tl_1220, tl_m1] at *
    have k4 : ((30 * x2) + 30).toInt = ((30 * (x2).toInt) + 30) := (ti_add (a := (30 * x2)) (b := (30 : Int32)) (ti_mul (a := (30 : Int32)) (b := (x2)) tl_30 rfl (by omega) (by omega)) tl_30 (by omega) (by omega))
    have t0 : (80 + x1).toInt = (80 + (x1).toInt) := (ti_add (a := (80 : Int32)) (b := (x1)) tl_80 rfl (by omega) (by omega))
    omega
theorem vc_FMO_share_inv45_38 (S : hS) (x1 : Int32) (x2 : Int32) (x3 : Int32) (x4 : Int32) (x5 : Int32) (hJ : wfM S ∧ rg x1 8 ∧ rg x2 120 ∧ 30 * x2.toInt ≤ x5.toInt ∧ x5.toInt ≤ 30 * x2.toInt + 30) (c7 : ¬ (((30 * x2) + 30) ≤ x5)) (c9 : ¬ ((S.2 50 ((70 + x1).toNatClampNeg)) ≤ 0)) (c21 : ¬ (x5.toInt64 < ((S.2 50 ((70 + x1).toNatClampNeg)) - 1))) (c33 : ¬ ((S.2 50 ((80 + x1).toNatClampNeg)) ≤ 0)) (c37 : ((S.2 50 ((80 + x1).toNatClampNeg)) - 1) ≤ x5.toInt64) : wfM S ∧ rg x1 8 ∧ rg x2 120 ∧ 30 * x2.toInt ≤ (x5 + 1).toInt ∧ (x5 + 1).toInt ≤ 30 * x2.toInt + 30 := ⟨hJ.1, hJ.2.1, hJ.2.2.1, (by
    have k0 := hJ.2.1
    have k1 := hJ.2.2.1
    have k2 := hJ.2.2.2.1
    have k3 := hJ.2.2.2.2
    have m0 := hJ.1.1
    have m1 := hJ.1.2.1
    have m3 := hJ.1.2.2.1
    have m4 := hJ.1.2.2.2.1
    have m6 := hJ.1.2.2.2.2.2.2.1
    simp only [rg, bt, lp, vp_rg, Int32.lt_iff_toInt_lt, Int32.le_iff_toInt_le, Int64.lt_iff_toInt_lt, Int64.le_iff_toInt_le, l32, sI_2, tq_0, tq_1, tq_2, tq_6, tq_8, tq_10, tq_20, tq_30, tq_40, tl_0, tl_1, tl_2, tl_3, tl_4, tl_5, tl_6, tl_8, tl_10, tl_14, tl_20, tl_24, tl_30, tl_40, tl_50, tl_60, tl_70, tl_80, tl_100, tl_120, tl_140, tl_180, tl_220, tl_240, tl_260, tl_280, tl_300, tl_540, tl_780, tl_1020, tl_1180, tl_1190, tl_1200, tl_1220, tl_m1] at *
    have k4 : ((30 * x2) + 30).toInt = ((30 * (x2).toInt) + 30) := (ti_add (a := (30 * x2)) (b := (30 : Int32)) (ti_mul (a := (30 : Int32)) (b := (x2)) tl_30 rfl (by omega) (by omega)) tl_30 (by omega) (by omega))
    have t0 : (x5 + 1).toInt = ((x5).toInt + 1) := (ti_add (a := (x5)) (b := (1 : Int32)) rfl tl_1 (by omega) (by omega))
    omega), (by
    have k0 := hJ.2.1
    have k1 := hJ.2.2.1
    have k2 := hJ.2.2.2.1
    have k3 := hJ.2.2.2.2
    have m0 := hJ.1.1
    have m1 := hJ.1.2.1
    have m3 := hJ.1.2.2.1
    have m4 := hJ.1.2.2.2.1
    have m6 := hJ.1.2.2.2.2.2.2.1
    simp only [rg, bt, lp, vp_rg, Int32.lt_iff_toInt_lt, Int32.le_iff_toInt_le, Int64.lt_iff_toInt_lt, Int64.le_iff_toInt_le, l32, sI_2, tq_0, tq_1, tq_2, tq_6, tq_8, tq_10, tq_20, tq_30, tq_40, tl_0, tl_1, tl_2, tl_3, tl_4, tl_5, tl_6, tl_8, tl_10, tl_14, tl_20, tl_24, tl_30, tl_40, tl_50, tl_60, tl_70, tl_80, tl_100, tl_120, tl_140, tl_180, tl_220, tl_240, tl_260, tl_280, tl_300, tl_540, tl_780, tl_1020, tl_1180, tl_1190, tl_1200, tl_1220, tl_m1] at *
    have k4 : ((30 * x2) + 30).toInt = ((30 * (x2).toInt) + 30) := (ti_add (a := (30 * x2)) (b := (30 : Int32)) (ti_mul (a := (30 : Int32)) (b := (x2)) tl_30 rfl (by omega) (by omega)) tl_30 (by omega) (by omega))
    have t0 : (x5 + 1).toInt = ((x5).toInt + 1) := (ti_add (a := (x5)) (b := (1 : Int32)) rfl tl_1 (by omega) (by omega))
    omega)⟩
theorem vc_FMO_share_mu45_39 (S : hS) (x1 : Int32) (x2 : Int32) (x3 : Int32) (x4 : Int32) (x5 : Int32) (hJ : wfM S ∧ rg x1 8 ∧ rg x2 120 ∧ 30 * x2.toInt ≤ x5.toInt ∧ x5.toInt ≤ 30 * x2.toInt + 30) (c7 : ¬ (((30 * x2) + 30) ≤ x5)) (c9 : ¬ ((S.2 50 ((70 + x1).toNatClampNeg)) ≤ 0)) (c21 : ¬ (x5.toInt64 < ((S.2 50 ((70 + x1).toNatClampNeg)) - 1))) (c33 : ¬ ((S.2 50 ((80 + x1).toNatClampNeg)) ≤ 0)) (c37 : ((S.2 50 ((80 + x1).toNatClampNeg)) - 1) ≤ x5.toInt64) : ((30 * x2.toInt + 30 - (x5 + 1).toInt).toNat) < ((30 * x2.toInt + 30 - x5.toInt).toNat) := by
    have k0 := hJ.2.1
    have k1 := hJ.2.2.1
    have k2 := hJ.2.2.2.1
    have k3 := hJ.2.2.2.2
    have m0 := hJ.1.1
    have m1 := hJ.1.2.1
    have m3 := hJ.1.2.2.1
    have m4 := hJ.1.2.2.2.1
    have m6 := hJ.1.2.2.2.2.2.2.1
    simp only [rg, bt, lp, vp_rg, Int32.lt_iff_toInt_lt, Int32.le_iff_toInt_le, Int64.lt_iff_toInt_lt, Int64.le_iff_toInt_le, l32, sI_2, tq_0, tq_1, tq_2, tq_6, tq_8, tq_10, tq_20, tq_30, tq_40, tl_0, tl_1, tl_2, tl_3, tl_4, tl_5, tl_6, tl_8, tl_10, tl_14, tl_20, tl_24, tl_30, tl_40, tl_50, tl_60, tl_70, tl_80, tl_100, tl_120, tl_140, tl_180, tl_220, tl_240, tl_260, tl_280, tl_300, tl_540, tl_780, tl_1020, tl_1180, tl_1190, tl_1200, tl_1220, tl_m1] at *
    have k4 : ((30 * x2) + 30).toInt = ((30 * (x2).toInt) + 30) := (ti_add (a := (30 * x2)) (b := (30 : Int32)) (ti_mul (a := (30 : Int32)) (b := (x2)) tl_30 rfl (by omega) (by omega)) tl_30 (by omega) (by omega))
    have t0 : (x5 + 1).toInt = ((x5).toInt + 1) := (ti_add (a := (x5)) (b := (1 : Int32)) rfl tl_1 (by omega) (by omega))
    omega
theorem vc_FMO_share_inv45_40 (S : hS) (x1 : Int32) (x2 : Int32) (x3 : Int32) (x4 : Int32) (x5 : Int32) (hJ : wfM S ∧ rg x1 8 ∧ rg x2 120 ∧ 30 * x2.toInt ≤ x5.toInt ∧ x5.toInt ≤ 30 * x2.toInt + 30) (c7 : ¬ (((30 * x2) + 30) ≤ x5)) (c9 : ¬ ((S.2 50 ((70 + x1).toNatClampNeg)) ≤ 0)) (c21 : ¬ (x5.toInt64 < ((S.2 50 ((70 + x1).toNatClampNeg)) - 1))) (c33 : ¬ ((S.2 50 ((80 + x1).toNatClampNeg)) ≤ 0)) (c37 : ¬ (((S.2 50 ((80 + x1).toNatClampNeg)) - 1) ≤ x5.toInt64)) : wfM S ∧ rg x1 8 ∧ rg x2 120 ∧ 30 * x2.toInt ≤ (x5 + 1).toInt ∧ (x5 + 1).toInt ≤ 30 * x2.toInt + 30 := ⟨hJ.1, hJ.2.1, hJ.2.2.1, (by
    have k0 := hJ.2.1
    have k1 := hJ.2.2.1
    have k2 := hJ.2.2.2.1
    have k3 := hJ.2.2.2.2
    have m0 := hJ.1.1
    have m1 := hJ.1.2.1
    have m3 := hJ.1.2.2.1
    have m4 := hJ.1.2.2.2.1
    have m6 := hJ.1.2.2.2.2.2.2.1
    simp only [rg, bt, lp, vp_rg, Int32.lt_iff_toInt_lt, Int32.le_iff_toInt_le, Int64.lt_iff_toInt_lt, Int64.le_iff_toInt_le, l32, sI_2, tq_0, tq_1, tq_2, tq_6, tq_8, tq_10, tq_20, tq_30, tq_40, tl_0, tl_1, tl_2, tl_3, tl_4, tl_5, tl_6, tl_8, tl_10, tl_14, tl_20, tl_24, tl_30, tl_40, tl_50, tl_60, tl_70, tl_80, tl_100, tl_120, tl_140, tl_180, tl_220, tl_240, tl_260, tl_280, tl_300, tl_540, tl_780, tl_1020, tl_1180, tl_1190, tl_1200, tl_1220, tl_m1] at *
    have k4 : ((30 * x2) + 30).toInt = ((30 * (x2).toInt) + 30) := (ti_add (a := (30 * x2)) (b := (30 : Int32)) (ti_mul (a := (30 : Int32)) (b := (x2)) tl_30 rfl (by omega) (by omega)) tl_30 (by omega) (by omega))
    have t0 : (x5 + 1).toInt = ((x5).toInt + 1) := (ti_add (a := (x5)) (b := (1 : Int32)) rfl tl_1 (by omega) (by omega))
    omega), (by
    have k0 := hJ.2.1
    have k1 := hJ.2.2.1
    have k2 := hJ.2.2.2.1
    have k3 := hJ.2.2.2.2
    have m0 := hJ.1.1
    have m1 := hJ.1.2.1
    have m3 := hJ.1.2.2.1
    have m4 := hJ.1.2.2.2.1
    have m6 := hJ.1.2.2.2.2.2.2.1
    simp only [rg, bt, lp, vp_rg, Int32.lt_iff_toInt_lt, Int32.le_iff_toInt_le, Int64.lt_iff_toInt_lt, Int64.le_iff_toInt_le, l32, sI_2, tq_0, tq_1, tq_2, tq_6, tq_8, tq_10, tq_20, tq_30, tq_40, tl_0, tl_1, tl_2, tl_3, tl_4, tl_5, tl_6, tl_8, tl_10, tl_14, tl_20, tl_24, tl_30, tl_40, tl_50, tl_60, tl_70, tl_80, tl_100, tl_120, tl_140, tl_180, tl_220, tl_240, tl_260, tl_280, tl_300, tl_540, tl_780, tl_1020, tl_1180, tl_1190, tl_1200, tl_1220, tl_m1] at *
    have k4 : ((30 * x2) + 30).toInt = ((30 * (x2).toInt) + 30) := (ti_add (a := (30 * x2)) (b := (30 : Int32)) (ti_mul (a := (30 : Int32)) (b := (x2)) tl_30 rfl (by omega) (by omega)) tl_30 (by omega) (by omega))
    have t0 : (x5 + 1).toInt = ((x5).toInt + 1) := (ti_add (a := (x5)) (b := (1 : Int32)) rfl tl_1 (by omega) (by omega))
    omega)⟩
theorem vc_FMO_share_mu45_41 (S : hS) (x1 : Int32) (x2 : Int32) (x3 : Int32) (x4 : Int32) (x5 : Int32) (hJ : wfM S ∧ rg x1 8 ∧ rg x2 120 ∧ 30 * x2.toInt ≤ x5.toInt ∧ x5.toInt ≤ 30 * x2.toInt + 30) (c7 : ¬ (((30 * x2) + 30) ≤ x5)) (c9 : ¬ ((S.2 50 ((70 + x1).toNatClampNeg)) ≤ 0)) (c21 : ¬ (x5.toInt64 < ((S.2 50 ((70 + x1).toNatClampNeg)) - 1))) (c33 : ¬ ((S.2 50 ((80 + x1).toNatClampNeg)) ≤ 0)) (c37 : ¬ (((S.2 50 ((80 + x1).toNatClampNeg)) - 1) ≤ x5.toInt64)) : ((30 * x2.toInt + 30 - (x5 + 1).toInt).toNat) < ((30 * x2.toInt + 30 - x5.toInt).toNat) := by
    have k0 := hJ.2.1
    have k1 := hJ.2.2.1
    have k2 := hJ.2.2.2.1
    have k3 := hJ.2.2.2.2
    have m0 := hJ.1.1
    have m1 := hJ.1.2.1
    have m3 := hJ.1.2.2.1
    have m4 := hJ.1.2.2.2.1
    have m6 := hJ.1.2.2.2.2.2.2.1
    simp only [rg, bt, lp, vp_rg, Int32.lt_iff_toInt_lt, Int32.le_iff_toInt_le, Int64.lt_iff_toInt_lt, Int64.le_iff_toInt_le, l32, sI_2, tq_0, tq_1, tq_2, tq_6, tq_8, tq_10, tq_20, tq_30, tq_40, tl_0, tl_1, tl_2, tl_3, tl_4, tl_5, tl_6, tl_8, tl_10, tl_14, tl_20, tl_24, tl_30, tl_40, tl_50, tl_60, tl_70, tl_80, tl_100, tl_120, tl_140, tl_180, tl_220, tl_240, tl_260, tl_280, tl_300, tl_540, tl_780, tl_1020, tl_1180, tl_1190, tl_1200, tl_1220, tl_m1] at *
    have k4 : ((30 * x2) + 30).toInt = ((30 * (x2).toInt) + 30) := (ti_add (a := (30 * x2)) (b := (30 : Int32)) (ti_mul (a := (30 : Int32)) (b := (x2)) tl_30 rfl (by omega) (by omega)) tl_30 (by omega) (by omega))
    have t0 : (x5 + 1).toInt = ((x5).toInt + 1) := (ti_add (a := (x5)) (b := (1 : Int32)) rfl tl_1 (by omega) (by omega))
    omega
theorem vc_FMO_share_inv045_43 (S : hS) (x1 : Int32) (x2 : Int32) (x3 : Int32) (hp : wfM S) (c2 : ¬ ((FMO_isHousehold (sI S 49 4 0) x1) = 0)) (c3 : ¬ (x2 < 0)) (c4 : ¬ (120 ≤ x2)) (c5 : ¬ (x3 < 0)) (c6 : x3 ≤ 1) : wfM (sI S 49 4 0) ∧ rg x1 8 ∧ rg x2 120 ∧ 30 * x2.toInt ≤ (30 * x2).toInt ∧ (30 * x2).toInt ≤ 30 * x2.toInt + 30 := ⟨(wfM_I hp), (by
    have m0 := hp.1
    have m1 := hp.2.1
    have m3 := hp.2.2.1
    have m4 := hp.2.2.2.1
    have m6 := hp.2.2.2.2.2.2.1
    have k0 := hhM (wfM_I hp) c2
    simp only [rg, bt, lp, vp_rg, Int32.lt_iff_toInt_lt, Int32.le_iff_toInt_le, Int64.lt_iff_toInt_lt, Int64.le_iff_toInt_le, l32, sI_2, tq_0, tq_1, tq_2, tq_6, tq_8, tq_10, tq_20, tq_30, tq_40, tl_0, tl_1, tl_2, tl_3, tl_4, tl_5, tl_6, tl_8, tl_10, tl_14, tl_20, tl_24, tl_30, tl_40, tl_50, tl_60, tl_70, tl_80, tl_100, tl_120, tl_140, tl_180, tl_220, tl_240, tl_260, tl_280, tl_300, tl_540, tl_780, tl_1020, tl_1180, tl_1190, tl_1200, tl_1220, tl_m1] at *
    omega), (by
    have m0 := hp.1
    have m1 := hp.2.1
    have m3 := hp.2.2.1
    have m4 := hp.2.2.2.1
    have m6 := hp.2.2.2.2.2.2.1
    have k0 := hhM (wfM_I hp) c2
    simp only [rg, bt, lp, vp_rg, Int32.lt_iff_toInt_lt, Int32.le_iff_toInt_le, Int64.lt_iff_toInt_lt, Int64.le_iff_toInt_le, l32, sI_2, tq_0, tq_1, tq_2, tq_6, tq_8, tq_10, tq_20, tq_30, tq_40, tl_0, tl_1, tl_2, tl_3, tl_4, tl_5, tl_6, tl_8, tl_10, tl_14, tl_20, tl_24, tl_30, tl_40, tl_50, tl_60, tl_70, tl_80, tl_100, tl_120, tl_140, tl_180, tl_220, tl_240, tl_260, tl_280, tl_300, tl_540, tl_780, tl_1020, tl_1180, tl_1190, tl_1200, tl_1220, tl_m1] at *
    omega), (by
    have m0 := hp.1
    have m1 := hp.2.1
    have m3 := hp.2.2.1
    have m4 := hp.2.2.2.1
    have m6 := hp.2.2.2.2.2.2.1
    have k0 := hhM (wfM_I hp) c2
    simp only [rg, bt, lp, vp_rg, Int32.lt_iff_toInt_lt, Int32.le_iff_toInt_le, Int64.lt_iff_toInt_lt, Int64.le_iff_toInt_le, l32, sI_2, tq_0, tq_1, tq_2, tq_6, tq_8, tq_10, tq_20, tq_30, tq_40, tl_0, tl_1, tl_2, tl_3, tl_4, tl_5, tl_6, tl_8, tl_10, tl_14, tl_20, tl_24, tl_30, tl_40, tl_50, tl_60, tl_70, tl_80, tl_100, tl_120, tl_140, tl_180, tl_220, tl_240, tl_260, tl_280, tl_300, tl_540, tl_780, tl_1020, tl_1180, tl_1190, tl_1200, tl_1220, tl_m1] at *
    have t0 : (30 * x2).toInt = (30 * (x2).toInt) := (ti_mul (a := (30 : Int32)) (b := (x2)) tl_30 rfl (by omega) (by omega))
    omega), (by
    have m0 := hp.1
    have m1 := hp.2.1
    have m3 := hp.2.2.1
    have m4 := hp.2.2.2.1
    have m6 := hp.2.2.2.2.2.2.1
    have k0 := hhM (wfM_I hp) c2
    simp only [rg, bt, lp, vp_rg, Int32.lt_iff_toInt_lt, Int32.le_iff_toInt_le, Int64.lt_iff_toInt_lt, Int64.le_iff_toInt_le, l32, sI_2, tq_0, tq_1, tq_2, tq_6, tq_8, tq_10, tq_20, tq_30, tq_40, tl_0, tl_1, tl_2, tl_3, tl_4, tl_5, tl_6, tl_8, tl_10, tl_14, tl_20, tl_24, tl_30, tl_40, tl_50, tl_60, tl_70, tl_80, tl_100, tl_120, tl_140, tl_180, tl_220, tl_240, tl_260, tl_280, tl_300, tl_540, tl_780, tl_1020, tl_1180, tl_1190, tl_1200, tl_1220, tl_m1] at *
    have t0 : (30 * x2).toInt = (30 * (x2).toInt) := (ti_mul (a := (30 : Int32)) (b := (x2)) tl_30 rfl (by omega) (by omega))
    omega)⟩
theorem vc_FMO_share_mu045_44 (S : hS) (x1 : Int32) (x2 : Int32) (x3 : Int32) (hp : wfM S) (c2 : ¬ ((FMO_isHousehold (sI S 49 4 0) x1) = 0)) (c3 : ¬ (x2 < 0)) (c4 : ¬ (120 ≤ x2)) (c5 : ¬ (x3 < 0)) (c6 : x3 ≤ 1) : ((30 * x2.toInt + 30 - (30 * x2).toInt).toNat) < 300 := by
    have m0 := hp.1
    have m1 := hp.2.1
    have m3 := hp.2.2.1
    have m4 := hp.2.2.2.1
    have m6 := hp.2.2.2.2.2.2.1
    have k0 := hhM (wfM_I hp) c2
    simp only [rg, bt, lp, vp_rg, Int32.lt_iff_toInt_lt, Int32.le_iff_toInt_le, Int64.lt_iff_toInt_lt, Int64.le_iff_toInt_le, l32, sI_2, tq_0, tq_1, tq_2, tq_6, tq_8, tq_10, tq_20, tq_30, tq_40, tl_0, tl_1, tl_2, tl_3, tl_4, tl_5, tl_6, tl_8, tl_10, tl_14, tl_20, tl_24, tl_30, tl_40, tl_50, tl_60, tl_70, tl_80, tl_100, tl_120, tl_140, tl_180, tl_220, tl_240, tl_260, tl_280, tl_300, tl_540, tl_780, tl_1020, tl_1180, tl_1190, tl_1200, tl_1220, tl_m1] at *
    have t0 : (30 * x2).toInt = (30 * (x2).toInt) := (ti_mul (a := (30 : Int32)) (b := (x2)) tl_30 rfl (by omega) (by omega))
    omega
theorem vc_FMO_share_pre168_45 (S : hS) (x1 : Int32) (x2 : Int32) (x3 : Int32) (hp : wfM S) (c2 : ¬ ((FMO_isHousehold (sI S 49 4 0) x1) = 0)) (c3 : ¬ (x2 < 0)) (c4 : ¬ (120 ≤ x2)) (c5 : ¬ (x3 < 0)) (c6 : x3 ≤ 1) (y42_4 : Int32) (y42_5 : Int32) (hq42 : LMO_share_45 300 (sI S 49 4 0) x1 x2 x3 0 (30 * x2) = (y42_4, y42_5)) : ¬ (30 : Int64) = 0 := by decide
theorem vc_FMO_batch_ix33_3 (S : hS) (x1 : Int32) (hJ : bt x1 1220) (c2 : ¬ (1220 ≤ x1)) : vp_in x1 1220 := by
    simp only [rg, bt, lp, vp_rg, Int32.lt_iff_toInt_lt, Int32.le_iff_toInt_le, Int64.lt_iff_toInt_lt, Int64.le_iff_toInt_le, l32, sI_2, tq_0, tq_1, tq_2, tq_6, tq_8, tq_10, tq_20, tq_30, tq_40, tl_0, tl_1, tl_2, tl_3, tl_4, tl_5, tl_6, tl_8, tl_10, tl_14, tl_20, tl_24, tl_30, tl_40, tl_50, tl_60, tl_70, tl_80, tl_100, tl_120, tl_140, tl_180, tl_220, tl_240, tl_260, tl_280, tl_300, tl_540, tl_780, tl_1020, tl_1180, tl_1190, tl_1200, tl_1220, tl_m1] at *
    omega
theorem vc_FMO_batch_ix34_4 (S : hS) (x1 : Int32) (hJ : bt x1 1220) (c2 : ¬ (1220 ≤ x1)) : vp_in x1 1220 := by
    simp only [rg, bt, lp, vp_rg, Int32.lt_iff_toInt_lt, Int32.le_iff_toInt_le, Int64.lt_iff_toInt_lt, Int64.le_iff_toInt_le, l32, sI_2, tq_0, tq_1, tq_2, tq_6, tq_8, tq_10, tq_20, tq_30, tq_40, tl_0, tl_1, tl_2, tl_3, tl_4, tl_5, tl_6, tl_8, tl_10, tl_14, tl_20, tl_24, tl_30, tl_40, tl_50, tl_60, tl_70, tl_80, tl_100, tl_120, tl_140, tl_180, tl_220, tl_240, tl_260, tl_280, tl_300, tl_540, tl_780, tl_1020, tl_1180, tl_1190, tl_1200, tl_1220, tl_m1] at *
    omega
theorem vc_FMO_batch_inv16_5 (S : hS) (x1 : Int32) (hJ : bt x1 1220) (c2 : ¬ (1220 ≤ x1)) : bt (x1 + 1) 1220 := by
    simp only [rg, bt, lp, vp_rg, Int32.lt_iff_toInt_lt, Int32.le_iff_toInt_le, Int64.lt_iff_toInt_lt, Int64.le_iff_toInt_le, l32, sI_2, tq_0, tq_1, tq_2, tq_6, tq_8, tq_10, tq_20, tq_30, tq_40, tl_0, tl_1, tl_2, tl_3, tl_4, tl_5, tl_6, tl_8, tl_10, tl_14, tl_20, tl_24, tl_30, tl_40, tl_50, tl_60, tl_70, tl_80, tl_100, tl_120, tl_140, tl_180, tl_220, tl_240, tl_260, tl_280, tl_300, tl_540, tl_780, tl_1020, tl_1180, tl_1190, tl_1200, tl_1220, tl_m1] at *
    have t0 : (x1 + 1).toInt = ((x1).toInt + 1) := (ti_add (a := (x1)) (b := (1 : Int32)) rfl tl_1 (by omega) (by omega))
    omega
theorem vc_FMO_batch_mu16_6 (S : hS) (x1 : Int32) (hJ : bt x1 1220) (c2 : ¬ (1220 ≤ x1)) : ((1220 - (x1 + 1).toInt).toNat) < ((1220 - x1.toInt).toNat) := by
    simp only [rg, bt, lp, vp_rg, Int32.lt_iff_toInt_lt, Int32.le_iff_toInt_le, Int64.lt_iff_toInt_lt, Int64.le_iff_toInt_le, l32, sI_2, tq_0, tq_1, tq_2, tq_6, tq_8, tq_10, tq_20, tq_30, tq_40, tl_0, tl_1, tl_2, tl_3, tl_4, tl_5, tl_6, tl_8, tl_10, tl_14, tl_20, tl_24, tl_30, tl_40, tl_50, tl_60, tl_70, tl_80, tl_100, tl_120, tl_140, tl_180, tl_220, tl_240, tl_260, tl_280, tl_300, tl_540, tl_780, tl_1020, tl_1180, tl_1190, tl_1200, tl_1220, tl_m1] at *
    have t0 : (x1 + 1).toInt = ((x1).toInt + 1) := (ti_add (a := (x1)) (b := (1 : Int32)) rfl tl_1 (by omega) (by omega))
    omega
theorem vc_FMO_batch_inv016_8 (S : hS) (c1 : (S.1 49 2) = 0) : bt (0 : Int32) 1220 := by
    simp only [rg, bt, lp, vp_rg, Int32.lt_iff_toInt_lt, Int32.le_iff_toInt_le, Int64.lt_iff_toInt_lt, Int64.le_iff_toInt_le, l32, sI_2, tq_0, tq_1, tq_2, tq_6, tq_8, tq_10, tq_20, tq_30, tq_40, tl_0, tl_1, tl_2, tl_3, tl_4, tl_5, tl_6, tl_8, tl_10, tl_14, tl_20, tl_24, tl_30, tl_40, tl_50, tl_60, tl_70, tl_80, tl_100, tl_120, tl_140, tl_180, tl_220, tl_240, tl_260, tl_280, tl_300, tl_540, tl_780, tl_1020, tl_1180, tl_1190, tl_1200, tl_1220, tl_m1] at *
    have t0 : (0 : Int32).toInt = 0 := tl_0
    omega
theorem vc_FMO_batch_mu016_9 (S : hS) (c1 : (S.1 49 2) = 0) : ((1220 - (0 : Int32).toInt).toNat) < 1300 := by
    simp only [rg, bt, lp, vp_rg, Int32.lt_iff_toInt_lt, Int32.le_iff_toInt_le, Int64.lt_iff_toInt_lt, Int64.le_iff_toInt_le, l32, sI_2, tq_0, tq_1, tq_2, tq_6, tq_8, tq_10, tq_20, tq_30, tq_40, tl_0, tl_1, tl_2, tl_3, tl_4, tl_5, tl_6, tl_8, tl_10, tl_14, tl_20, tl_24, tl_30, tl_40, tl_50, tl_60, tl_70, tl_80, tl_100, tl_120, tl_140, tl_180, tl_220, tl_240, tl_260, tl_280, tl_300, tl_540, tl_780, tl_1020, tl_1180, tl_1190, tl_1200, tl_1220, tl_m1] at *
    have t0 : (0 : Int32).toInt = 0 := tl_0
    omega
theorem vc_FMO_endBatch_ix42_4 (S : hS) (x1 : Int32) (x2 : Int32) (hJ : bt x2 1220) (c2 : ¬ (1220 ≤ x2)) (c3 : x1 = 0) : vp_in x2 1220 := by
    simp only [rg, bt, lp, vp_rg, Int32.lt_iff_toInt_lt, Int32.le_iff_toInt_le, Int64.lt_iff_toInt_lt, Int64.le_iff_toInt_le, l32, sI_2, tq_0, tq_1, tq_2, tq_6, tq_8, tq_10, tq_20, tq_30, tq_40, tl_0, tl_1, tl_2, tl_3, tl_4, tl_5, tl_6, tl_8, tl_10, tl_14, tl_20, tl_24, tl_30, tl_40, tl_50, tl_60, tl_70, tl_80, tl_100, tl_120, tl_140, tl_180, tl_220, tl_240, tl_260, tl_280, tl_300, tl_540, tl_780, tl_1020, tl_1180, tl_1190, tl_1200, tl_1220, tl_m1] at *
    omega
theorem vc_FMO_endBatch_ix43_5 (S : hS) (x1 : Int32) (x2 : Int32) (hJ : bt x2 1220) (c2 : ¬ (1220 ≤ x2)) (c3 : x1 = 0) : vp_in x2 1220 := by
    simp only [rg, bt, lp, vp_rg, Int32.lt_iff_toInt_lt, Int32.le_iff_toInt_le, Int64.lt_iff_toInt_lt, Int64.le_iff_toInt_le, l32, sI_2, tq_0, tq_1, tq_2, tq_6, tq_8, tq_10, tq_20, tq_30, tq_40, tl_0, tl_1, tl_2, tl_3, tl_4, tl_5, tl_6, tl_8, tl_10, tl_14, tl_20, tl_24, tl_30, tl_40, tl_50, tl_60, tl_70, tl_80, tl_100, tl_120, tl_140, tl_180, tl_220, tl_240, tl_260, tl_280, tl_300, tl_540, tl_780, tl_1020, tl_1180, tl_1190, tl_1200, tl_1220, tl_m1] at *
    omega
theorem vc_FMO_endBatch_inv21_6 (S : hS) (x1 : Int32) (x2 : Int32) (hJ : bt x2 1220) (c2 : ¬ (1220 ≤ x2)) (c3 : x1 = 0) : bt (x2 + 1) 1220 := by
    simp only [rg, bt, lp, vp_rg, Int32.lt_iff_toInt_lt, Int32.le_iff_toInt_le, Int64.lt_iff_toInt_lt, Int64.le_iff_toInt_le, l32, sI_2, tq_0, tq_1, tq_2, tq_6, tq_8, tq_10, tq_20, tq_30, tq_40, tl_0, tl_1, tl_2, tl_3, tl_4, tl_5, tl_6, tl_8, tl_10, tl_14, tl_20, tl_24, tl_30, tl_40, tl_50, tl_60, tl_70, tl_80, tl_100, tl_120, tl_140, tl_180, tl_220, tl_240, tl_260, tl_280, tl_300, tl_540, tl_780, tl_1020, tl_1180, tl_1190, tl_1200, tl_1220, tl_m1] at *
    have t0 : (x2 + 1).toInt = ((x2).toInt + 1) := (ti_add (a := (x2)) (b := (1 : Int32)) rfl tl_1 (by omega) (by omega))
    omega
