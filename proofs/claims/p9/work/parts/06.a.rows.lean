theorem tl_m1 : (-1 : Int32).toInt = -1 := by decide
theorem tl_0 : (0 : Int32).toInt = 0 := by decide
theorem tl_1 : (1 : Int32).toInt = 1 := by decide
theorem tl_2 : (2 : Int32).toInt = 2 := by decide
theorem tl_3 : (3 : Int32).toInt = 3 := by decide
theorem tl_4 : (4 : Int32).toInt = 4 := by decide
theorem tl_5 : (5 : Int32).toInt = 5 := by decide
theorem tl_6 : (6 : Int32).toInt = 6 := by decide
theorem tl_8 : (8 : Int32).toInt = 8 := by decide
theorem tl_10 : (10 : Int32).toInt = 10 := by decide
theorem tl_14 : (14 : Int32).toInt = 14 := by decide
theorem tl_20 : (20 : Int32).toInt = 20 := by decide
theorem tl_24 : (24 : Int32).toInt = 24 := by decide
theorem tl_30 : (30 : Int32).toInt = 30 := by decide
theorem tl_40 : (40 : Int32).toInt = 40 := by decide
theorem tl_50 : (50 : Int32).toInt = 50 := by decide
theorem tl_60 : (60 : Int32).toInt = 60 := by decide
theorem tl_70 : (70 : Int32).toInt = 70 := by decide
theorem tl_80 : (80 : Int32).toInt = 80 := by decide
theorem tl_100 : (100 : Int32).toInt = 100 := by decide
theorem tl_120 : (120 : Int32).toInt = 120 := by decide
theorem tl_140 : (140 : Int32).toInt = 140 := by decide
theorem tl_180 : (180 : Int32).toInt = 180 := by decide
theorem tl_220 : (220 : Int32).toInt = 220 := by decide
theorem tl_240 : (240 : Int32).toInt = 240 := by decide
theorem tl_260 : (260 : Int32).toInt = 260 := by decide
theorem tl_280 : (280 : Int32).toInt = 280 := by decide
theorem tl_300 : (300 : Int32).toInt = 300 := by decide
theorem tl_540 : (540 : Int32).toInt = 540 := by decide
theorem tl_780 : (780 : Int32).toInt = 780 := by decide
theorem tl_1020 : (1020 : Int32).toInt = 1020 := by decide
theorem tl_1180 : (1180 : Int32).toInt = 1180 := by decide
theorem tl_1190 : (1190 : Int32).toInt = 1190 := by decide
theorem tl_1200 : (1200 : Int32).toInt = 1200 := by decide
theorem tl_1220 : (1220 : Int32).toInt = 1220 := by decide
theorem ti_add {a b : Int32} {p q : Int} (ha : a.toInt = p) (hb : b.toInt = q) (h1 : -2147483648 ≤ p + q) (h2 : p + q ≤ 2147483647) : (a + b).toInt = p + q := by
  rw [Int32.toInt_add, ha, hb, Int.bmod_def]; omega
theorem ti_sub {a b : Int32} {p q : Int} (ha : a.toInt = p) (hb : b.toInt = q) (h1 : -2147483648 ≤ p - q) (h2 : p - q ≤ 2147483647) : (a - b).toInt = p - q := by
  rw [Int32.toInt_sub, ha, hb, Int.bmod_def]; omega
theorem ti_mul {a b : Int32} {p q : Int} (ha : a.toInt = p) (hb : b.toInt = q) (h1 : -2147483648 ≤ p * q) (h2 : p * q ≤ 2147483647) : (a * b).toInt = p * q := by
  rw [Int32.toInt_mul, ha, hb, Int.bmod_def]; omega
theorem ti_div {a b : Int32} {p q : Int} (ha : a.toInt = p) (hb : b.toInt = q) (h0 : 0 ≤ p) (h1 : 0 < q) : (a / b).toInt = p / q := by
  rw [Int32.toInt_div_of_ne_right _ _ (by intro z; rw [z] at hb; have : (-1 : Int32).toInt = -1 := by decide
                                          omega), ha, hb, Int.tdiv_eq_ediv_of_nonneg h0]
theorem ti_32 {a : Int64} {p : Int} (ha : a.toInt = p) (h1 : -2147483648 ≤ p) (h2 : p ≤ 2147483647) : a.toInt32.toInt = p := by
  rw [Int64.toInt_toInt32, ha, Int.bmod_def]; omega
theorem vp_rg {x : Int32} {n : Nat} : vp_in x n ↔ 0 ≤ x.toInt ∧ x.toInt < n := vp_in_iff
theorem cl_toInt {x : Int32} (h : 0 ≤ x.toInt) : ((x.toNatClampNeg : Nat) : Int) = x.toInt := by
  show ((x.toInt.toNat : Nat) : Int) = x.toInt
  omega
theorem wfC_r {S : hS} (h : wfC S) {x : Int32} (h0 : 0 ≤ x.toInt) (h1 : x.toInt < 40) : bt (S.1 13 x.toNatClampNeg) 6 := h.2.2.2.2.2.1 _ (by have := cl_toInt h0; omega)
theorem wfC_b {S : hS} (h : wfC S) {x : Int32} (h0 : 0 ≤ x.toInt) (h1 : x.toInt < 40) : rg (S.1 14 x.toNatClampNeg) 40 := h.2.2.2.2.2.2.1 _ (by have := cl_toInt h0; omega)
theorem div6 {x : Int32} (h0 : 0 ≤ x.toInt) (h1 : x.toInt < 240) : rg (x / 6) 40 := by
  have e : (x / 6).toInt = x.toInt.tdiv 6 := by
    rw [Int32.toInt_div_of_ne_right _ _ (by decide)]; rfl
  unfold rg
  rw [e, Int.tdiv_eq_ediv_of_nonneg h0]
  omega
theorem mod6 {x : Int32} (h0 : 0 ≤ x.toInt) (h1 : x.toInt < 240) : rg (x - x / 6 * 6) 6 := by
  have e : (x / 6).toInt = x.toInt / 6 := by
    rw [Int32.toInt_div_of_ne_right _ _ (by decide)]
    exact Int.tdiv_eq_ediv_of_nonneg h0
  unfold rg
  simp only [Int32.toInt_sub, Int32.toInt_mul, e, tl_6, Int.bmod_def]
  omega
theorem l32 (x : Int32) : x.toInt64.toInt = x.toInt := Int32.toInt_toInt64 x
theorem wfM_I {S : hS} {k j : Nat} {x : Int32} (h : wfM S) : wfM (sI S k j x) := h
theorem wfM_L {S : hS} {j : Nat} {v : Int64} (h : wfM S) (hj : 540 ≤ j ∨ (7 ≤ j ∧ j < 260)) : wfM (sL S 50 j v) := by
  obtain ⟨h0, h1, h2, h3, h4, h5, h6, h7⟩ := h
  refine ⟨?_, ?_, ?_, ?_, fun k hk => ?_, fun k hk => ?_, ?_, fun k hk hz => ?_⟩
  · rw [sL_2, if_neg (by omega)]; exact h0
  · rw [sL_2, if_neg (by omega)]; exact h1
  · rw [sL_2, if_neg (by omega)]; exact h2
  · rw [sL_2, if_neg (by omega)]; exact h3
  · rw [sL_2, if_neg (by omega)]; exact h4 k hk
  · rw [sL_2, if_neg (by omega)]; exact h5 k hk
  · rw [sL_2, if_neg (by omega)]; exact h6
  · rw [sL_2, if_neg (by omega)] at hz ⊢; exact h7 k hk hz
theorem wfC_L {S : hS} {k j : Nat} {v : Int64} (h : wfC S) (hk : k ≠ 1) : wfC (sL S k j v) := by
  obtain ⟨h0, h1, h2, h3, h4, h5, h6, h7⟩ := h
  refine ⟨h0, h1, h2, h3, h4, h5, h6, ?_⟩
  rw [sL_2, if_neg (by omega)]; exact h7
theorem wfC_I {S : hS} {k j : Nat} {v : Int32} (h : wfC S) (hk : k ≠ 2 ∧ k ≠ 10 ∧ k ≠ 20 ∧ k ≠ 1 ∧ k ≠ 13 ∧ k ≠ 14) : wfC (sI S k j v) := by
  obtain ⟨h0, h1, h2, h3, h4, h5, h6, h7⟩ := h
  refine ⟨?_, ?_, ?_, ?_, ?_, fun i hi => ?_, fun i hi => ?_, h7⟩ <;> rw [sI_1, if_neg (by omega)]
  · exact h0
  · exact h1
  · exact h2
  · exact h3
  · exact h4
  · exact h5 i hi
  · exact h6 i hi
theorem wfC_13 {S : hS} {j : Nat} {v : Int32} (h : wfC S) (hv : bt v 6) : wfC (sI S 13 j v) := by
  obtain ⟨h0, h1, h2, h3, h4, h5, h6, h7⟩ := h
  refine ⟨h0, h1, h2, h3, h4, fun i hi => ?_, fun i hi => ?_, h7⟩ <;> rw [sI_1]
  · split
    · exact hv
    · exact h5 i hi
  · rw [if_neg (by omega)]; exact h6 i hi
theorem wfC_14 {S : hS} {j : Nat} {v : Int32} (h : wfC S) (hv : rg v 40) : wfC (sI S 14 j v) := by
  obtain ⟨h0, h1, h2, h3, h4, h5, h6, h7⟩ := h
  refine ⟨h0, h1, h2, h3, h4, fun i hi => ?_, fun i hi => ?_, h7⟩ <;> rw [sI_1]
  · rw [if_neg (by omega)]; exact h5 i hi
  · split
    · exact hv
    · exact h6 i hi
theorem wfC_n {S : hS} {v : Int32} (h : wfC S) (hv : bt v 40) : wfC (sI S 10 0 v) := by
  obtain ⟨h0, h1, h2, h3, h4, h5, h6, h7⟩ := h
  refine ⟨h0, ?_, ?_, h3, h4, fun i hi => ?_, fun i hi => ?_, h7⟩ <;> rw [sI_1]
  · rw [if_pos ⟨rfl, rfl⟩]; exact hv
  · rw [if_neg (by omega)]; exact h2
  · rw [if_neg (by omega)]; exact h5 i hi
  · rw [if_neg (by omega)]; exact h6 i hi
theorem wfC_g {S : hS} {v : Int32} (h : wfC S) (hv : bt v 280) : wfC (sI S 10 8 v) := by
  obtain ⟨h0, h1, h2, h3, h4, h5, h6, h7⟩ := h
  refine ⟨h0, ?_, ?_, h3, h4, fun i hi => ?_, fun i hi => ?_, h7⟩ <;> rw [sI_1]
  · rw [if_neg (by omega)]; exact h1
  · rw [if_pos ⟨rfl, rfl⟩]; exact hv
  · rw [if_neg (by omega)]; exact h5 i hi
  · rw [if_neg (by omega)]; exact h6 i hi
theorem wfM_r {S : hS} (h : wfM S) {x : Int32} (hx : rg x 40) : 0 ≤ (S.2 50 (260 + x).toNatClampNeg).toInt ∧ (S.2 50 (260 + x).toNatClampNeg).toInt ≤ 6 := by
  have e : (260 + x).toNatClampNeg = 260 + x.toNatClampNeg := by
    have a := cl_toInt hx.1
    have h0 : 0 ≤ (260 + x).toInt := by simp only [rg, Int32.toInt_add, Int.bmod_def, tl_260] at *; omega
    have b := cl_toInt h0
    simp only [rg, Int32.toInt_add, Int.bmod_def, tl_260] at *; omega
  rw [e]
  exact h.2.2.2.2.1 _ (by have a := cl_toInt hx.1; unfold rg at hx; omega)
theorem wfM_a {S : hS} (h : wfM S) {x : Int32} (hx : rg x 240) : 0 ≤ (S.2 50 (300 + x).toNatClampNeg).toInt ∧ (S.2 50 (300 + x).toNatClampNeg).toInt < 8 := by
  have e : (300 + x).toNatClampNeg = 300 + x.toNatClampNeg := by
    have a := cl_toInt hx.1
    have h0 : 0 ≤ (300 + x).toInt := by simp only [rg, Int32.toInt_add, Int.bmod_def, tl_300] at *; omega
    have b := cl_toInt h0
    simp only [rg, Int32.toInt_add, Int.bmod_def, tl_300] at *; omega
  rw [e]
  exact h.2.2.2.2.2.1 _ (by have a := cl_toInt hx.1; unfold rg at hx; omega)
theorem acM {S : hS} {x : Int32} (hw : wfM S) (h : ¬ FMO_isAccount S x = 0) : rg x 8 := by
  rw [FMO_isAccount_e] at h
  obtain ⟨h0, -⟩ := hw
  split at h
  · exact absurd rfl h
  · split at h
    · exact absurd rfl h
    · rename_i a b
      simp only [rg, Int32.lt_iff_toInt_lt, Int64.le_iff_toInt_le, l32, tl_0] at *
      omega
theorem enM {S : hS} {x : Int32} (hw : wfM S) (h : ¬ FMO_isEntry S x = 0) : rg x 40 := by
  rw [FMO_isEntry_e] at h
  obtain ⟨-, h0, -⟩ := hw
  split at h
  · exact absurd rfl h
  · split at h
    · exact absurd rfl h
    · rename_i a b
      simp only [rg, Int32.lt_iff_toInt_lt, Int64.le_iff_toInt_le, l32, tl_0] at *
      omega
theorem hhM {S : hS} {x : Int32} (hw : wfM S) (h : ¬ FMO_isHousehold S x = 0) : rg x 8 := by
  rw [FMO_isHousehold_e] at h
  split at h
  · exact absurd rfl h
  · rename_i a
    exact acM hw a
theorem haC {S : hS} {x : Int32} (hw : wfC S) (h : ¬ FAC_has S x = 0) : rg x 8 := by
  rw [FAC_has_e] at h
  obtain ⟨h0, -⟩ := hw
  split at h
  · exact absurd rfl h
  · split at h
    · exact absurd rfl h
    · rename_i a b
      simp only [rg, bt, Int32.lt_iff_toInt_lt, Int32.le_iff_toInt_le, tl_0] at *
      omega
theorem hhC {S : hS} {x : Int32} (hw : wfC S) (h : ¬ FAC_hasHousehold S x = 0) : rg x 8 := by
  rw [FAC_hasHousehold_e] at h
  split at h
  · exact absurd rfl h
  · rename_i a
    exact haC hw a
theorem opC {S : hS} {x : Int32} (hw : wfC S) (h : ¬ FJO_isOpen S x = 0) : rg x 40 := by
  rw [FJO_isOpen_e] at h
  obtain ⟨-, h0, -⟩ := hw
  split at h
  · exact absurd rfl h
  · split at h
    · exact absurd rfl h
    · rename_i a b
      simp only [rg, bt, Int32.lt_iff_toInt_lt, Int32.le_iff_toInt_le, tl_0] at *
      omega
theorem rvC {S : hS} {x : Int32} (hw : wfC S) (h : ¬ FJO_isReversible S x = 0) : rg x 40 := by
  rw [FJO_isReversible_e] at h
  obtain ⟨-, h0, -⟩ := hw
  split at h
  · exact absurd rfl h
  · split at h
    · exact absurd rfl h
    · rename_i a b
      simp only [rg, bt, Int32.lt_iff_toInt_lt, Int32.le_iff_toInt_le, tl_0] at *
      omega
theorem fuC {S : hS} (hw : wfC S) (h : FJO_isFull S = 0) : rg (S.1 10 0) 40 := by
  rw [FJO_isFull_e] at h
  obtain ⟨-, h0, -⟩ := hw
  split at h
  · rename_i a
    simp only [rg, bt, Int32.lt_iff_toInt_lt, Int32.le_iff_toInt_le, tl_40] at *
    omega
  · exact absurd h (by decide)
theorem itC {S : hS} {x y : Int32} (hw : wfC S) (hx : rg x 240) (h : ¬ FJO_itemAt S x y = -1) : rg (FJO_itemAt S x y) 240 := by
  have e := FJO_itemAt_e S x y
  have d := div6 hx.1 hx.2
  have b := wfC_b hw d.1 d.2
  have m := mod6 hx.1 hx.2
  rw [e] at h ⊢
  repeat' split at h
  all_goals first | exact absurd rfl h | skip
  all_goals
    repeat' split
    all_goals first | contradiction | skip
  all_goals
    generalize S.1 14 (x / 6).toNatClampNeg = z at *
    generalize x - x / 6 * 6 = u at *
    simp only [rg] at b m ⊢
    have t := ti_add (ti_mul (a := z) (b := 6) rfl tl_6 (by omega) (by omega)) (b := u) rfl (by omega) (by omega)
    omega
theorem bz01 {v : Int32} (h : v = 0 ∨ v = 1) : v &&& 1 = v := by rcases h with rfl | rfl <;> decide
theorem ne64 {a b : Int64} (h : ¬ a = b) : ¬ a.toInt = b.toInt := fun e => h (Int64.toInt_inj.mp e)
theorem isIn01 (S : hS) (a b c : Int64) : FMO_isIn S a b c = 0 ∨ FMO_isIn S a b c = 1 := by
  rw [FMO_isIn_e]; repeat' split
  all_goals first | exact Or.inl rfl | exact Or.inr rfl
theorem addRow01 (S : hS) (a b : Int32) (c : Int64) : (FJO_addRow S a b c).1 = 0 ∨ (FJO_addRow S a b c).1 = 1 := by
  rw [FJO_addRow_e]; repeat' split
  all_goals first | exact Or.inl rfl | exact Or.inr rfl
theorem old01 : ∀ (n : Nat) (S : hS) (a : Int32) (d : Int64) (x i : Int32), (x = 0 ∨ x = 1) → (LMO_hasOld_6 n S a d x i).1 = 0 ∨ (LMO_hasOld_6 n S a d x i).1 = 1
  | 0, S, a, d, x, i, h => Or.inl rfl
  | n + 1, S, a, d, x, i, h => by
    rw [LMO_hasOld_6_s]; repeat' split
    all_goals first | exact h | exact old01 n S a d _ _ (Or.inl rfl) | exact old01 n S a d _ _ (Or.inr rfl)
theorem paid01 : ∀ (n : Nat) (S : hS) (a x i : Int32), (x = 0 ∨ x = 1) → (LMO_isPaid_4 n S a x i).1 = 0 ∨ (LMO_isPaid_4 n S a x i).1 = 1
  | 0, S, a, x, i, h => Or.inl rfl
  | n + 1, S, a, x, i, h => by
    rw [LMO_isPaid_4_s]; repeat' split
    all_goals first | exact h | exact paid01 n S a _ _ (Or.inl rfl) | exact paid01 n S a _ _ (Or.inr rfl)
/-- what a new entry's place by days is -/
theorem ladd : ∀ (n : Nat) (S : hS) (x1 x2 x3 x4 : Int32), wfC S → rg x4 40 → x4.toInt.toNat < n → rg (LJO_add_38 n S x1 x2 x3 x4).1 40 ∧ wfC (LJO_add_38 n S x1 x2 x3 x4).2 ∧ (LJO_add_38 n S x1 x2 x3 x4).2.1 10 0 = S.1 10 0
  | 0, S, x1, x2, x3, x4, _, _, h => absurd h (Nat.not_lt_zero _)
  | n + 1, S, x1, x2, x3, x4, hw, hx, h => by
    rw [LJO_add_38_s]
    split
    · exact ⟨hx, hw, rfl⟩
    · rename_i c
      split
      · exact ⟨hx, hw, rfl⟩
      · have c' : 0 < x4.toInt := by
          simp only [Int32.le_iff_toInt_le, tl_0] at c
          omega
        have t1 : (x4 - 1).toInt = x4.toInt - 1 := ti_sub rfl tl_1 (by unfold rg at hx; omega) (by unfold rg at hx; omega)
        have t2 : (x4 + (-1)).toInt = x4.toInt + -1 := ti_add rfl tl_m1 (by unfold rg at hx; omega) (by unfold rg at hx; omega)
        have b := wfC_b hw (x := x4 - 1) (by rw [t1]; omega) (by rw [t1]; unfold rg at hx; omega)
        have ih := ladd n (sI S 14 x4.toNatClampNeg (S.1 14 ((x4 - 1).toNatClampNeg))) x1 x2 x3 (x4 + (-1)) (wfC_14 hw b) (by unfold rg at hx ⊢; rw [t2]; omega) (by rw [t2]; omega)
        exact ⟨ih.1, ih.2.1, ih.2.2.trans (by rw [sI_1, if_neg (by omega)])⟩
theorem wf_add {S : hS} (hw : wfC S) (x1 x2 : Int32) : wfC (FJO_add S x1 x2).2 ∧ (FJO_isFull S = 0 → rg (FJO_add S x1 x2).1 40) := by
  rw [FJO_add_e]
  split
  · rename_i c
    have f := fuC hw c
    have hw3 : wfC (sI (sI (sI S 11 ((S.1 10 0).toNatClampNeg) x1) 12 ((S.1 10 0).toNatClampNeg) x2) 13 ((S.1 10 0).toNatClampNeg) 0) := wfC_13 (wfC_I (wfC_I hw (by decide)) (by decide)) (by unfold bt; rw [tl_0]; omega)
    obtain ⟨h1, h2, h3⟩ := ladd 300 _ x1 x2 (S.1 10 0) (S.1 10 0) hw3 f (by unfold rg at f; omega)
    generalize LJO_add_38 300 (sI (sI (sI S 11 ((S.1 10 0).toNatClampNeg) x1) 12 ((S.1 10 0).toNatClampNeg) x2) 13 ((S.1 10 0).toNatClampNeg) 0) x1 x2 (S.1 10 0) (S.1 10 0) = q at *
    refine ⟨wfC_n (wfC_14 h2 f) ?_, fun _ => f⟩
    have h3' : q.2.1 10 0 = S.1 10 0 := h3
    rw [h3']
    unfold rg at f
    unfold bt
    rw [ti_add rfl tl_1 (by omega) (by omega)]
    omega
  · rename_i c
    exact ⟨hw, fun h => absurd h c⟩
theorem wf_addRow {S : hS} (hw : wfC S) (x1 x2 : Int32) (x3 : Int64) : wfC (FJO_addRow S x1 x2 x3).2 := by
  rw [FJO_addRow_e]
  repeat' split
  all_goals first | exact hw | skip
  rename_i a b c
  have hx : rg x1 40 := by
    have wb := hw.2.1
    simp only [rg, bt, Int32.lt_iff_toInt_lt, Int32.le_iff_toInt_le, tl_0] at *
    omega
  have r := wfC_r hw hx.1 hx.2
  refine wfC_13 (wfC_L (wfC_L (wfC_I hw (by decide)) (by decide)) (by decide)) ?_
  simp only [bt, Int32.lt_iff_toInt_lt, Int32.le_iff_toInt_le, tl_6] at *
  rw [ti_add rfl tl_1 (by omega) (by omega)]
  omega
theorem wf_keepGift {S : hS} (hw : wfC S) (x1 x2 : Int32) : wfC (FJO_keepGift S x1 x2) := by
  rw [FJO_keepGift_e]
  split
  · exact hw
  · rename_i c
    have g := hw.2.2.1
    refine wfC_g (wfC_I (wfC_I hw (by decide)) (by decide)) ?_
    simp only [bt, Int32.lt_iff_toInt_lt, Int32.le_iff_toInt_le, tl_280] at *
    rw [ti_add rfl tl_1 (by omega) (by omega)]
    omega
theorem wf_turn : ∀ (n : Nat) (S : hS) (x1 x2 x3 x4 x5 : Int32), wfC S → wfC (LJO_turnRows_18 n S x1 x2 x3 x4 x5).2
  | 0, S, x1, x2, x3, x4, x5, hw => hw
  | n + 1, S, x1, x2, x3, x4, x5, hw => by
    rw [LJO_turnRows_18_s]
    split
    · exact hw
    · exact wf_turn n _ _ _ _ _ _ (wf_addRow hw _ _ _)
theorem wf_turnRows {S : hS} (hw : wfC S) (x1 x2 : Int32) : wfC (FJO_turnRows S x1 x2) := by
  rw [FJO_turnRows_e]
  exact wf_turn _ _ _ _ _ _ _ hw
theorem itemOfR : ∀ (n : Nat) (S : hS) (x1 x2 x3 x4 x5 : Int32), wfC S → lp x5 x4 → ∀ v, LJO_itemOf_14 n S x1 x2 x3 x4 x5 = .inl v → rg v 240
  | 0, S, x1, x2, x3, x4, x5, _, _, v, h => by cases h
  | n + 1, S, x1, x2, x3, x4, x5, hw, hl, v, h => by
    rw [LJO_itemOf_14_s] at h
    have nx : ¬ x4 ≤ x5 → lp (x5 + 1) x4 := by
      intro c
      simp only [lp, Int32.le_iff_toInt_le] at *
      rw [ti_add rfl tl_1 (by omega) (by omega)]
      omega
    have rr : ¬ x4 ≤ x5 → rg x5 240 := by
      intro c
      simp only [lp, rg, Int32.le_iff_toInt_le] at *
      omega
    split at h
    · cases h
    · rename_i c
      split at h
      · exact itemOfR n S _ _ _ _ _ hw (nx c) v h
      · rename_i c2
        split at h
        · cases h
          exact itC hw (rr c) c2
        · exact itemOfR n S _ _ _ _ _ hw (nx c) v h
theorem end6 {S : hS} (hw : wfC S) : lp 0 ((S.1 10 0) * 6) := by
  have b := hw.2.1
  unfold bt at b
  unfold lp
  rw [tl_0, ti_mul rfl tl_6 (by omega) (by omega)]
  omega
theorem ioC {S : hS} {x y : Int32} (hw : wfC S) (h : ¬ FJO_itemOf S x y = -1) : rg (FJO_itemOf S x y) 240 := by
  rw [FJO_itemOf_e] at h ⊢
  cases e : LJO_itemOf_14 300 S x y 0 (S.1 10 0 * 6) 0 with
  | inl v => exact itemOfR _ _ _ _ _ _ _ hw (end6 hw) v e
  | inr v =>
    rw [e] at h
    exact absurd rfl h
theorem tq_0 : (0 : Int64).toInt = 0 := by decide
theorem tq_1 : (1 : Int64).toInt = 1 := by decide
theorem tq_2 : (2 : Int64).toInt = 2 := by decide
theorem tq_6 : (6 : Int64).toInt = 6 := by decide
theorem tq_8 : (8 : Int64).toInt = 8 := by decide
theorem tq_10 : (10 : Int64).toInt = 10 := by decide
theorem tq_20 : (20 : Int64).toInt = 20 := by decide
theorem tq_30 : (30 : Int64).toInt = 30 := by decide
theorem tq_40 : (40 : Int64).toInt = 40 := by decide
theorem tq_360 : (360 : Int64).toInt = 360 := by decide
theorem tj_mul {a b : Int64} {p q : Int} (ha : a.toInt = p) (hb : b.toInt = q) (h1 : -9223372036854775808 ≤ p * q) (h2 : p * q ≤ 9223372036854775807) : (a * b).toInt = p * q := by
  rw [Int64.toInt_mul, ha, hb, Int.bmod_def]; omega
theorem tj_add {a b : Int64} {p q : Int} (ha : a.toInt = p) (hb : b.toInt = q) (h1 : -9223372036854775808 ≤ p + q) (h2 : p + q ≤ 9223372036854775807) : (a + b).toInt = p + q := by
  rw [Int64.toInt_add, ha, hb, Int.bmod_def]; omega
theorem nz64 {a : Int64} (h : ¬ a.toInt = 0) : ¬ a = 0 := fun e => h (by rw [e]; exact tq_0)
theorem nz_i2l {x : Int32} (h : ¬ x < 1) : ¬ x.toInt64 = 0 := by
  apply nz64
  rw [l32]
  simp only [Int32.lt_iff_toInt_lt, tl_1] at h
  omega
theorem nz_i2m {x : Int32} (h : 1 ≤ x) : ¬ x.toInt64 = 0 := by
  apply nz64
  rw [l32]
  simp only [Int32.le_iff_toInt_le, tl_1] at h
  omega
theorem nz_max {g : Int64} : ¬ (if g < 1 then 1 else g) = 0 := by
  split
  · decide
  · rename_i c
    intro e
    rw [e] at c
    exact c (by decide)
theorem nz_rate {r : Int64} (h : 1 ≤ r.toInt ∧ r.toInt ≤ 100) : ¬ (360 * r) = 0 := by
  apply nz64
  rw [tj_mul tq_360 rfl (by omega) (by omega)]
  omega
theorem nz_rate2 {r : Int64} (h : 1 ≤ r.toInt ∧ r.toInt ≤ 100) : ¬ (2 * (360 * r)) = 0 := by
  apply nz64
  rw [tj_mul tq_2 (tj_mul tq_360 rfl (by omega) (by omega)) (by omega) (by omega)]
  omega
theorem nz_rate3 {r : Int64} (h : 1 ≤ r.toInt ∧ r.toInt ≤ 100) : ¬ (2 * (if (360 * r) < 1 then 1 else (360 * r))) = 0 := by
  have t : (360 * r).toInt = 360 * r.toInt := tj_mul tq_360 rfl (by omega) (by omega)
  rw [if_neg (by rw [Int64.lt_iff_toInt_lt, t, tq_1]; omega)]
  exact nz_rate2 h
theorem nz_part {p : Int64} {x : Int32} (h0 : ¬ x < 0) (h1 : x.toInt64 < p) : ¬ p = 0 := by
  apply nz64
  simp only [Int32.lt_iff_toInt_lt, Int64.lt_iff_toInt_lt, l32, tl_0] at *
  omega
theorem rem64 (x y : Int64) (h : ¬ x = 0) : (y - y / x * x).toInt = y.toInt.tmod x.toInt := by
  have hx : x.toInt ≠ 0 := fun e => h (Int64.toInt_inj.mp (by rw [e]; rfl))
  have n := Int.natAbs_tmod y.toInt x.toInt
  have l : y.toInt.natAbs % x.toInt.natAbs < x.toInt.natAbs := Nat.mod_lt _ (by omega)
  have a := x.toInt_lt
  have b := x.le_toInt
  have a2 := y.toInt_lt
  have b2 := y.le_toInt
  have m := Nat.mod_le y.toInt.natAbs x.toInt.natAbs
  have e : y.toInt - y.toInt.tdiv x.toInt * x.toInt = y.toInt.tmod x.toInt := by rw [Int.tmod_def, Int.mul_comm]
  rw [Int64.toInt_sub, Int64.toInt_mul, Int64.toInt_div, Int.bmod_mul_bmod, Int.sub_bmod_bmod, e]
  rw [Int.bmod_def]
  omega
theorem com_mu {x y : Int64} (h : ¬ x = 0) : (y - y / x * x).toInt.natAbs < x.toInt.natAbs := by
  have hx : x.toInt ≠ 0 := fun e => h (Int64.toInt_inj.mp (by rw [e]; rfl))
  rw [rem64 x y h, Int.natAbs_tmod]
  exact Nat.mod_lt _ (by omega)
theorem com_nz : ∀ (n : Nat) (S : hS) (x0 x2 x4 x6 : Int64), x4.toInt.natAbs < n → ¬ (x4 = 0 ∧ x6 = 0) → ¬ (LMO_common_6 n S x0 x2 x4 x6).2 = 0
  | 0, S, x0, x2, x4, x6, h, _ => absurd h (Nat.not_lt_zero _)
  | n + 1, S, x0, x2, x4, x6, h, hz => by
    rw [LMO_common_6_s]
    split
    · rename_i c
      exact fun e => hz ⟨c, e⟩
    · rename_i c
      exact com_nz n S _ _ _ _ (Nat.lt_of_lt_of_le (com_mu c) (Nat.le_of_lt_succ h)) (fun e => c e.2)
theorem abs64 (x : Int64) : x.toInt.natAbs < 9223372036854775809 := by
  have a := x.toInt_lt
  have b := x.le_toInt
  omega
theorem comNZ {S : hS} {x y : Int64} (h : ¬ y = 0) : ¬ FMO_common S x y = 0 := by
  rw [FMO_common_e]
  exact com_nz _ _ _ _ _ _ (abs64 x) (fun e => h e.2)
/-- counts stay small -/
theorem cnt24 : ∀ (n : Nat) (S : hS) (x1 x2 x3 x4 x5 : Int32), bt x5 240 → bt x4 240 → x4.toInt ≤ x5.toInt → (240 - x5.toInt).toNat < n → bt (LMO_itemAt_24 n S x1 x2 x3 x4 x5).1 240
  | 0, S, x1, x2, x3, x4, x5, _, _, _, h => absurd h (Nat.not_lt_zero _)
  | n + 1, S, x1, x2, x3, x4, x5, h5, h4, hle, h => by
    rw [LMO_itemAt_24_s]
    simp only [bt] at h5 h4
    split
    · exact h4
    · rename_i c
      have c' : x5.toInt < 240 := by
        simp only [Int32.le_iff_toInt_le, tl_240] at c
        omega
      have t5 : (x5 + 1).toInt = x5.toInt + 1 := ti_add rfl tl_1 (by omega) (by omega)
      have t4 : (x4 + 1).toInt = x4.toInt + 1 := ti_add rfl tl_1 (by omega) (by omega)
      have t0 : (x4 + 0).toInt = x4.toInt + 0 := ti_add rfl tl_0 (by omega) (by omega)
      repeat' split
      all_goals
        apply cnt24
        · simp only [bt, t5]; omega
        · simp only [bt, t4, t0]; omega
        · simp only [t4, t0, t5]; omega
        · simp only [t5]; omega
theorem itMl : ∀ (n : Nat) (S : hS) (x1 x2 x3 : Int32), bt x3 240 → ∀ v, LMO_itemAt_2 n S x1 x2 x3 = .inl v → rg v 240 ∧ bt x2 240
  | 0, S, x1, x2, x3, _, v, h => by cases h
  | n + 1, S, x1, x2, x3, h3, v, h => by
    rw [LMO_itemAt_2_s] at h
    simp only [bt] at h3
    split at h
    · cases h
    · rename_i c
      have c' : x3.toInt < 240 := by
        simp only [Int32.le_iff_toInt_le, tl_240] at c
        omega
      have t3 : (x3 + 1).toInt = x3.toInt + 1 := ti_add rfl tl_1 (by omega) (by omega)
      have b3 : bt (x3 + 1) 240 := by simp only [bt, t3]; omega
      split at h
      · exact itMl n S _ _ _ b3 v h
      · have b4 := cnt24 300 S x1 x2 x3 0 0 (by simp only [bt, tl_0]; omega) (by simp only [bt, tl_0]; omega) (by omega) (by rw [tl_0]; omega)
        generalize LMO_itemAt_24 300 S x1 x2 x3 0 0 = q at h b4
        dsimp only at h
        split at h
        · rename_i e
          cases h
          exact ⟨⟨h3.1, c'⟩, by rw [← e]; exact b4⟩
        · exact itMl n S _ _ _ b3 v h
theorem itM {S : hS} {x y : Int32} (hw : wfM S) (h : ¬ FMO_itemAt S x y < 0) : rg (FMO_itemAt S x y) 240 ∧ bt y 240 := by
  rw [FMO_itemAt_e] at h ⊢
  cases e : LMO_itemAt_2 300 S x y 0 with
  | inl v => exact itMl _ _ _ _ _ (by simp only [bt, tl_0]; omega) v e
  | inr v =>
    rw [e] at h
    exact absurd (show (-1 : Int32) < 0 by decide) h
theorem add260 {x : Int32} (hx : rg x 40) : (260 + x).toNatClampNeg = 260 + x.toNatClampNeg := by
  unfold rg at hx
  have t : (260 + x).toInt = 260 + x.toInt := ti_add tl_260 rfl (by omega) (by omega)
  have a := cl_toInt hx.1
  have b := cl_toInt (x := 260 + x) (by omega)
  omega
theorem wf_addEntry {S : hS} (hw : wfM S) (x1 : Int64) (x3 : Int32) (h : (S.2 50 1).toInt < 40) : wfM (FMO_addEntry S x1 x3).2 ∧ rg (FMO_addEntry S x1 x3).1 40 ∧ (FMO_addEntry S x1 x3).1.toInt = (S.2 50 1).toInt ∧ ((FMO_addEntry S x1 x3).2.2 50 1).toInt = (S.2 50 1).toInt + 1 ∧ ((FMO_addEntry S x1 x3).2.2 50 (260 + (FMO_addEntry S x1 x3).1).toNatClampNeg).toInt = 0 := by
  have w1 := hw.2.1
  have t : ((S.2 50 1).toInt32).toInt = (S.2 50 1).toInt := ti_32 rfl (by omega) (by omega)
  have r : rg ((S.2 50 1).toInt32) 40 := by unfold rg; rw [t]; omega
  have k1 : (100 + (S.2 50 1).toInt32).toNatClampNeg = 100 + ((S.2 50 1).toInt32).toNatClampNeg := by
    have t1 : (100 + (S.2 50 1).toInt32).toInt = 100 + (S.2 50 1).toInt := ti_add tl_100 t (by omega) (by omega)
    have a := cl_toInt r.1
    have b := cl_toInt (x := 100 + (S.2 50 1).toInt32) (by omega)
    omega
  have k2 : (180 + (S.2 50 1).toInt32).toNatClampNeg = 180 + ((S.2 50 1).toInt32).toNatClampNeg := by
    have t1 : (180 + (S.2 50 1).toInt32).toInt = 180 + (S.2 50 1).toInt := ti_add tl_180 t (by omega) (by omega)
    have a := cl_toInt r.1
    have b := cl_toInt (x := 180 + (S.2 50 1).toInt32) (by omega)
    omega
  have ca := cl_toInt r.1
  rw [FMO_addEntry_e]
  have hw2 : wfM (sL (sL S 50 ((100 + ((S.2 50 1).toInt32)).toNatClampNeg) x1) 50 ((180 + ((S.2 50 1).toInt32)).toNatClampNeg) x3.toInt64) := wfM_L (wfM_L hw (by rw [k1]; unfold rg at r; omega)) (by rw [k2]; unfold rg at r; omega)
  have e1 : (sL (sL S 50 ((100 + ((S.2 50 1).toInt32)).toNatClampNeg) x1) 50 ((180 + ((S.2 50 1).toInt32)).toNatClampNeg) x3.toInt64).2 50 1 = S.2 50 1 := by
    rw [sL_2, if_neg (by rw [k2]; omega), sL_2, if_neg (by rw [k1]; omega)]
  generalize sL (sL S 50 ((100 + ((S.2 50 1).toInt32)).toNatClampNeg) x1) 50 ((180 + ((S.2 50 1).toInt32)).toNatClampNeg) x3.toInt64 = S2 at *
  rw [e1]
  have p1 : (S.2 50 1 + 1).toInt = (S.2 50 1).toInt + 1 := tj_add rfl tq_1 (by omega) (by omega)
  obtain ⟨h0, h1, h2, h3, h4, h5, h6, h7⟩ := hw2
  refine ⟨⟨?_, ?_, ?_, ?_, fun k hk => ?_, fun k hk => ?_, ?_, fun k hk hz => ?_⟩, r, t, ?_, ?_⟩
  · rw [sL_2, if_neg (by omega)]; exact h0
  · rw [sL_2, if_pos ⟨rfl, rfl⟩, p1]; omega
  · rw [sL_2, if_neg (by omega)]; exact h2
  · rw [sL_2, if_neg (by omega)]; exact h3
  · rw [sL_2, if_neg (by omega)]; exact h4 k hk
  · rw [sL_2, if_neg (by omega)]; exact h5 k hk
  · rw [sL_2, if_neg (by omega)]; exact h6
  · rw [sL_2, if_pos ⟨rfl, rfl⟩, p1] at hz
    rw [sL_2, if_neg (by omega)]
    exact h7 k hk (by rw [e1]; omega)
  · rw [sL_2, if_pos ⟨rfl, rfl⟩, p1]
  · rw [add260 r, sL_2, if_neg (by omega)]
    exact h7 _ (by unfold rg at r; omega) (by rw [e1]; omega)
theorem wf_addRowM {S : hS} (hw : wfM S) (x1 x2 : Int32) (x3 : Int64) (hx : rg x1 40) (hr : (S.2 50 (260 + x1).toNatClampNeg).toInt < 6) (hc : x1.toInt < (S.2 50 1).toInt) (ha : rg x2 8) : wfM (FMO_addRow S x1 x2 x3) ∧ (FMO_addRow S x1 x2 x3).2 50 1 = S.2 50 1 ∧ ((FMO_addRow S x1 x2 x3).2 50 (260 + x1).toNatClampNeg).toInt = (S.2 50 (260 + x1).toNatClampNeg).toInt + 1 ∧ ∀ k : Nat, k < 40 → k ≠ x1.toNatClampNeg → (FMO_addRow S x1 x2 x3).2 50 (260 + k) = S.2 50 (260 + k) := by
  have r := wfM_r hw hx
  have cx := cl_toInt hx.1
  have e2 := add260 hx
  have t : ((S.2 50 (260 + x1).toNatClampNeg).toInt32).toInt = (S.2 50 (260 + x1).toNatClampNeg).toInt := ti_32 rfl (by omega) (by omega)
  unfold rg at hx ha
  have t6 : ((6 * x1) + ((S.2 50 ((260 + x1).toNatClampNeg)).toInt32)).toInt = 6 * x1.toInt + (S.2 50 (260 + x1).toNatClampNeg).toInt := ti_add (ti_mul tl_6 rfl (by omega) (by omega)) t (by omega) (by omega)
  have k1 : (300 + ((6 * x1) + ((S.2 50 ((260 + x1).toNatClampNeg)).toInt32))).toNatClampNeg = 300 + ((6 * x1) + ((S.2 50 ((260 + x1).toNatClampNeg)).toInt32)).toNatClampNeg := by
    have t1 : (300 + ((6 * x1) + ((S.2 50 ((260 + x1).toNatClampNeg)).toInt32))).toInt = 300 + (6 * x1.toInt + (S.2 50 (260 + x1).toNatClampNeg).toInt) := ti_add tl_300 t6 (by omega) (by omega)
    have a := cl_toInt (x := (6 * x1) + ((S.2 50 ((260 + x1).toNatClampNeg)).toInt32)) (by omega)
    have b := cl_toInt (x := 300 + ((6 * x1) + ((S.2 50 ((260 + x1).toNatClampNeg)).toInt32))) (by omega)
    omega
  have k2 : (540 + ((6 * x1) + ((S.2 50 ((260 + x1).toNatClampNeg)).toInt32))).toNatClampNeg = 540 + ((6 * x1) + ((S.2 50 ((260 + x1).toNatClampNeg)).toInt32)).toNatClampNeg := by
    have t1 : (540 + ((6 * x1) + ((S.2 50 ((260 + x1).toNatClampNeg)).toInt32))).toInt = 540 + (6 * x1.toInt + (S.2 50 (260 + x1).toNatClampNeg).toInt) := ti_add tl_540 t6 (by omega) (by omega)
    have a := cl_toInt (x := (6 * x1) + ((S.2 50 ((260 + x1).toNatClampNeg)).toInt32)) (by omega)
    have b := cl_toInt (x := 540 + ((6 * x1) + ((S.2 50 ((260 + x1).toNatClampNeg)).toInt32))) (by omega)
    omega
  have ca := cl_toInt (x := (6 * x1) + ((S.2 50 ((260 + x1).toNatClampNeg)).toInt32)) (by omega)
  rw [FMO_addRow_e, k1, k2]
  generalize ((6 * x1) + ((S.2 50 ((260 + x1).toNatClampNeg)).toInt32)).toNatClampNeg = z at *
  rw [e2] at r hr t6 ⊢
  have e3 : (sL (sL S 50 (300 + z) x2.toInt64) 50 (540 + z) x3).2 50 (260 + x1.toNatClampNeg) = S.2 50 (260 + x1.toNatClampNeg) := by
    rw [sL_2, if_neg (by omega), sL_2, if_neg (by omega)]
  rw [e3]
  have p1 : (S.2 50 (260 + x1.toNatClampNeg) + 1).toInt = (S.2 50 (260 + x1.toNatClampNeg)).toInt + 1 := tj_add rfl tq_1 (by omega) (by omega)
  obtain ⟨h0, h1, h2, h3, h4, h5, h6, h7⟩ := hw
  refine ⟨⟨?_, ?_, ?_, ?_, fun k hk => ?_, fun k hk => ?_, ?_, fun k hk hz => ?_⟩, ?_, ?_, fun k hk hne => ?_⟩
  · rw [sL_2, if_neg (by omega), sL_2, if_neg (by omega), sL_2, if_neg (by omega)]; exact h0
  · rw [sL_2, if_neg (by omega), sL_2, if_neg (by omega), sL_2, if_neg (by omega)]; exact h1
  · rw [sL_2, if_neg (by omega), sL_2, if_neg (by omega), sL_2, if_neg (by omega)]; exact h2
  · rw [sL_2, if_neg (by omega), sL_2, if_neg (by omega), sL_2, if_neg (by omega)]; exact h3
  · rw [sL_2]
    split
    · rw [p1]; omega
    · rw [sL_2, if_neg (by omega), sL_2, if_neg (by omega)]; exact h4 k hk
  · rw [sL_2, if_neg (by omega), sL_2, if_neg (by omega), sL_2]
    split
    · rw [l32]; exact ha
    · exact h5 k hk
  · rw [sL_2, if_neg (by omega), sL_2, if_neg (by omega), sL_2, if_neg (by omega)]; exact h6
  · rw [sL_2, if_neg (by omega), sL_2, if_neg (by omega), sL_2, if_neg (by omega)] at hz
    rw [sL_2, if_neg (by omega), sL_2, if_neg (by omega), sL_2, if_neg (by omega)]
    exact h7 k hk hz
  · rw [sL_2, if_neg (by omega), sL_2, if_neg (by omega), sL_2, if_neg (by omega)]
  · rw [sL_2, if_pos ⟨rfl, rfl⟩, p1]
  · rw [sL_2, if_neg (by omega), sL_2, if_neg (by omega), sL_2, if_neg (by omega)]
theorem itM2 {S : hS} {x y : Int32} (hw : wfM S) (h : 0 ≤ FMO_itemAt S x y) : rg (FMO_itemAt S x y) 240 ∧ bt y 240 := itM hw (by
  intro c
  simp only [Int32.lt_iff_toInt_lt, Int32.le_iff_toInt_le, tl_0] at *
  omega)
theorem enM2 {S : hS} {x : Int32} (h : ¬ FMO_isEntry S x = 0) : x.toInt < (S.2 50 1).toInt := by
  rw [FMO_isEntry_e] at h
  split at h
  · exact absurd rfl h
  · split at h
    · exact absurd rfl h
    · rename_i a b
      simp only [Int64.le_iff_toInt_le, l32] at *
      omega
theorem in140 {v : Int32} (h : rg v 40) : vp_in (140 + v) 1220 := by
  unfold rg at h
  rw [vp_rg, ti_add tl_140 rfl (by omega) (by omega)]
  omega
theorem off140 {v : Int32} (h : rg v 40) : 540 ≤ (140 + v).toNatClampNeg ∨ (7 ≤ (140 + v).toNatClampNeg ∧ (140 + v).toNatClampNeg < 260) := by
  unfold rg at h
  have t : (140 + v).toInt = 140 + v.toInt := ti_add tl_140 rfl (by omega) (by omega)
  have u := cl_toInt (x := 140 + v) (by omega)
  omega
theorem payM {S0 : hS} (hw : wfM S0) (h : (S0.2 50 1).toInt < 40) {d : Int64} {k v y x : Int32} {S1 : hS} {c : Int64} (hq : FMO_addEntry S0 d k = (v, S1)) (hy : rg y 8) (hx : rg x 8) : (wfM S1 ∧ rg v 40 ∧ (S1.2 50 (260 + v).toNatClampNeg).toInt < 6) ∧ (wfM (FMO_addRow S1 v y c) ∧ rg v 40 ∧ ((FMO_addRow S1 v y c).2 50 (260 + v).toNatClampNeg).toInt < 6) ∧ wfM (sL (FMO_addRow (FMO_addRow S1 v y c) v x (-c)) 50 ((140 + v).toNatClampNeg) 1) := by
  have e := wf_addEntry hw d k h
  rw [hq] at e
  obtain ⟨e1, e2, e3, e4, e5⟩ := e
  dsimp only at e1 e2 e3 e4 e5
  obtain ⟨f1, f2, f3, -⟩ := wf_addRowM e1 v y c e2 (by omega) (by omega) hy
  obtain ⟨g1, -⟩ := wf_addRowM f1 v x (-c) e2 (by omega) (by rw [f2]; omega) hx
  exact ⟨⟨e1, e2, by omega⟩, ⟨f1, e2, by omega⟩, wfM_L g1 (off140 e2)⟩
theorem revM0 {S0 : hS} (hw : wfM S0) (h : (S0.2 50 1).toInt < 40) {d : Int64} {k v x : Int32} {S1 : hS} (hq : FMO_addEntry S0 d k = (v, S1)) (hx : rg x 40) (hc : x.toInt < (S0.2 50 1).toInt) : wfM S1 ∧ bt (0 : Int32) 6 ∧ rg x 40 ∧ rg v 40 ∧ ¬ x = v ∧ (S1.2 50 (260 + v).toNatClampNeg).toInt = (0 : Int32).toInt ∧ v.toInt < (S1.2 50 1).toInt := by
  have e := wf_addEntry hw d k h
  rw [hq] at e
  obtain ⟨e1, e2, e3, e4, e5⟩ := e
  dsimp only at e1 e2 e3 e4 e5
  exact ⟨e1, by unfold bt; rw [tl_0]; omega, hx, e2, fun z => by rw [z] at hc; omega, by rw [tl_0]; exact e5, by omega⟩
theorem revM1 {S : hS} {x1 x4 x5 : Int32} (hJ : wfM S ∧ bt x5 6 ∧ rg x1 40 ∧ rg x4 40 ∧ ¬ x1 = x4 ∧ (S.2 50 (260 + x4).toNatClampNeg).toInt = x5.toInt ∧ x4.toInt < (S.2 50 1).toInt) (c : ¬ (S.2 50 ((260 + x1).toNatClampNeg)) ≤ x5.toInt64) (z : Int64) : wfM (sL (FMO_addRow S x4 ((S.2 50 (((300 + (6 * x1)) + x5).toNatClampNeg)).toInt32) z) 50 (((780 + (6 * x1)) + x5).toNatClampNeg) 0) ∧ bt (x5 + 1) 6 ∧ rg x1 40 ∧ rg x4 40 ∧ ¬ x1 = x4 ∧ ((sL (FMO_addRow S x4 ((S.2 50 (((300 + (6 * x1)) + x5).toNatClampNeg)).toInt32) z) 50 (((780 + (6 * x1)) + x5).toNatClampNeg) 0).2 50 (260 + x4).toNatClampNeg).toInt = (x5 + 1).toInt ∧ x4.toInt < ((sL (FMO_addRow S x4 ((S.2 50 (((300 + (6 * x1)) + x5).toNatClampNeg)).toInt32) z) 50 (((780 + (6 * x1)) + x5).toNatClampNeg) 0).2 50 1).toInt := by
  obtain ⟨hw, h5, h1, h4, hne, hr, hc⟩ := hJ
  have r1 := wfM_r hw h1
  simp only [Int64.le_iff_toInt_le, l32] at c
  have cx4 := cl_toInt h4.1
  have e4 := add260 h4
  unfold bt at h5
  have u1 := h1
  have u4 := h4
  unfold rg at u1 u4
  have t6 : ((6 * x1) + x5).toInt = 6 * x1.toInt + x5.toInt := ti_add (ti_mul tl_6 rfl (by omega) (by omega)) rfl (by omega) (by omega)
  have ta : ((300 + (6 * x1)) + x5).toInt = 300 + 6 * x1.toInt + x5.toInt := ti_add (ti_add tl_300 (ti_mul tl_6 rfl (by omega) (by omega)) (by omega) (by omega)) rfl (by omega) (by omega)
  have tb : ((780 + (6 * x1)) + x5).toInt = 780 + 6 * x1.toInt + x5.toInt := ti_add (ti_add tl_780 (ti_mul tl_6 rfl (by omega) (by omega)) (by omega) (by omega)) rfl (by omega) (by omega)
  have ea : (300 + (6 * x1)) + x5 = 300 + ((6 * x1) + x5) := by
    apply Int32.toInt_inj.mp
    rw [ta, ti_add tl_300 t6 (by omega) (by omega)]
    omega
  have a := wfM_a hw (x := (6 * x1) + x5) (by unfold rg; omega)
  rw [← ea] at a
  have hv : rg ((S.2 50 (((300 + (6 * x1)) + x5).toNatClampNeg)).toInt32) 8 := by
    unfold rg
    rw [ti_32 rfl (by omega) (by omega)]
    exact a
  obtain ⟨f1, f2, f3, -⟩ := wf_addRowM hw x4 _ z h4 (by omega) hc hv
  have cb := cl_toInt (x := (780 + (6 * x1)) + x5) (by omega)
  have t5 : (x5 + 1).toInt = x5.toInt + 1 := ti_add rfl tl_1 (by omega) (by omega)
  generalize FMO_addRow S x4 ((S.2 50 (((300 + (6 * x1)) + x5).toNatClampNeg)).toInt32) z = S2 at *
  refine ⟨wfM_L f1 (by omega), by unfold bt; omega, h1, h4, hne, ?_, ?_⟩
  · rw [e4] at f3 hr ⊢
    rw [sL_2, if_neg (by omega)]
    omega
  · rw [sL_2, if_neg (by omega), f2]
    exact hc

