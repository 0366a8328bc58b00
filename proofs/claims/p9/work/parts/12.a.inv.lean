def S0 : hS := (fun _ _ => 0, fun a => if a = 1 then (fun j => if j = 7 then 1 else 0) else if a = 25 then (fun j => if j = 7 then 1 else 0) else if a = 50 then (vp_updL (fun _ => 0) 6 1) else fun _ => 0)
/-! what holds between any two calls: places within their arrays, of both sides and of both kept copies -/
def kp (S : hS) : hS := (fun a => S.1 (a + 24), fun a => S.2 (a + 24))
def mk (S : hS) : hS := (S.1, fun a => S.2 (a + 1))
def I0 (S : hS) : Prop := wfC S ∧ wfC (kp S) ∧ wfM S ∧ (¬ S.1 49 2 = 0 → wfM (mk S))
theorem wfM_same {S S' : hS} (h : S'.2 50 = S.2 50) (hw : wfM S) : wfM S' := by
  unfold wfM at hw ⊢
  rw [h]
  exact hw
theorem wfC_of {S S' : hS} (h : ∀ a ∈ [1, 2, 10, 13, 14, 20], S'.1 a = S.1 a ∧ S'.2 a = S.2 a) (hw : wfC S) : wfC S' := by
  have e1 := h 1 (by decide)
  have e2 := h 2 (by decide)
  have e10 := h 10 (by decide)
  have e13 := h 13 (by decide)
  have e14 := h 14 (by decide)
  have e20 := h 20 (by decide)
  unfold wfC at hw ⊢
  rw [e2.1, e10.1, e20.1, e1.1, e13.1, e14.1, e1.2]
  exact hw
theorem wfC_S {ks : List Nat} {S S' : hS} (h : Same ks S S') (hd : ∀ a ∈ [1, 2, 10, 13, 14, 20], a ∉ ks) (hw : wfC S) : wfC S' := wfC_of (fun a ha => h a (hd a ha)) hw
theorem wfC_K {ks : List Nat} {S S' : hS} (h : Same ks S S') (hd : ∀ a ∈ [1, 2, 10, 13, 14, 20], a + 24 ∉ ks) (hw : wfC (kp S)) : wfC (kp S') := wfC_of (S := kp S) (S' := kp S') (fun a ha => h (a + 24) (hd a ha)) hw
theorem wfM_S {ks : List Nat} {S S' : hS} (h : Same ks S S') (hd : 50 ∉ ks) (hw : wfM S) : wfM S' := wfM_same (h 50 hd).2 hw
theorem wfM_K {ks : List Nat} {S S' : hS} (h : Same ks S S') (hd : 51 ∉ ks) (hq : S'.1 49 2 = S.1 49 2) (hw : ¬ S.1 49 2 = 0 → wfM (mk S)) : ¬ S'.1 49 2 = 0 → wfM (mk S') := fun c => wfM_same (S := mk S) (S' := mk S') (h 51 hd).2 (hw (by rw [← hq]; exact c))
theorem I_C {ks : List Nat} {S S' : hS} (hI : I0 S) (h : Same ks S S') (hd : (∀ a ∈ [1, 2, 10, 13, 14, 20], a + 24 ∉ ks) ∧ 50 ∉ ks ∧ 51 ∉ ks ∧ 49 ∉ ks) (hC : wfC S') : I0 S' := ⟨hC, wfC_K h hd.1 hI.2.1, wfM_S h hd.2.1 hI.2.2.1, wfM_K h hd.2.2.1 (congrFun (h 49 hd.2.2.2).1 2) hI.2.2.2⟩
theorem I_M {ks : List Nat} {S S' : hS} (hI : I0 S) (h : Same ks S S') (hd : (∀ a ∈ [1, 2, 10, 13, 14, 20], a ∉ ks) ∧ (∀ a ∈ [1, 2, 10, 13, 14, 20], a + 24 ∉ ks) ∧ 51 ∉ ks) (hq : Sm S S') (hM : wfM S') : I0 S' := ⟨wfC_S h hd.1 hI.1, wfC_K h hd.2.1 hI.2.1, hM, wfM_K h hd.2.2 hq.1 hI.2.2.2⟩
theorem I_N {ks : List Nat} {S S' : hS} (hI : I0 S) (h : Same ks S S') (hd : (∀ a ∈ [1, 2, 10, 13, 14, 20], a ∉ ks) ∧ (∀ a ∈ [1, 2, 10, 13, 14, 20], a + 24 ∉ ks) ∧ 50 ∉ ks ∧ 51 ∉ ks) (hq : Sm S S') : I0 S' := ⟨wfC_S h hd.1 hI.1, wfC_K h hd.2.1 hI.2.1, wfM_S h hd.2.2.1 hI.2.2.1, wfM_K h hd.2.2.2 hq.1 hI.2.2.2⟩
-- the start
theorem S0_wC : wfC S0 := ⟨⟨by decide, by decide⟩, ⟨by decide, by decide⟩, ⟨by decide, by decide⟩, ⟨by decide, by decide⟩, ⟨by decide, by decide⟩, fun _ _ => (show bt (0 : Int32) 6 from ⟨by decide, by decide⟩), fun _ _ => (show rg (0 : Int32) 40 from ⟨by decide, by decide⟩), by decide, by decide⟩
theorem S0_wK : wfC (kp S0) := ⟨⟨by decide, by decide⟩, ⟨by decide, by decide⟩, ⟨by decide, by decide⟩, ⟨by decide, by decide⟩, ⟨by decide, by decide⟩, fun _ _ => (show bt (0 : Int32) 6 from ⟨by decide, by decide⟩), fun _ _ => (show rg (0 : Int32) 40 from ⟨by decide, by decide⟩), by decide, by decide⟩
theorem S0_50 {j : Nat} (h : j ≠ 6) : S0.2 50 j = 0 := by
  show vp_updL (fun _ => 0) 6 1 j = 0
  unfold vp_updL
  rw [if_neg h]
theorem S0_wM : wfM S0 := by
  refine ⟨?_, ?_, ?_, ?_, fun k hk => ?_, fun k hk => ?_, ⟨by decide, by decide⟩, fun k hk _ => ?_⟩
  · rw [S0_50 (by decide)]; decide
  · rw [S0_50 (by decide)]; decide
  · rw [S0_50 (by decide)]; decide
  · rw [S0_50 (by decide)]; decide
  · rw [S0_50 (by omega)]; decide
  · rw [S0_50 (by omega)]; decide
  · rw [S0_50 (by omega)]; decide
-- the class
theorem wfC_c {S : hS} {v : Int32} (h : wfC S) (hv : bt v 8) : wfC (sI S 2 0 v) := by
  obtain ⟨h0, h1, h2, h3, h4, h5, h6, h7⟩ := h
  refine ⟨?_, ?_, ?_, ?_, ?_, fun i hi => ?_, fun i hi => ?_, h7⟩ <;> rw [sI_1]
  · rw [if_pos ⟨rfl, rfl⟩]; exact hv
  · rw [if_neg (by omega)]; exact h1
  · rw [if_neg (by omega)]; exact h2
  · rw [if_neg (by omega)]; exact h3
  · rw [if_neg (by omega)]; exact h4
  · rw [if_neg (by omega)]; exact h5 i hi
  · rw [if_neg (by omega)]; exact h6 i hi
theorem wfC_p {S : hS} {v : Int32} (h : wfC S) (hv : bt v 10) : wfC (sI S 20 0 v) := by
  obtain ⟨h0, h1, h2, h3, h4, h5, h6, h7⟩ := h
  refine ⟨?_, ?_, ?_, ?_, ?_, fun i hi => ?_, fun i hi => ?_, h7⟩ <;> rw [sI_1]
  · rw [if_neg (by omega)]; exact h0
  · rw [if_neg (by omega)]; exact h1
  · rw [if_neg (by omega)]; exact h2
  · rw [if_pos ⟨rfl, rfl⟩]; exact hv
  · rw [if_neg (by omega)]; exact h4
  · rw [if_neg (by omega)]; exact h5 i hi
  · rw [if_neg (by omega)]; exact h6 i hi
theorem wfC_f {S : hS} {j : Nat} {v : Int32} (h : wfC S) (hv : j = 4 → bt v 20) : wfC (sI S 1 j v) := by
  obtain ⟨h0, h1, h2, h3, h4, h5, h6, h7⟩ := h
  refine ⟨?_, ?_, ?_, ?_, ?_, fun i hi => ?_, fun i hi => ?_, h7⟩ <;> rw [sI_1]
  · rw [if_neg (by omega)]; exact h0
  · rw [if_neg (by omega)]; exact h1
  · rw [if_neg (by omega)]; exact h2
  · rw [if_neg (by omega)]; exact h3
  · split
    · rename_i c; exact hv c.2.symm
    · exact h4
  · rw [if_neg (by omega)]; exact h5 i hi
  · rw [if_neg (by omega)]; exact h6 i hi
theorem wfC_rate {S : hS} {j : Nat} {v : Int64} (h : wfC S) (hv : j = 7 → 1 ≤ v.toInt ∧ v.toInt ≤ 100) : wfC (sL S 1 j v) := by
  obtain ⟨h0, h1, h2, h3, h4, h5, h6, h7⟩ := h
  refine ⟨h0, h1, h2, h3, h4, h5, h6, ?_⟩
  rw [sL_2]
  split
  · rename_i c; exact hv c.2.symm
  · exact h7
theorem bt_succ {v : Int32} {n : Int} (h : bt v n) (c : v.toInt < n) (hn : n ≤ 1000) : bt (v + 1) n := by
  unfold bt at h ⊢
  rw [ti_add rfl tl_1 (by omega) (by omega)]
  omega
theorem wC_account {S : hS} (hw : wfC S) (x : Int32) : wfC (FHL_account S x).2 := by
  rw [FHL_account_e]
  split
  · exact hw
  split
  · show wfC (FAC_add S x).2
    rw [FAC_add_e]
    split
    · rename_i c
      have h8 : (8 : Int32).toInt = 8 := by decide
      rw [Int32.lt_iff_toInt_lt, h8] at c
      exact wfC_c (wfC_I (wfC_I (wfC_L (wfC_L (wfC_I (wfC_I (wfC_I hw (by decide)) (by decide)) (by decide)) (by decide)) (by decide)) (by decide)) (by decide)) (bt_succ hw.1 c (by omega))
    · exact hw
  · exact hw
theorem wC_entry {S : hS} (hw : wfC S) (x : Int64) : wfC (FHL_entry S x).2 := by
  rw [FHL_entry_e]
  split
  · exact hw
  · exact (wf_add hw _ _).1
theorem wC_row {S : hS} (hw : wfC S) (x1 x2 : Int32) (x3 : Int64) : wfC (FHL_row S x1 x2 x3).2 := by
  rw [FHL_row_e]
  repeat' split
  all_goals first | exact hw | exact wf_addRow hw _ _ _
theorem wC_close {S : hS} (hw : wfC S) (x : Int32) : wfC (FHL_close S x).2 := by
  rw [FHL_close_e]
  repeat' split
  all_goals first | exact hw | exact wfC_S (fr_FBO_makeItems _ _) (by decide) (wfC_I hw (by decide))
theorem wC_la {S : hS} (hw : wfC S) (x : Int32) : wfC (FLA_close S x).2 := by
  unfold FLA_close
  split
  · exact wfC_L (wC_close hw x) (by decide)
  · exact hw
theorem wC_keepFound {S : hS} (hw : wfC S) (x : Int64) : wfC (FBO_keepFound S x) := by
  rw [FBO_keepFound_e]
  split
  · exact hw
  · rename_i c
    refine wfC_f (wfC_L hw (by decide)) (fun _ => bt_succ hw.2.2.2.2.1 ?_ (by omega))
    have h20 : (20 : Int32).toInt = 20 := by decide
    simp only [Int32.lt_iff_toInt_lt, Int32.le_iff_toInt_le, h20] at c
    omega
theorem wC_pay15 : ∀ (n : Nat) (S : hS) (x1 x2 : Int32) (x3 x5 : Int64) (x7 x8 : Int32), wfC S → wfC (LJO_payItems_15 n S x1 x2 x3 x5 x7 x8).2.2
  | 0, S, x1, x2, x3, x5, x7, x8, hw => hw
  | n + 1, S, x1, x2, x3, x5, x7, x8, hw => by
    rw [LJO_payItems_15_s]
    repeat' split
    all_goals first | exact hw | exact wC_pay15 n _ _ _ _ _ _ _ hw | exact wC_pay15 n _ _ _ _ _ _ _ (wf_keepGift (wfC_L hw (by decide)) _ _)
theorem wC_payItems {S : hS} (hw : wfC S) (x1 x2 : Int32) (x3 : Int64) : wfC (FJO_payItems S x1 x2 x3) := by
  rw [FJO_payItems_e]
  exact wC_pay15 _ _ _ _ _ _ _ _ hw
theorem wC_payment {S : hS} (hw : wfC S) (x1 : Int32) (x2 x4 : Int64) : wfC (FHL_payment S x1 x2 x4).2 := by
  rw [FHL_payment_e]
  by_cases c1 : x2 < 1
  · rw [if_pos c1]; exact hw
  rw [if_neg c1]
  by_cases c2 : 100000000 < x2
  · rw [if_pos c2]; exact hw
  rw [if_neg c2]
  by_cases c3 : FBO_isUnclosedDay S x4 = 0
  · rw [if_pos c3]; exact hw
  rw [if_neg c3]
  by_cases c4 : FAC_firstCash S = -1
  · rw [if_pos c4]; exact hw
  rw [if_neg c4]
  by_cases c5 : FJO_isFull S = 0
  · rw [if_pos c5]
    by_cases c6 : FAC_hasHousehold S x1 = 0
    · rw [if_pos c6]; exact wC_keepFound hw _
    · rw [if_neg c6]
      dsimp only
      exact wC_payItems (wf_addRow (wf_addRow (wf_add hw _ _).1 _ _ _) _ _ _) _ _ _
  · rw [if_neg c5]; exact hw
theorem wC_instal {S : hS} (hw : wfC S) (x1 x2 : Int32) : wfC (FHL_instal S x1 x2).2 := by
  rw [FHL_instal_e]
  repeat' split
  all_goals first | exact hw | skip
  show wfC (FPL_add S (FJO_dueOf S x1) x2).2
  rw [FPL_add_e]
  repeat' split
  all_goals first | exact hw | skip
  refine wfC_p (wfC_L (wfC_L (wfC_I hw (by decide)) (by decide)) (by decide)) (bt_succ hw.2.2.2.1 ?_ (by omega))
  have h10 : (10 : Int32).toInt = 10 := by decide
  simp only [Int32.lt_iff_toInt_lt, Int32.le_iff_toInt_le, h10] at *
  omega
theorem wC_closeMonth {S : hS} (hw : wfC S) (x1 : Int32) : wfC (FHL_closeMonth S x1).2 := by
  rw [FHL_closeMonth_e]
  repeat' split
  all_goals first | exact hw | exact wfC_f hw (fun h => absurd h (by decide))
theorem wC_reverse {S : hS} (hw : wfC S) (x1 : Int32) (x2 : Int64) : wfC (FHL_reverse S x1 x2).2 := by
  rw [FHL_reverse_e]
  repeat' split
  all_goals first | exact hw | exact wfC_I (wfC_S (fr_FJO_clearItems _ _) (by decide) (wf_turnRows (wf_add hw _ _).1 _ _)) (by decide)
theorem wC_rate {S : hS} (hw : wfC S) (x1 x3 : Int64) : wfC (FHL_rate S x1 x3).2 := by
  rw [FHL_rate_e]
  repeat' split
  all_goals first | exact hw | skip
  refine wfC_rate (wfC_rate hw (fun h => absurd h (by decide))) (fun _ => ?_)
  have h1 : (1 : Int64).toInt = 1 := by decide
  have h100 : (100 : Int64).toInt = 100 := by decide
  simp only [Int64.lt_iff_toInt_lt, Int64.le_iff_toInt_le, h1, h100] at *
  omega
-- the reference
theorem offI {c w : Int32} {p : Int} (hc : c.toInt = p) (h0 : 0 ≤ w.toInt) (h1 : w.toInt ≤ 300) (hp : 0 ≤ p) (hp2 : p ≤ 2000) : (c + w).toNatClampNeg = p.toNat + w.toInt.toNat := by
  have e : (c + w).toInt = p + w.toInt := ti_add hc rfl (by omega) (by omega)
  have e2 : (c + w).toNatClampNeg = (c + w).toInt.toNat := rfl
  rw [e2, e]
  omega
theorem wfM_at {S : hS} {c w : Int32} {v : Int64} (p : Int) (hw : wfM S) (hc : c.toInt = p) (h0 : 0 ≤ w.toInt) (h1 : w.toInt ≤ 20) (hp : (7 ≤ p ∧ p ≤ 230) ∨ (540 ≤ p ∧ p ≤ 2000)) : wfM (sL S 50 (c + w).toNatClampNeg v) := wfM_L hw (by
  rw [offI hc h0 (by omega) (by omega) (by omega)]
  omega)
theorem wfM_W {S : hS} {j : Nat} {v : Int64} (h : wfM S) (h0' : j = 0 → 0 ≤ v.toInt ∧ v.toInt ≤ 8) (h3' : j = 3 → 0 ≤ v.toInt ∧ v.toInt ≤ 10) (h4' : j = 4 → 0 ≤ v.toInt ∧ v.toInt ≤ 20) (h6' : j = 6 → 1 ≤ v.toInt ∧ v.toInt ≤ 100) (hj : j ≠ 1 ∧ j < 260) : wfM (sL S 50 j v) := by
  obtain ⟨h0, h1, h2, h3, h4, h5, h6, h7⟩ := h
  refine ⟨?_, ?_, ?_, ?_, fun k hk => ?_, fun k hk => ?_, ?_, fun k hk hz => ?_⟩
  · rw [sL_2]
    split
    · rename_i c; exact h0' c.2.symm
    · exact h0
  · rw [sL_2, if_neg (by omega)]; exact h1
  · rw [sL_2]
    split
    · rename_i c; exact h3' c.2.symm
    · exact h2
  · rw [sL_2]
    split
    · rename_i c; exact h4' c.2.symm
    · exact h3
  · rw [sL_2, if_neg (by omega)]; exact h4 k hk
  · rw [sL_2, if_neg (by omega)]; exact h5 k hk
  · rw [sL_2]
    split
    · rename_i c; exact h6' c.2.symm
    · exact h6
  · rw [sL_2, if_neg (by omega)] at hz ⊢; exact h7 k hk hz
theorem rg8 {x : Int32} (h : rg x 8) : 0 ≤ x.toInt ∧ x.toInt ≤ 20 := by unfold rg at h; omega
theorem t32 {a : Int64} {n : Int} (h0 : 0 ≤ a.toInt) (h1 : a.toInt ≤ n) (hn : n ≤ 1000) : a.toInt32.toInt = a.toInt := ti_32 rfl (by omega) (by omega)
theorem j_succ {a : Int64} {n : Int} (h0 : 0 ≤ a.toInt) (h1 : a.toInt < n) (hn : n ≤ 1000) : 0 ≤ (a + 1).toInt ∧ (a + 1).toInt ≤ n := by
  rw [tj_add rfl tq_1 (by omega) (by omega)]
  omega
theorem ne_lt {a b : Int64} (h : ¬ a = b) (h1 : a.toInt ≤ b.toInt) : a.toInt < b.toInt := by
  have := ne64 h
  omega
theorem wM_account {S : hS} (hw : wfM S) (x1 : Int32) : wfM (FMO_account S x1).2 := by
  rw [FMO_account_e]
  by_cases c : S.2 50 0 = 8
  · rw [if_pos c]; exact wfM_I hw
  rw [if_neg c]
  split
  · exact wfM_I hw
  split
  · have e8 : (8 : Int64).toInt = 8 := by decide
    have hb := hw.1
    have hlt := ne_lt c (by rw [e8]; exact hb.2)
    rw [e8] at hlt
    have e32 := t32 hb.1 hb.2 (by omega)
    refine wfM_W (wfM_at 10 (wfM_I hw) (by decide) (by rw [e32]; omega) (by rw [e32]; omega) (by omega)) (fun _ => ?_) (fun h => absurd h (by decide)) (fun h => absurd h (by decide)) (fun h => absurd h (by decide)) (by decide)
    rw [sL_2, if_neg (by rw [offI (p := 10) (by decide) (by rw [e32]; omega) (by rw [e32]; omega) (by omega) (by omega)]; omega)]
    exact j_succ hb.1 hlt (by omega)
  · exact wfM_I hw
theorem wM_entry {S : hS} (hw : wfM S) (x1 : Int64) : wfM (FMO_entry S x1).2 := by
  rw [FMO_entry_e]
  by_cases c : S.2 50 1 = 40
  · rw [if_pos c]; exact wfM_I hw
  rw [if_neg c]
  split
  · exact wfM_I hw
  split
  · have e : (40 : Int64).toInt = 40 := by decide
    have h := ne_lt c (by rw [e]; exact hw.2.1.2)
    rw [e] at h
    exact (wf_addEntry (wfM_I hw) _ _ h).1
  · exact wfM_I hw
theorem wM_row {S : hS} (hw : wfM S) (x1 x2 : Int32) (x3 : Int64) : wfM (FMO_row S x1 x2 x3).2 := by
  rw [FMO_row_e]
  by_cases c1 : FMO_isEntry (sI S 49 4 0) x1 = 0
  · rw [if_pos c1]; exact wfM_I hw
  rw [if_neg c1]
  by_cases c2 : FMO_isAccount (sI S 49 4 0) x2 = 0
  · rw [if_pos c2]; exact wfM_I hw
  rw [if_neg c2]
  split
  · exact wfM_I hw
  by_cases c3 : S.2 50 ((260 + x1).toNatClampNeg) = 6
  · rw [if_pos c3]; exact wfM_I hw
  rw [if_neg c3]
  split
  · exact wfM_I hw
  split
  · exact wfM_I hw
  · have he : rg x1 40 := enM (wfM_I hw) c1
    have e6 : (6 : Int64).toInt = 6 := by decide
    have hr := wfM_r hw he
    have hlt := ne_lt c3 (by rw [e6]; exact hr.2)
    rw [e6] at hlt
    exact (wf_addRowM (wfM_I hw) _ _ _ he hlt (enM2 c1) (acM (wfM_I hw) c2)).1
theorem wM_close120 : ∀ (n : Nat) (S : hS) (x1 : Int32) (x2 : Int64) (x4 : Int32), wfM S ∧ bt x4 6 ∧ rg x1 40 → wfM (LMO_close_120 n S x1 x2 x4).2
  | 0, S, x1, x2, x4, hJ => hJ.1
  | n + 1, S, x1, x2, x4, hJ => by
    rw [LMO_close_120_s]
    by_cases c : (S.2 50 ((260 + x1).toNatClampNeg)) ≤ x4.toInt64
    · rw [if_pos c]; exact hJ.1
    · rw [if_neg c]
      by_cases d : (FMO_isItem S x1 x4) = 0
      · rw [if_pos d]; exact wM_close120 n _ _ _ _ (vc_FMO_close_inv120_23 S x1 x2 x4 hJ c d)
      · rw [if_neg d]; exact wM_close120 n _ _ _ _ (vc_FMO_close_inv120_27 S x1 x2 x4 hJ c d)
theorem wM_close {S : hS} (hw : wfM S) (x1 : Int32) : wfM (FMO_close S x1).2 := by
  rw [FMO_close_e]
  by_cases c2 : FMO_isEntry (sI S 49 4 0) x1 = 0
  · rw [if_pos c2]; exact wfM_I hw
  rw [if_neg c2]
  by_cases c4 : 0 < S.2 50 ((140 + x1).toNatClampNeg)
  · rw [if_pos c4]; exact wfM_I hw
  rw [if_neg c4]
  by_cases c7 : FMO_isLate (sI S 49 4 0) (S.2 50 ((100 + x1).toNatClampNeg)) = 0
  · rw [if_pos c7]
    dsimp only
    by_cases c16 : (LMO_close_51 300 (sI S 49 4 0) x1 0 0).1 = 0
    · rw [if_pos c16]
      exact wM_close120 _ _ _ _ _ (vc_FMO_close_inv0120_30 S x1 hw c2 c4 c7 (LMO_close_51 300 (sI S 49 4 0) x1 0 0).1 (LMO_close_51 300 (sI S 49 4 0) x1 0 0).2 rfl c16)
    · rw [if_neg c16]; exact wfM_I (wfM_I hw)
  · rw [if_neg c7]; exact wfM_I hw
theorem wM_pay185 : ∀ (n : Nat) (S : hS) (x1 : Int32) (x2 x4 : Int64) (x6 x7 : Int32) (x8 : Int64) (x10 : Int32), wfM S ∧ bt x10 241 ∧ rg x7 40 → wfM (LMO_payment_185 n S x1 x2 x4 x6 x7 x8 x10).2.2
  | 0, S, x1, x2, x4, x6, x7, x8, x10, hJ => hJ.1
  | n + 1, S, x1, x2, x4, x6, x7, x8, x10, hJ => by
    rw [LMO_payment_185_s]
    by_cases c : (FMO_itemAt S x1 x10) < 0
    · rw [if_pos c]; exact hJ.1
    rw [if_neg c]
    by_cases d : (S.2 50 ((780 + (FMO_itemAt S x1 x10)).toNatClampNeg)) ≤ x8
    · rw [if_pos d]
      by_cases f : (S.2 50 ((780 + (FMO_itemAt S x1 x10)).toNatClampNeg)) ≤ 0
      · rw [if_pos f]; exact wM_pay185 n _ _ _ _ _ _ _ _ (vc_FMO_payment_inv185_32 S x1 x2 x4 x6 x7 x8 x10 hJ c d f)
      · rw [if_neg f]; exact wM_pay185 n _ _ _ _ _ _ _ _ (vc_FMO_payment_inv185_38 S x1 x2 x4 x6 x7 x8 x10 hJ c d f)
    · rw [if_neg d]
      by_cases f : x8 ≤ 0
      · rw [if_pos f]; exact wM_pay185 n _ _ _ _ _ _ _ _ (vc_FMO_payment_inv185_41 S x1 x2 x4 x6 x7 x8 x10 hJ c d f)
      · rw [if_neg f]; exact wM_pay185 n _ _ _ _ _ _ _ _ (vc_FMO_payment_inv185_47 S x1 x2 x4 x6 x7 x8 x10 hJ c d f)
theorem wM_payment {S : hS} (hw : wfM S) (x1 : Int32) (x2 x4 : Int64) : wfM (FMO_payment S x1 x2 x4).2 := by
  rw [FMO_payment_e]
  generalize hy : LMO_payment_8 300 (sI S 49 4 0) x1 x2 x4 0 = y
  generalize hq : FMO_addEntry (sI S 49 4 0) x4 1 = q
  obtain ⟨v, S1⟩ := q
  dsimp only
  by_cases c10 : FMO_isIn (sI S 49 4 0) x2 1 100000000 = 0
  · rw [if_pos c10]; exact wfM_I hw
  rw [if_neg c10]
  by_cases c11 : FMO_isDay (sI S 49 4 0) x4 = 0
  · rw [if_pos c11]; exact wfM_I hw
  rw [if_neg c11]
  by_cases c13 : FMO_isLate (sI S 49 4 0) x4 = 0
  · rw [if_pos c13]
    by_cases c15 : FMO_isAccount (sI S 49 4 0) y = 0
    · rw [if_pos c15]; exact wfM_I hw
    rw [if_neg c15]
    by_cases c17 : S.2 50 1 = 40
    · rw [if_pos c17]; exact wfM_I hw
    rw [if_neg c17]
    by_cases c19 : FMO_isHousehold (sI S 49 4 0) x1 = 0
    · rw [if_pos c19]
      split
      · exact wfM_I hw
      · rename_i c
        have e20 : (20 : Int64).toInt = 20 := by decide
        rw [Int64.le_iff_toInt_le, e20] at c
        have hb := hw.2.2.2.1
        have e32 := t32 hb.1 hb.2 (by omega)
        refine wfM_W (wfM_at 1200 (wfM_I hw) (by decide) (by rw [e32]; omega) (by rw [e32]; omega) (by omega)) (fun h => absurd h (by decide)) (fun h => absurd h (by decide)) (fun _ => ?_) (fun h => absurd h (by decide)) (by decide)
        rw [sL_2, if_neg (by rw [offI (p := 1200) (by decide) (by rw [e32]; omega) (by rw [e32]; omega) (by omega) (by omega)]; omega)]
        exact j_succ hb.1 (show (S.2 50 4).toInt < 20 by omega) (by omega)
    · rw [if_neg c19]
      have h9 := wM_pay185 300 _ x1 x2 x4 y v x2 0 (vc_FMO_payment_inv0185_50 S x1 x2 x4 hw y hy c10 c11 c13 c15 c17 c19 v S1 hq)
      dsimp only
      exact h9
  · rw [if_neg c13]; exact wfM_I hw
theorem wM_dun {S : hS} (hw : wfM S) (x1 : Int32) (x2 : Int64) : wfM (FMO_dun S x1 x2).2 := by
  rw [FMO_dun_e]
  by_cases c : FMO_isHousehold (sI S 49 4 0) x1 = 0
  · rw [if_pos c]; exact wfM_I hw
  rw [if_neg c]
  have r := rg8 (hhM (wfM_I hw) c)
  repeat' split
  all_goals dsimp only
  all_goals first | with_reducible exact wfM_I hw | with_reducible exact wfM_at 20 (wfM_I hw) (by decide) r.1 r.2 (by omega) | with_reducible exact wfM_at 30 (wfM_at 20 (wfM_I hw) (by decide) r.1 r.2 (by omega)) (by decide) r.1 r.2 (by omega)
theorem wM_hardship {S : hS} (hw : wfM S) (x1 : Int32) (x2 x4 : Int64) : wfM (FMO_hardship S x1 x2 x4).2 := by
  rw [FMO_hardship_e]
  by_cases c : FMO_isHousehold (sI S 49 4 0) x1 = 0
  · rw [if_pos c]; exact wfM_I hw
  rw [if_neg c]
  have r := rg8 (hhM (wfM_I hw) c)
  split
  · exact wfM_at 60 (wfM_at 50 (wfM_at 40 (wfM_I hw) (by decide) r.1 r.2 (by omega)) (by decide) r.1 r.2 (by omega)) (by decide) r.1 r.2 (by omega)
  · exact wfM_I hw
theorem wM_instal {S : hS} (hw : wfM S) (x1 x2 : Int32) : wfM (FMO_instal S x1 x2).2 := by
  rw [FMO_instal_e]
  split
  · exact wfM_I hw
  split
  · exact wfM_I hw
  split
  · exact wfM_I hw
  by_cases c : S.2 50 3 = 10
  · rw [if_pos c]; exact wfM_I hw
  rw [if_neg c]
  split
  · exact wfM_I hw
  · have e10 : (10 : Int64).toInt = 10 := by decide
    have hb := hw.2.2.1
    have hlt := ne_lt c (by rw [e10]; exact hb.2)
    rw [e10] at hlt
    have e32 := t32 hb.1 hb.2 (by omega)
    refine wfM_W (wfM_at 1190 (wfM_at 1180 (wfM_I hw) (by decide) (by rw [e32]; omega) (by rw [e32]; omega) (by omega)) (by decide) (by rw [e32]; omega) (by rw [e32]; omega) (by omega)) (fun h => absurd h (by decide)) (fun _ => ?_) (fun h => absurd h (by decide)) (fun h => absurd h (by decide)) (by decide)
    rw [sL_2, if_neg (by rw [offI (p := 1190) (by decide) (by rw [e32]; omega) (by rw [e32]; omega) (by omega) (by omega)]; omega), sL_2, if_neg (by rw [offI (p := 1180) (by decide) (by rw [e32]; omega) (by rw [e32]; omega) (by omega) (by omega)]; omega)]
    exact j_succ hb.1 hlt (by omega)
theorem wM_move {S : hS} (hw : wfM S) (x1 x2 : Int32) (x3 : Int64) : wfM (FMO_move S x1 x2 x3).2 := by
  rw [FMO_move_e]
  by_cases c : FMO_isHousehold (sI S 49 4 0) x1 = 0
  · rw [if_pos c]; exact wfM_I hw
  rw [if_neg c]
  have r := rg8 (hhM (wfM_I hw) c)
  by_cases d : FMO_isHousehold (sI S 49 4 0) x2 = 0
  · rw [if_pos d]; exact wfM_I hw
  rw [if_neg d]
  have r2 := rg8 (hhM (wfM_I hw) d)
  repeat' split
  all_goals dsimp only
  all_goals first | with_reducible exact wfM_I hw | with_reducible exact wfM_at 80 (wfM_at 70 (wfM_I hw) (by decide) r.1 r.2 (by omega)) (by decide) r2.1 r2.2 (by omega)
theorem wM_closeMonth {S : hS} (hw : wfM S) (x1 : Int32) : wfM (FMO_closeMonth S x1).2 := by
  rw [FMO_closeMonth_e]
  repeat' split
  all_goals dsimp only
  all_goals first | with_reducible exact wfM_I hw | exact wfM_W (wfM_I hw) (fun h => absurd h (by decide)) (fun h => absurd h (by decide)) (fun h => absurd h (by decide)) (fun h => absurd h (by decide)) (by decide)
theorem wM_rev99 : ∀ (n : Nat) (S : hS) (x1 : Int32) (x2 : Int64) (x4 x5 : Int32), wfM S ∧ bt x5 6 ∧ rg x1 40 ∧ rg x4 40 ∧ ¬ x1 = x4 ∧ (S.2 50 (260 + x4).toNatClampNeg).toInt = x5.toInt ∧ x4.toInt < (S.2 50 1).toInt → wfM (LMO_reverse_99 n S x1 x2 x4 x5).2
  | 0, S, x1, x2, x4, x5, hJ => hJ.1
  | n + 1, S, x1, x2, x4, x5, hJ => by
    rw [LMO_reverse_99_s]
    by_cases c : (S.2 50 ((260 + x1).toNatClampNeg)) ≤ x5.toInt64
    · rw [if_pos c]; exact hJ.1
    · rw [if_neg c]; exact wM_rev99 n _ _ _ _ _ (vc_FMO_reverse_inv99_22 S x1 x2 x4 x5 hJ c)
theorem wM_reverse {S : hS} (hw : wfM S) (x1 : Int32) (x2 : Int64) : wfM (FMO_reverse S x1 x2).2 := by
  rw [FMO_reverse_e]
  by_cases a1 : FMO_isEntry (sI S 49 4 0) x1 = 0
  · rw [if_pos a1]; exact wfM_I hw
  rw [if_neg a1]
  by_cases a2 : S.2 50 ((140 + x1).toNatClampNeg) = 0
  · rw [if_pos a2]; exact wfM_I hw
  rw [if_neg a2]
  by_cases a3 : 0 < S.2 50 ((220 + x1).toNatClampNeg)
  · rw [if_pos a3]; exact wfM_I hw
  rw [if_neg a3]
  by_cases a4 : 0 < S.2 50 ((180 + x1).toNatClampNeg)
  · rw [if_pos a4]; exact wfM_I hw
  rw [if_neg a4]
  by_cases a5 : FMO_isPaid (sI S 49 4 0) x1 = 0
  · rw [if_pos a5]
    by_cases a6 : FMO_isDay (sI S 49 4 0) x2 = 0
    · rw [if_pos a6]; exact wfM_I hw
    rw [if_neg a6]
    by_cases a7 : S.2 50 1 = 40
    · rw [if_pos a7]; exact wfM_I hw
    rw [if_neg a7]
    dsimp only
    have e40 : (40 : Int64).toInt = 40 := by decide
    have hlt := ne_lt a7 (by rw [e40]; exact hw.2.1.2)
    rw [e40] at hlt
    have hx : rg x1 40 := enM (wfM_I hw) a1
    have hv := (wf_addEntry (S := sI S 49 4 0) (wfM_I hw) x2 2 hlt).2.1
    have hJ := vc_FMO_reverse_inv099_25 S x1 x2 hw a1 a2 a3 a4 a5 a6 a7 (FMO_addEntry (sI S 49 4 0) x2 2).1 (FMO_addEntry (sI S 49 4 0) x2 2).2 rfl
    have h9 := wM_rev99 300 _ x1 x2 _ 0 hJ
    exact wfM_L (wfM_L h9 (off140 hv)) (by
      unfold rg at hx
      rw [offI (p := 220) (by decide) hx.1 (by omega) (by omega) (by omega)]
      omega)
  · rw [if_neg a5]; exact wfM_I hw
theorem wM_rate {S : hS} (hw : wfM S) (x1 x3 : Int64) : wfM (FMO_rate S x1 x3).2 := by
  rw [FMO_rate_e]
  split
  · exact wfM_I hw
  by_cases c : FMO_isIn (sI S 49 4 0) x3 1 100 = 0
  · rw [if_pos c]; exact wfM_I hw
  rw [if_neg c]
  refine wfM_W (wfM_W (wfM_I hw) (fun h => absurd h (by decide)) (fun h => absurd h (by decide)) (fun h => absurd h (by decide)) (fun h => absurd h (by decide)) (by decide)) (fun h => absurd h (by decide)) (fun h => absurd h (by decide)) (fun h => absurd h (by decide)) (fun _ => ?_) (by decide)
  rw [FMO_isIn_e] at c
  have h1 : (1 : Int64).toInt = 1 := by decide
  have h100 : (100 : Int64).toInt = 100 := by decide
  split at c
  · exact absurd rfl c
  split at c
  · exact absurd rfl c
  · simp only [Int64.lt_iff_toInt_lt, h1, h100] at *
    omega
-- copies
theorem sI_off' {S : hS} {k j : Nat} {x : Int32} {a : Nat} (h : a ≠ k) : (sI S k j x).1 a = S.1 a ∧ (sI S k j x).2 a = S.2 a := ⟨(sI_off h).1.symm, (sI_off h).2.symm⟩
theorem wfC_eqs {S S' : hS} (h2 : S'.1 2 0 = S.1 2 0) (h10 : S'.1 10 0 = S.1 10 0) (h18 : S'.1 10 8 = S.1 10 8) (h20 : S'.1 20 0 = S.1 20 0) (h14 : S'.1 1 4 = S.1 1 4) (h13 : ∀ k, k < 40 → S'.1 13 k = S.1 13 k) (h114 : ∀ k, k < 40 → S'.1 14 k = S.1 14 k) (h17 : S'.2 1 7 = S.2 1 7) (hw : wfC S) : wfC S' := by
  obtain ⟨w0, w1, w2, w3, w4, w5, w6, w7⟩ := hw
  exact ⟨by rw [h2]; exact w0, by rw [h10]; exact w1, by rw [h18]; exact w2, by rw [h20]; exact w3, by rw [h14]; exact w4, fun k hk => by rw [h13 k hk]; exact w5 k hk, fun k hk => by rw [h114 k hk]; exact w6 k hk, by rw [h17]; exact w7⟩
theorem wfM_pt {S S' : hS} (h : ∀ j, j < 1220 → S'.2 50 j = S.2 50 j) (hw : wfM S) : wfM S' := by
  obtain ⟨w0, w1, w2, w3, w4, w5, w6, w7⟩ := hw
  exact ⟨by rw [h 0 (by omega)]; exact w0, by rw [h 1 (by omega)]; exact w1, by rw [h 3 (by omega)]; exact w2, by rw [h 4 (by omega)]; exact w3, fun k hk => by rw [h _ (by omega)]; exact w4 k hk, fun k hk => by rw [h _ (by omega)]; exact w5 k hk, by rw [h 6 (by omega)]; exact w6, fun k hk hz => by rw [h _ (by omega)]; rw [h 1 (by omega)] at hz; exact w7 k hk hz⟩
theorem n1220 {i : Nat} (h : i < 1220) : ¬ (1220 : Int32) ≤ nI i := by
  rw [Int32.le_iff_toInt_le, nI_toInt (by omega), show (1220 : Int32).toInt = 1220 by decide]
  omega
theorem bat16 : ∀ (n : Nat) (S : hS) (i : Nat), i ≤ 1220 → 1220 - i < n → ∀ j, (LMO_batch_16 n S (nI i)).2.2 51 j = if i ≤ j ∧ j < 1220 then S.2 50 j else S.2 51 j
  | 0, S, i, _, hn, _ => absurd hn (Nat.not_lt_zero _)
  | n + 1, S, i, hi, hn, j => by
    rw [LMO_batch_16_s]
    by_cases c : i = 1220
    · subst c
      rw [if_pos (by decide), if_neg (by omega)]
    · have e1 : ∀ v, (sL S 51 i v).2 50 j = S.2 50 j := fun v => by rw [sL_2, if_neg (by omega)]
      have e2 : ∀ v, (sL S 51 i v).2 51 j = if j = i then v else S.2 51 j := fun v => by
        rw [sL_2]
        by_cases d : j = i
        · rw [if_pos ⟨rfl, d⟩, if_pos d]
        · rw [if_neg (fun z => d z.2), if_neg d]
      rw [if_neg (n1220 (by omega)), nI_1, bat16 n _ (i + 1) (by omega) (by omega) j, nI_clamp (by omega), e1, e2]
      by_cases d : j = i
      · subst d
        rw [if_neg (by omega), if_pos rfl, if_pos (by omega)]
      · rw [if_neg d]
        by_cases f : i + 1 ≤ j ∧ j < 1220
        · rw [if_pos f, if_pos (by omega)]
        · rw [if_neg f, if_neg (by omega)]
theorem end21 : ∀ (n : Nat) (S : hS) (i : Nat), i ≤ 1220 → 1220 - i < n → ∀ j, (LMO_endBatch_21 n S 0 (nI i)).2.2 50 j = if i ≤ j ∧ j < 1220 then S.2 51 j else S.2 50 j
  | 0, S, i, _, hn, _ => absurd hn (Nat.not_lt_zero _)
  | n + 1, S, i, hi, hn, j => by
    rw [LMO_endBatch_21_s]
    by_cases c : i = 1220
    · subst c
      rw [if_pos (by decide), if_neg (by omega)]
    · have e1 : ∀ v, (sL S 50 i v).2 51 j = S.2 51 j := fun v => by rw [sL_2, if_neg (by omega)]
      have e2 : ∀ v, (sL S 50 i v).2 50 j = if j = i then v else S.2 50 j := fun v => by
        rw [sL_2]
        by_cases d : j = i
        · rw [if_pos ⟨rfl, d⟩, if_pos d]
        · rw [if_neg (fun z => d z.2), if_neg d]
      rw [if_neg (n1220 (by omega)), if_pos rfl, nI_1, end21 n _ (i + 1) (by omega) (by omega) j, nI_clamp (by omega), e1, e2]
      by_cases d : j = i
      · subst d
        rw [if_neg (by omega), if_pos rfl, if_pos (by omega)]
      · rw [if_neg d]
        by_cases f : i + 1 ≤ j ∧ j < 1220
        · rw [if_pos f, if_pos (by omega)]
        · rw [if_neg f, if_neg (by omega)]
theorem end21_k {n : Nat} {S : hS} {x1 : Int32} (h : ¬ x1 = 0) (i : Int32) : (LMO_endBatch_21 (n + 1) S x1 i).2 = S := by
  rw [LMO_endBatch_21_s, if_neg h]
  split <;> rfl

