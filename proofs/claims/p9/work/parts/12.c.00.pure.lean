def Rb (S : hS) : Prop := S.1 0 2 = S.1 49 2 ∧ S.1 0 3 = S.1 49 3
theorem Rb_step {ks ks' : List Nat} {S S1 S2 : hS} (hR : Rb S) (h1 : Same ks S S1) (d1 : 0 ∉ ks ∧ 49 ∉ ks) (h2 : Same ks' S1 S2) (d2 : 0 ∉ ks') (hq : Sm S1 S2) : Rb S2 := by
  have e0 := ((h2 0 d2).1.trans (h1 0 d1.1).1)
  have e1 := (h1 49 d1.2).1
  exact ⟨by rw [congrFun e0 2, hq.1, congrFun e1 2]; exact hR.1, by rw [congrFun e0 3, hq.2, congrFun e1 3]; exact hR.2⟩
theorem fr_la (S : hS) (x1 : Int32) : Same [12, 17, 52] S (FLA_close S x1).2 := by
  unfold FLA_close
  split
  · exact Same.l ((fr_FHL_close S x1).mo (by decide)) (by decide)
  · exact Same.rf
theorem q_batch {S : hS} (hR : Rb S) : (FHL_batch S).1 = (FMO_batch (FHL_batch S).2).1 ∧ Rb (FMO_batch (FHL_batch S).2).2 := by
  have h49 := (fr_FHL_batch S 49 (by decide)).1
  by_cases c : S.1 0 2 = 0
  · have a1 : (FHL_batch S).1 = S.1 0 3 + 1 - 1 ∧ (FHL_batch S).2.1 0 2 = 1 ∧ (FHL_batch S).2.1 0 3 = S.1 0 3 + 1 := by
      have k := congrFun (fr_FBO_copyFrom_25_1 S 0 (by decide)).1 3
      rw [FHL_batch_e, if_pos c]
      refine ⟨?_, ?_, ?_⟩
      · show (FBO_copyFrom_25_1 S).1 0 3 + 1 - 1 = _
        rw [k]
      · show (sI (sI (FBO_copyFrom_25_1 S) 0 2 1) 0 3 _).1 0 2 = 1
        rw [sI_1, if_neg (by omega), sI_1, if_pos ⟨rfl, rfl⟩]
      · show (sI (sI (FBO_copyFrom_25_1 S) 0 2 1) 0 3 _).1 0 3 = _
        rw [sI_1, if_pos ⟨rfl, rfl⟩, k]
    obtain ⟨a1, a2, a3⟩ := a1
    rw [a1]
    generalize (FHL_batch S).2 = S1 at h49 a2 a3 ⊢
    have c1 : S1.1 49 2 = 0 := by rw [h49, ← hR.1]; exact c
    have k0 := (fr_LMO_batch_16 1300 (sI S1 49 4 0) 0 0 (by decide)).1
    have k9 : (LMO_batch_16 1300 (sI S1 49 4 0) 0).2.1 49 3 = S.1 0 3 := by
      rw [congrFun (bat9 1300 (sI S1 49 4 0) 0) 3, sI_1, if_neg (by omega), h49, hR.2]
    rw [FMO_batch_e, if_pos c1]
    generalize LMO_batch_16 1300 (sI S1 49 4 0) 0 = q at k0 k9 ⊢
    dsimp only
    refine ⟨by rw [k9], ?_, ?_⟩
    · rw [sI_1, if_neg (by omega), sI_1, if_neg (by omega), congrFun k0 2, sI_1, if_neg (by omega), a2, sI_1, if_neg (by omega), sI_1, if_pos ⟨rfl, rfl⟩]
    · rw [sI_1, if_neg (by omega), sI_1, if_neg (by omega), congrFun k0 3, sI_1, if_neg (by omega), a3, sI_1, if_pos ⟨rfl, rfl⟩, k9]
  · have e : FHL_batch S = (-1, S) := by rw [FHL_batch_e, if_neg c]
    rw [e]
    dsimp only
    rw [FMO_batch_e, if_neg (by rw [← hR.1]; exact c)]
    exact ⟨rfl, by rw [sI_1, if_neg (by omega), sI_1, if_neg (by omega)]; exact hR.1, by rw [sI_1, if_neg (by omega), sI_1, if_neg (by omega)]; exact hR.2⟩
theorem q_endBatch {S : hS} (hR : Rb S) (x1 : Int32) : (FHL_endBatch S x1).1 = (FMO_endBatch (FHL_endBatch S x1).2 x1).1 ∧ Rb (FMO_endBatch (FHL_endBatch S x1).2 x1).2 := by
  have h49 := (fr_FHL_endBatch S x1 49 (by decide)).1
  by_cases c : S.1 0 2 = 0
  · have e : FHL_endBatch S x1 = (0, S) := by rw [FHL_endBatch_e, if_pos c]
    rw [e]
    dsimp only
    rw [FMO_endBatch_e, if_pos (by rw [← hR.1]; exact c)]
    exact ⟨rfl, by rw [sI_1, if_neg (by omega), sI_1, if_neg (by omega)]; exact hR.1, by rw [sI_1, if_neg (by omega), sI_1, if_neg (by omega)]; exact hR.2⟩
  · have a : (FHL_endBatch S x1).1 = 1 ∧ (FHL_endBatch S x1).2.1 0 2 = 0 ∧ (FHL_endBatch S x1).2.1 0 3 = S.1 0 3 := by
      rw [FHL_endBatch_e, if_neg c]
      split
      · refine ⟨rfl, ?_, ?_⟩
        · show (sI (FBO_copyFrom_1_25 S) 0 2 0).1 0 2 = 0
          rw [sI_1, if_pos ⟨rfl, rfl⟩]
        · show (sI (FBO_copyFrom_1_25 S) 0 2 0).1 0 3 = _
          rw [sI_1, if_neg (by omega), congrFun (fr_FBO_copyFrom_1_25 S 0 (by decide)).1 3]
      · refine ⟨rfl, ?_, ?_⟩
        · show (sI S 0 2 0).1 0 2 = 0
          rw [sI_1, if_pos ⟨rfl, rfl⟩]
        · show (sI S 0 2 0).1 0 3 = _
          rw [sI_1, if_neg (by omega)]
    obtain ⟨a1, a2, a3⟩ := a
    rw [a1]
    generalize (FHL_endBatch S x1).2 = S1 at h49 a2 a3 ⊢
    have c1 : ¬ S1.1 49 2 = 0 := by rw [h49, ← hR.1]; exact c
    have k0 := (fr_LMO_endBatch_21 1300 (sI (sI S1 49 4 0) 49 2 0) x1 0 0 (by decide)).1
    have k9 := end9 1300 (sI (sI S1 49 4 0) 49 2 0) x1 0
    rw [FMO_endBatch_e, if_neg c1]
    generalize LMO_endBatch_21 1300 (sI (sI S1 49 4 0) 49 2 0) x1 0 = q at k0 k9 ⊢
    dsimp only
    refine ⟨rfl, ?_, ?_⟩
    · rw [congrFun k0 2, congrFun k9 2, sI_1, if_neg (by omega), sI_1, if_neg (by omega), a2, sI_1, if_pos ⟨rfl, rfl⟩]
    · rw [congrFun k0 3, congrFun k9 3, sI_1, if_neg (by omega), sI_1, if_neg (by omega), a3, sI_1, if_neg (by omega), sI_1, if_neg (by omega), h49]
      exact hR.2
/-! class and reference: accounts and their kinds, moves, closed months -/
def Ra (C : Nat → Nat → Int32) (M : Nat → Int64) : Prop :=
  (C 2 0).toInt = (M 0).toInt ∧ ((C 1 5).toInt = (M 2).toInt ∧ 0 ≤ (C 1 5).toInt ∧ (C 1 5).toInt ≤ 120) ∧
  (∀ k : Nat, k < 8 → (k : Int) < (C 2 0).toInt → (C 3 k).toInt = (M (10 + k)).toInt) ∧
  (∀ k : Nat, k < 8 → (k : Int) < (C 2 0).toInt → ((M (70 + k)).toInt = (C 9 k).toInt + 1 ∧ -1 ≤ (C 9 k).toInt ∧ (C 9 k).toInt ≤ 3599) ∧ ((M (80 + k)).toInt = (C 8 k).toInt + 1 ∧ -1 ≤ (C 8 k).toInt ∧ (C 8 k).toInt ≤ 3599)) ∧
  (∀ k : Nat, k < 8 → (C 2 0).toInt ≤ (k : Int) → M (70 + k) = 0 ∧ M (80 + k) = 0)
def Pm (j : Nat) : Prop := j = 0 ∨ j = 2 ∨ (10 ≤ j ∧ j < 18) ∨ (70 ≤ j ∧ j < 88)
theorem Ra_of {C C' : Nat → Nat → Int32} {M M' : Nat → Int64} (h2 : C' 2 0 = C 2 0) (h15 : C' 1 5 = C 1 5) (h3 : ∀ k, k < 8 → C' 3 k = C 3 k) (h8 : ∀ k, k < 8 → C' 8 k = C 8 k) (h9 : ∀ k, k < 8 → C' 9 k = C 9 k) (hM : ∀ j, Pm j → M' j = M j) (h : Ra C M) : Ra C' M' := by
  obtain ⟨a, b, c, d, e⟩ := h
  refine ⟨by rw [h2, hM 0 (Or.inl rfl)]; exact a, by rw [h15, hM 2 (Or.inr (Or.inl rfl))]; exact b, fun k hk hc => ?_, fun k hk hc => ?_, fun k hk hc => ?_⟩
  · rw [h2] at hc
    rw [h3 k hk, hM _ (Or.inr (Or.inr (Or.inl (by omega))))]
    exact c k hk hc
  · rw [h2] at hc
    rw [h8 k hk, h9 k hk, hM (70 + k) (Or.inr (Or.inr (Or.inr (by omega)))), hM (80 + k) (Or.inr (Or.inr (Or.inr (by omega))))]
    exact d k hk hc
  · rw [h2] at hc
    rw [hM (70 + k) (Or.inr (Or.inr (Or.inr (by omega)))), hM (80 + k) (Or.inr (Or.inr (Or.inr (by omega))))]
    exact e k hk hc
def Rl (S : hS) : Prop := Rb S ∧ Ra S.1 (S.2 50) ∧ (¬ S.1 49 2 = 0 → Ra (kp S).1 (S.2 51))
/-- the class's accounts and closed months are as they were -/
def Cs (S S' : hS) : Prop := S'.1 2 = S.1 2 ∧ S'.1 3 = S.1 3 ∧ S'.1 8 = S.1 8 ∧ S'.1 9 = S.1 9 ∧ S'.1 1 5 = S.1 1 5
theorem Cs_of {ks : List Nat} {S S' : hS} (h : Same ks S S') (hd : 1 ∉ ks ∧ 2 ∉ ks ∧ 3 ∉ ks ∧ 8 ∉ ks ∧ 9 ∉ ks) : Cs S S' := ⟨(h 2 hd.2.1).1, (h 3 hd.2.2.1).1, (h 8 hd.2.2.2.1).1, (h 9 hd.2.2.2.2).1, congrFun (h 1 hd.1).1 5⟩
theorem Cs_rate (S : hS) (x1 x3 : Int64) : Cs S (FHL_rate S x1 x3).2 := by
  have h := fr_FHL_rate S x1 x3
  refine ⟨(h 2 (by decide)).1, (h 3 (by decide)).1, (h 8 (by decide)).1, (h 9 (by decide)).1, ?_⟩
  rw [FHL_rate_e]
  repeat' split
  all_goals rfl
theorem Cs_payment (S : hS) (x1 : Int32) (x2 x4 : Int64) : Cs S (FHL_payment S x1 x2 x4).2 := by
  have h := fr_FHL_payment S x1 x2 x4
  refine ⟨(h 2 (by decide)).1, (h 3 (by decide)).1, (h 8 (by decide)).1, (h 9 (by decide)).1, ?_⟩
  rw [FHL_payment_e]
  by_cases c1 : x2 < 1
  · rw [if_pos c1]
  rw [if_neg c1]
  by_cases c2 : 100000000 < x2
  · rw [if_pos c2]
  rw [if_neg c2]
  by_cases c3 : FBO_isUnclosedDay S x4 = 0
  · rw [if_pos c3]
  rw [if_neg c3]
  by_cases c4 : FAC_firstCash S = -1
  · rw [if_pos c4]
  rw [if_neg c4]
  by_cases c5 : FJO_isFull S = 0
  · rw [if_pos c5]
    by_cases c6 : FAC_hasHousehold S x1 = 0
    · rw [if_pos c6]
      dsimp only
      rw [FBO_keepFound_e]
      split
      · rfl
      · rw [sI_1, if_neg (by omega)]
        rfl
    · rw [if_neg c6]
      dsimp only
      rw [congrFun (fr_FJO_payItems _ _ _ _ 1 (by decide)).1 5, congrFun (fr_FJO_addRow _ _ _ _ 1 (by decide)).1 5, congrFun (fr_FJO_addRow _ _ _ _ 1 (by decide)).1 5, congrFun (fr_FJO_add _ _ _ 1 (by decide)).1 5]
  · rw [if_neg c5]
/-- the reference's accounts, moves, closed months are as they were -/
def Ms (S S' : hS) : Prop := ∀ j, Pm j → S'.2 50 j = S.2 50 j
theorem Ms.rf {S : hS} : Ms S S := fun _ _ => rfl
theorem Ms.tr {S S' S'' : hS} (h : Ms S S') (h' : Ms S' S'') : Ms S S'' := fun j hj => (h' j hj).trans (h j hj)
theorem Ms_of {ks : List Nat} {S S' : hS} (h : Same ks S S') (hd : 50 ∉ ks) : Ms S S' := fun j _ => congrFun (h 50 hd).2 j
theorem Ms.i {S S' : hS} {k j : Nat} {x : Int32} (h : Ms S S') : Ms S (sI S' k j x) := h
theorem Ms.l {S S' : hS} {j : Nat} {v : Int64} (h : Ms S S') (hj : 90 ≤ j ∨ (20 ≤ j ∧ j < 70) ∨ (j ≠ 0 ∧ j ≠ 2 ∧ j < 10)) : Ms S (sL S' 50 j v) := fun i hi => by
  unfold Pm at hi
  rw [sL_2, if_neg (by omega)]
  exact h i hi
theorem hi_at {c w : Int32} {p : Int} (hc : c.toInt = p) (h0 : 0 ≤ w.toInt) (h1 : w.toInt ≤ 1000) (hp : 90 ≤ p) (hp2 : p ≤ 2000) : 90 ≤ (c + w).toNatClampNeg := by
  have e : (c + w).toInt = p + w.toInt := ti_add hc rfl (by omega) (by omega)
  have e2 : (c + w).toNatClampNeg = (c + w).toInt.toNat := rfl
  omega
theorem Ms_hi {S S' : hS} {c w : Int32} {v : Int64} (p : Int) (h : Ms S S') (hc : c.toInt = p) (h0 : 0 ≤ w.toInt) (h1 : w.toInt ≤ 1000) (hp : 90 ≤ p ∧ p ≤ 2000) : Ms S (sL S' 50 (c + w).toNatClampNeg v) := h.l (Or.inl (hi_at hc h0 h1 hp.1 hp.2))
theorem Ms_lo {S S' : hS} {c w : Int32} {v : Int64} (p : Int) (h : Ms S S') (hc : c.toInt = p) (h0 : rg w 8) (hp : 20 ≤ p ∧ p ≤ 60) : Ms S (sL S' 50 (c + w).toNatClampNeg v) := h.l (Or.inr (Or.inl (by
  unfold rg at h0
  rw [offI hc h0.1 (by omega) (by omega) (by omega)]
  omega)))
theorem Ms_addEntry {S : hS} (hw : wfM S) (x1 : Int64) (x3 : Int32) : Ms S (FMO_addEntry S x1 x3).2 := by
  rw [FMO_addEntry_e]
  have hb := hw.2.1
  have e32 := t32 hb.1 hb.2 (by omega)
  exact ((Ms_hi 180 (Ms_hi 100 Ms.rf (by decide) (by rw [e32]; omega) (by rw [e32]; omega) (by omega)) (by decide) (by rw [e32]; omega) (by rw [e32]; omega) (by omega)).l (Or.inr (Or.inr (by omega))))
theorem Ms_addRow {S : hS} (hw : wfM S) (x1 x2 : Int32) (x3 : Int64) (hx : rg x1 40) : Ms S (FMO_addRow S x1 x2 x3) := by
  rw [FMO_addRow_e]
  have r := wfM_r hw hx
  have t : ((S.2 50 (260 + x1).toNatClampNeg).toInt32).toInt = (S.2 50 (260 + x1).toNatClampNeg).toInt := ti_32 rfl (by omega) (by omega)
  unfold rg at hx
  have t6 : ((6 * x1) + ((S.2 50 ((260 + x1).toNatClampNeg)).toInt32)).toInt = 6 * x1.toInt + (S.2 50 (260 + x1).toNatClampNeg).toInt := ti_add (ti_mul tl_6 rfl (by omega) (by omega)) t (by omega) (by omega)
  exact Ms_hi 260 (Ms_hi 540 (Ms_hi 300 Ms.rf (by decide) (by omega) (by omega) (by omega)) (by decide) (by omega) (by omega) (by omega)) (by decide) hx.1 (by omega) (by omega)
theorem Ms_entry {S : hS} (hw : wfM S) (x1 : Int64) : Ms S (FMO_entry S x1).2 := by
  rw [FMO_entry_e]
  repeat' split
  all_goals dsimp only
  all_goals first | with_reducible exact Ms.rf.i | exact Ms.tr (S' := sI S 49 4 0) Ms.rf (Ms_addEntry (wfM_I hw) _ _)
theorem Ms_row {S : hS} (hw : wfM S) (x1 x2 : Int32) (x3 : Int64) : Ms S (FMO_row S x1 x2 x3).2 := by
  rw [FMO_row_e]
  by_cases c1 : FMO_isEntry (sI S 49 4 0) x1 = 0
  · rw [if_pos c1]; exact Ms.rf.i
  rw [if_neg c1]
  repeat' split
  all_goals dsimp only
  all_goals first | with_reducible exact Ms.rf.i | exact Ms.tr (S' := sI S 49 4 0) Ms.rf (Ms_addRow (wfM_I hw) _ _ _ (enM (wfM_I hw) c1))
theorem Ms_close120 : ∀ (n : Nat) (S : hS) (x1 : Int32) (x2 : Int64) (x4 : Int32), wfM S ∧ bt x4 6 ∧ rg x1 40 → Ms S (LMO_close_120 n S x1 x2 x4).2
  | 0, S, x1, x2, x4, hJ => Ms.rf
  | n + 1, S, x1, x2, x4, hJ => by
    rw [LMO_close_120_s]
    by_cases c : (S.2 50 ((260 + x1).toNatClampNeg)) ≤ x4.toInt64
    · rw [if_pos c]; exact Ms.rf
    · rw [if_neg c]
      have h2 := hJ.2.1
      have h3 := hJ.2.2
      unfold bt at h2
      unfold rg at h3
      have t6 : ((6 * x1) + x4).toInt = 6 * x1.toInt + x4.toInt := ti_add (ti_mul tl_6 rfl (by omega) (by omega)) rfl (by omega) (by omega)
      by_cases d : (FMO_isItem S x1 x4) = 0
      · rw [if_pos d]; exact Ms.tr (Ms_hi 780 Ms.rf (by decide) (by omega) (by omega) (by omega)) (Ms_close120 n _ _ _ _ (vc_FMO_close_inv120_23 S x1 x2 x4 hJ c d))
      · rw [if_neg d]; exact Ms.tr (Ms_hi 780 Ms.rf (by decide) (by omega) (by omega) (by omega)) (Ms_close120 n _ _ _ _ (vc_FMO_close_inv120_27 S x1 x2 x4 hJ c d))
theorem Ms_close {S : hS} (hw : wfM S) (x1 : Int32) : Ms S (FMO_close S x1).2 := by
  rw [FMO_close_e]
  by_cases c2 : FMO_isEntry (sI S 49 4 0) x1 = 0
  · rw [if_pos c2]; exact Ms.rf.i
  rw [if_neg c2]
  by_cases c4 : 0 < S.2 50 ((140 + x1).toNatClampNeg)
  · rw [if_pos c4]; exact Ms.rf.i
  rw [if_neg c4]
  by_cases c7 : FMO_isLate (sI S 49 4 0) (S.2 50 ((100 + x1).toNatClampNeg)) = 0
  · rw [if_pos c7]
    dsimp only
    by_cases c16 : (LMO_close_51 300 (sI S 49 4 0) x1 0 0).1 = 0
    · rw [if_pos c16]
      have hx := enM (wfM_I hw) c2
      unfold rg at hx
      have h9 := Ms_close120 300 _ x1 (LMO_close_51 300 (sI S 49 4 0) x1 0 0).1 0 (vc_FMO_close_inv0120_30 S x1 hw c2 c4 c7 (LMO_close_51 300 (sI S 49 4 0) x1 0 0).1 (LMO_close_51 300 (sI S 49 4 0) x1 0 0).2 rfl c16)
      generalize LMO_close_120 300 _ _ _ _ = q at h9 ⊢
      exact Ms.tr (Ms_hi 140 Ms.rf (by decide) hx.1 (by omega) (by omega)) h9
    · rw [if_neg c16]; exact Ms.rf.i
  · rw [if_neg c7]; exact Ms.rf.i
theorem Ms_pay185 : ∀ (n : Nat) (S : hS) (x1 : Int32) (x2 x4 : Int64) (x6 x7 : Int32) (x8 : Int64) (x10 : Int32), wfM S ∧ bt x10 241 ∧ rg x7 40 → Ms S (LMO_payment_185 n S x1 x2 x4 x6 x7 x8 x10).2.2
  | 0, S, x1, x2, x4, x6, x7, x8, x10, hJ => Ms.rf
  | n + 1, S, x1, x2, x4, x6, x7, x8, x10, hJ => by
    rw [LMO_payment_185_s]
    by_cases c : (FMO_itemAt S x1 x10) < 0
    · rw [if_pos c]; exact Ms.rf
    rw [if_neg c]
    have r := (itM hJ.1 c).1
    have h7 := hJ.2.2
    unfold rg at r h7
    have q60 : ((FMO_itemAt S x1 x10) / 60).toInt = (FMO_itemAt S x1 x10).toInt / 60 := ti_div rfl (by decide) r.1 (by omega)
    have t4 : (1020 + (4 * x7)).toInt = 1020 + 4 * x7.toInt := ti_add (by decide) (ti_mul (by decide) rfl (by omega) (by omega)) (by omega) (by omega)
    have i1 : 90 ≤ (780 + (FMO_itemAt S x1 x10)).toNatClampNeg := hi_at (p := 780) (by decide) r.1 (by omega) (by omega) (by omega)
    have i2 : 90 ≤ ((1020 + (4 * x7)) + ((FMO_itemAt S x1 x10) / 60)).toNatClampNeg := hi_at t4 (by omega) (by omega) (by omega) (by omega)
    by_cases d : (S.2 50 ((780 + (FMO_itemAt S x1 x10)).toNatClampNeg)) ≤ x8
    · rw [if_pos d]
      by_cases f : (S.2 50 ((780 + (FMO_itemAt S x1 x10)).toNatClampNeg)) ≤ 0
      · rw [if_pos f]; exact Ms_pay185 n _ _ _ _ _ _ _ _ (vc_FMO_payment_inv185_32 S x1 x2 x4 x6 x7 x8 x10 hJ c d f)
      · rw [if_neg f]; exact Ms.tr ((Ms.rf.l (Or.inl i1)).l (Or.inl i2)) (Ms_pay185 n _ _ _ _ _ _ _ _ (vc_FMO_payment_inv185_38 S x1 x2 x4 x6 x7 x8 x10 hJ c d f))
    · rw [if_neg d]
      by_cases f : x8 ≤ 0
      · rw [if_pos f]; exact Ms_pay185 n _ _ _ _ _ _ _ _ (vc_FMO_payment_inv185_41 S x1 x2 x4 x6 x7 x8 x10 hJ c d f)
      · rw [if_neg f]; exact Ms.tr ((Ms.rf.l (Or.inl i1)).l (Or.inl i2)) (Ms_pay185 n _ _ _ _ _ _ _ _ (vc_FMO_payment_inv185_47 S x1 x2 x4 x6 x7 x8 x10 hJ c d f))
theorem Ms_payment {S : hS} (hw : wfM S) (x1 : Int32) (x2 x4 : Int64) : Ms S (FMO_payment S x1 x2 x4).2 := by
  rw [FMO_payment_e]
  generalize hy : LMO_payment_8 300 (sI S 49 4 0) x1 x2 x4 0 = y
  have hE := Ms_addEntry (S := sI S 49 4 0) (wfM_I hw) x4 1
  generalize hq : FMO_addEntry (sI S 49 4 0) x4 1 = q at hE ⊢
  obtain ⟨v, S1⟩ := q
  dsimp only at hE ⊢
  by_cases c10 : FMO_isIn (sI S 49 4 0) x2 1 100000000 = 0
  · rw [if_pos c10]; exact Ms.rf.i
  rw [if_neg c10]
  by_cases c11 : FMO_isDay (sI S 49 4 0) x4 = 0
  · rw [if_pos c11]; exact Ms.rf.i
  rw [if_neg c11]
  by_cases c13 : FMO_isLate (sI S 49 4 0) x4 = 0
  · rw [if_pos c13]
    by_cases c15 : FMO_isAccount (sI S 49 4 0) y = 0
    · rw [if_pos c15]; exact Ms.rf.i
    rw [if_neg c15]
    by_cases c17 : S.2 50 1 = 40
    · rw [if_pos c17]; exact Ms.rf.i
    rw [if_neg c17]
    by_cases c19 : FMO_isHousehold (sI S 49 4 0) x1 = 0
    · rw [if_pos c19]
      split
      · exact Ms.rf.i
      · have hb := hw.2.2.2.1
        have e32 := t32 hb.1 hb.2 (by omega)
        exact (Ms_hi 1200 Ms.rf.i (by decide) (by rw [e32]; omega) (by rw [e32]; omega) (by omega)).l (Or.inr (Or.inr (by omega)))
    · rw [if_neg c19]
      have hJ := vc_FMO_payment_inv0185_50 S x1 x2 x4 hw y hy c10 c11 c13 c15 c17 c19 v S1 hq
      have h9 := Ms_pay185 300 _ x1 x2 x4 y v x2 0 hJ
      dsimp only
      have e40 : (40 : Int64).toInt = 40 := by decide
      have hlt := ne_lt c17 (by rw [e40]; exact hw.2.1.2)
      rw [e40] at hlt
      have hp := payM (wfM_I hw) hlt hq (c := x2) (acM (wfM_I hw) c15) (hhM (wfM_I hw) c19)
      have hv := hJ.2.2
      have a1 := Ms_addRow hp.1.1 v y x2 hv
      have a2 := Ms_addRow hp.2.1.1 v x1 (-x2) hv
      unfold rg at hv
      exact Ms.tr (Ms.tr (Ms.tr (Ms.tr (S' := sI S 49 4 0) Ms.rf hE) a1) (Ms_hi 140 a2 (by decide) hv.1 (by omega) (by omega))) h9
  · rw [if_neg c13]; exact Ms.rf.i
theorem Ms_dun {S : hS} (hw : wfM S) (x1 : Int32) (x2 : Int64) : Ms S (FMO_dun S x1 x2).2 := by
  rw [FMO_dun_e]
  by_cases c : FMO_isHousehold (sI S 49 4 0) x1 = 0
  · rw [if_pos c]; exact Ms.rf.i
  rw [if_neg c]
  have r := hhM (wfM_I hw) c
  repeat' split
  all_goals dsimp only
  all_goals first | with_reducible exact Ms.rf.i | with_reducible exact Ms_lo 20 Ms.rf.i (by decide) r (by omega) | with_reducible exact Ms_lo 30 (Ms_lo 20 Ms.rf.i (by decide) r (by omega)) (by decide) r (by omega)
theorem Ms_hardship {S : hS} (hw : wfM S) (x1 : Int32) (x2 x4 : Int64) : Ms S (FMO_hardship S x1 x2 x4).2 := by
  rw [FMO_hardship_e]
  by_cases c : FMO_isHousehold (sI S 49 4 0) x1 = 0
  · rw [if_pos c]; exact Ms.rf.i
  rw [if_neg c]
  have r := hhM (wfM_I hw) c
  split
  · exact Ms_lo 60 (Ms_lo 50 (Ms_lo 40 Ms.rf.i (by decide) r (by omega)) (by decide) r (by omega)) (by decide) r (by omega)
  · exact Ms.rf.i
theorem Ms_instal {S : hS} (hw : wfM S) (x1 x2 : Int32) : Ms S (FMO_instal S x1 x2).2 := by
  rw [FMO_instal_e]
  have hb := hw.2.2.1
  have e32 := t32 hb.1 hb.2 (by omega)
  repeat' split
  all_goals dsimp only
  all_goals first | with_reducible exact Ms.rf.i | exact (Ms_hi 1190 (Ms_hi 1180 Ms.rf.i (by decide) (by rw [e32]; omega) (by rw [e32]; omega) (by omega)) (by decide) (by rw [e32]; omega) (by rw [e32]; omega) (by omega)).l (Or.inr (Or.inr (by omega)))
theorem Ms_rev99 : ∀ (n : Nat) (S : hS) (x1 : Int32) (x2 : Int64) (x4 x5 : Int32), wfM S ∧ bt x5 6 ∧ rg x1 40 ∧ rg x4 40 ∧ ¬ x1 = x4 ∧ (S.2 50 (260 + x4).toNatClampNeg).toInt = x5.toInt ∧ x4.toInt < (S.2 50 1).toInt → Ms S (LMO_reverse_99 n S x1 x2 x4 x5).2
  | 0, S, x1, x2, x4, x5, hJ => Ms.rf
  | n + 1, S, x1, x2, x4, x5, hJ => by
    rw [LMO_reverse_99_s]
    by_cases c : (S.2 50 ((260 + x1).toNatClampNeg)) ≤ x5.toInt64
    · rw [if_pos c]; exact Ms.rf
    · rw [if_neg c]
      have a := Ms_addRow hJ.1 x4 ((S.2 50 (((300 + (6 * x1)) + x5).toNatClampNeg)).toInt32) (-(S.2 50 (((540 + (6 * x1)) + x5).toNatClampNeg))) hJ.2.2.2.1
      have h2 := hJ.2.1
      have h3 := hJ.2.2.1
      unfold bt at h2
      unfold rg at h3
      have t7 : (780 + (6 * x1)).toInt = 780 + 6 * x1.toInt := ti_add (by decide) (ti_mul tl_6 rfl (by omega) (by omega)) (by omega) (by omega)
      exact Ms.tr (Ms_hi _ a t7 h2.1 (by omega) (by omega)) (Ms_rev99 n _ _ _ _ _ (vc_FMO_reverse_inv99_22 S x1 x2 x4 x5 hJ c))
theorem Ms_reverse {S : hS} (hw : wfM S) (x1 : Int32) (x2 : Int64) : Ms S (FMO_reverse S x1 x2).2 := by
  rw [FMO_reverse_e]
  have hE := Ms_addEntry (S := sI S 49 4 0) (wfM_I hw) x2 2
  by_cases a1 : FMO_isEntry (sI S 49 4 0) x1 = 0
  · rw [if_pos a1]; exact Ms.rf.i
  rw [if_neg a1]
  by_cases a2 : S.2 50 ((140 + x1).toNatClampNeg) = 0
  · rw [if_pos a2]; exact Ms.rf.i
  rw [if_neg a2]
  by_cases a3 : 0 < S.2 50 ((220 + x1).toNatClampNeg)
  · rw [if_pos a3]; exact Ms.rf.i
  rw [if_neg a3]
  by_cases a4 : 0 < S.2 50 ((180 + x1).toNatClampNeg)
  · rw [if_pos a4]; exact Ms.rf.i
  rw [if_neg a4]
  by_cases a5 : FMO_isPaid (sI S 49 4 0) x1 = 0
  · rw [if_pos a5]
    by_cases a6 : FMO_isDay (sI S 49 4 0) x2 = 0
    · rw [if_pos a6]; exact Ms.rf.i
    rw [if_neg a6]
    by_cases a7 : S.2 50 1 = 40
    · rw [if_pos a7]; exact Ms.rf.i
    rw [if_neg a7]
    have hJ := vc_FMO_reverse_inv099_25 S x1 x2 hw a1 a2 a3 a4 a5 a6 a7 (FMO_addEntry (sI S 49 4 0) x2 2).1 (FMO_addEntry (sI S 49 4 0) x2 2).2 rfl
    generalize FMO_addEntry (sI S 49 4 0) x2 2 = q at hE hJ ⊢
    obtain ⟨v, S1⟩ := q
    dsimp only at hE hJ ⊢
    have h9 := Ms_rev99 300 S1 x1 x2 v 0 hJ
    generalize LMO_reverse_99 300 S1 x1 x2 v 0 = q at h9 ⊢
    have hv := hJ.2.2.2.1
    have hx := hJ.2.2.1
    unfold rg at hv hx
    try dsimp only
    exact Ms_hi 220 (Ms_hi 140 (Ms.tr (Ms.tr (S' := sI S 49 4 0) Ms.rf hE) h9) (by decide) hv.1 (by omega) (by omega)) (by decide) hx.1 (by omega) (by omega)
  · rw [if_neg a5]; exact Ms.rf.i
theorem Ms_rate {S : hS} (x1 x3 : Int64) : Ms S (FMO_rate S x1 x3).2 := by
  rw [FMO_rate_e]
  repeat' split
  all_goals dsimp only
  all_goals first | with_reducible exact Ms.rf.i | exact ((Ms.rf.i).l (Or.inr (Or.inr (by omega)))).l (Or.inr (Or.inr (by omega)))
/-- a call that leaves all this as it was -/
theorem Rl_other {ks ks' : List Nat} {S S1 S2 : hS} (hR : Rl S) (h1 : Same ks S S1) (hC : Cs S S1) (d1 : 0 ∉ ks ∧ 49 ∉ ks ∧ 50 ∉ ks ∧ 51 ∉ ks ∧ 25 ∉ ks ∧ 26 ∉ ks ∧ 27 ∉ ks ∧ 32 ∉ ks ∧ 33 ∉ ks) (h2 : Same ks' S1 S2) (d2 : 0 ∉ ks' ∧ 51 ∉ ks' ∧ 25 ∉ ks' ∧ 26 ∉ ks' ∧ 27 ∉ ks' ∧ 32 ∉ ks' ∧ 33 ∉ ks' ∧ 1 ∉ ks' ∧ 2 ∉ ks' ∧ 3 ∉ ks' ∧ 8 ∉ ks' ∧ 9 ∉ ks') (hq : Sm S1 S2) (hM : Ms S1 S2) : Rl S2 := by
  obtain ⟨e0, e51, e25, e26, e27, e32, e33, e1, e2, e3, e8, e9⟩ := d2
  obtain ⟨f0, f49, f50, f51, f25, f26, f27, f32, f33⟩ := d1
  have c2 : S2.1 2 = S.1 2 := (h2 2 e2).1.trans hC.1
  have c3 : S2.1 3 = S.1 3 := (h2 3 e3).1.trans hC.2.1
  have c8 : S2.1 8 = S.1 8 := (h2 8 e8).1.trans hC.2.2.1
  have c9 : S2.1 9 = S.1 9 := (h2 9 e9).1.trans hC.2.2.2.1
  have c1 : S2.1 1 5 = S.1 1 5 := (congrFun (h2 1 e1).1 5).trans hC.2.2.2.2
  have k : ∀ a, a ∉ ks → a ∉ ks' → S2.1 a = S.1 a := fun a x y => (h2 a y).1.trans (h1 a x).1
  refine ⟨Rb_step hR.1 h1 ⟨f0, f49⟩ h2 e0 hq, Ra_of (by rw [c2]) c1 (fun j _ => by rw [c3]) (fun j _ => by rw [c8]) (fun j _ => by rw [c9]) (fun j hj => (hM j hj).trans (congrFun (h1 50 f50).2 j)) hR.2.1, fun h => ?_⟩
  have h0 : ¬ S.1 49 2 = 0 := by rw [hq.1, (h1 49 f49).1] at h; exact h
  exact Ra_of (C := (kp S).1) (C' := (kp S2).1) (congrFun (k 26 f26 e26) 0) (congrFun (k 25 f25 e25) 5) (fun j _ => congrFun (k 27 f27 e27) j) (fun j _ => congrFun (k 32 f32 e32) j) (fun j _ => congrFun (k 33 f33 e33) j) (fun j _ => congrFun ((h2 51 e51).2.trans (h1 51 f51).2) j) (hR.2.2 h0)
theorem Same49 (S : hS) : Same [49] S (sI S 49 4 0) := Same.i Same.rf (by decide)
theorem Rl_fault {S : hS} (hR : Rl S) : Rl (sI S 49 4 0) := Rl_other (ks := []) hR Same.rf ⟨rfl, rfl, rfl, rfl, rfl⟩ (by decide) (Same49 S) (by decide) (Sm.i Sm.rf (Or.inr (by decide))) Ms.rf.i
theorem i32 {a b : Int32} (h : a.toInt = b.toInt) : a = b := Int32.toInt_inj.mp h
theorem le_64 {c x : Int32} {m : Int64} (h : c.toInt = m.toInt) : c ≤ x ↔ m ≤ x.toInt64 := by rw [Int32.le_iff_toInt_le, Int64.le_iff_toInt_le, l32, h]
theorem has_eq {S S' : hS} (hR : Ra S.1 (S.2 50)) (h : S'.2 50 = S.2 50) (x : Int32) : FAC_has S x = FMO_isAccount S' x := by
  rw [FAC_has_e, FMO_isAccount_e, h]
  by_cases c : x < 0
  · rw [if_pos c, if_pos c]
  · rw [if_neg c, if_neg c]
    by_cases d : S.1 2 0 ≤ x
    · rw [if_pos d, if_pos ((le_64 hR.1).mp d)]
    · rw [if_neg d, if_neg (fun z => d ((le_64 hR.1).mpr z))]
theorem has_lt {S : hS} (hw : wfC S) {x : Int32} (h : ¬ FAC_has S x = 0) : x.toNatClampNeg < 8 ∧ ((x.toNatClampNeg : Nat) : Int) < (S.1 2 0).toInt ∧ ((x.toNatClampNeg : Nat) : Int) = x.toInt := by
  have r := haC hw h
  unfold rg at r
  have e := cl_toInt r.1
  rw [FAC_has_e] at h
  split at h
  · exact absurd rfl h
  split at h
  · exact absurd rfl h
  · rename_i c
    rw [Int32.le_iff_toInt_le] at c
    exact ⟨by omega, by omega, e⟩
theorem hh_eq {S S' : hS} (hw : wfC S) (hR : Ra S.1 (S.2 50)) (h : S'.2 50 = S.2 50) (x : Int32) : FAC_hasHousehold S x = FMO_isHousehold S' x := by
  rw [FAC_hasHousehold_e, FMO_isHousehold_e, ← has_eq hR h x]
  by_cases c : FAC_has S x = 0
  · rw [if_pos c, if_pos c]
  · rw [if_neg c, if_neg c]
    obtain ⟨k8, kn, ke⟩ := has_lt hw c
    have e : (10 + x).toNatClampNeg = 10 + x.toNatClampNeg := by
      rw [offI (p := 10) (by decide) (by omega) (by omega) (by omega) (by omega)]
      omega
    have q := hR.2.2.1 _ k8 kn
    rw [h, e]
    have o1 : (1 : Int32).toInt = 1 := by decide
    have o2 : (1 : Int64).toInt = 1 := by decide
    have iff : S.1 3 x.toNatClampNeg = 1 ↔ S.2 50 (10 + x.toNatClampNeg) = 1 := by
      rw [← Int32.toInt_inj, ← Int64.toInt_inj, o1, o2, q]
    by_cases d : S.1 3 x.toNatClampNeg = 1
    · rw [if_pos d, if_pos (iff.mp d)]
    · rw [if_neg d, if_neg (fun z => d (iff.mpr z))]
theorem hh_has {S : hS} {x : Int32} (h : ¬ FAC_hasHousehold S x = 0) : ¬ FAC_has S x = 0 := by
  rw [FAC_hasHousehold_e] at h
  split at h
  · exact absurd rfl h
  · assumption
-- account
theorem Ra_account {C C' : Nat → Nat → Int32} {M M' : Nat → Int64} (h : Ra C M) (m : Nat) (hm : (C 2 0).toInt = (m : Int)) (hm8 : m < 8) (x : Int32) (y : Int64) (hxy : y.toInt = x.toInt) (h2 : (C' 2 0).toInt = (m : Int) + 1) (h15 : C' 1 5 = C 1 5) (h3 : ∀ k, C' 3 k = if k = m then x else C 3 k) (h8 : ∀ k, C' 8 k = if k = m then -1 else C 8 k) (h9 : ∀ k, C' 9 k = if k = m then -1 else C 9 k) (m0 : (M' 0).toInt = (m : Int) + 1) (hM : ∀ j, Pm j → j ≠ 0 → M' j = if j = 10 + m then y else M j) : Ra C' M' := by
  obtain ⟨a, b, c, d, e⟩ := h
  have m1 : (-1 : Int32).toInt = -1 := by decide
  have z0 : (0 : Int64).toInt = 0 := by decide
  have p7 : ∀ k, k < 8 → M' (70 + k) = M (70 + k) := fun k hk => by rw [hM _ (Or.inr (Or.inr (Or.inr (by omega)))) (by omega), if_neg (by omega)]
  have p8 : ∀ k, k < 8 → M' (80 + k) = M (80 + k) := fun k hk => by rw [hM _ (Or.inr (Or.inr (Or.inr (by omega)))) (by omega), if_neg (by omega)]
  refine ⟨by rw [h2, m0], by rw [h15, hM 2 (Or.inr (Or.inl rfl)) (by omega), if_neg (by omega)]; exact b, fun k hk hc => ?_, fun k hk hc => ?_, fun k hk hc => ?_⟩
  · rw [h2] at hc
    rw [h3 k, hM _ (Or.inr (Or.inr (Or.inl (by omega)))) (by omega)]
    by_cases q : k = m
    · rw [if_pos q, if_pos (by omega), hxy]
    · rw [if_neg q, if_neg (by omega)]
      exact c k hk (by omega)
  · rw [h2] at hc
    rw [p7 k hk, p8 k hk, h8 k, h9 k]
    by_cases q : k = m
    · rw [if_pos q, if_pos q]
      obtain ⟨z7, z8⟩ := e k hk (by omega)
      rw [z7, z8, m1, z0]
      omega
    · rw [if_neg q, if_neg q]
      exact d k hk (by omega)
  · rw [h2] at hc
    rw [p7 k hk, p8 k hk]
    exact e k hk (by omega)
theorem q_account {S : hS} (hI : I0 S) (hR : Rl S) (x : Int32) : (FHL_account S x).1 = (FMO_account (FHL_account S x).2 x).1 ∧ Rl (FMO_account (FHL_account S x).2 x).2 := by
  have e8 : (8 : Int32).toInt = 8 := by decide
  have e8' : (8 : Int64).toInt = 8 := by decide
  have hc := hI.1.1
  unfold bt at hc
  have ha := hR.2.1.1
  have none : ∀ S1 : hS, (¬ x < 0 → ¬ x ≤ 2) ∨ S1.2 50 0 = 8 → FMO_account S1 x = (-1, sI S1 49 4 0) := by
    intro S1 h
    rw [FMO_account_e]
    by_cases c : S1.2 50 0 = 8
    · rw [if_pos c]
    rw [if_neg c]
    by_cases d : x < 0
    · rw [if_pos d]
    rw [if_neg d]
    rcases h with h | h
    · rw [if_neg (h d)]
    · exact absurd h c
  by_cases c1 : x < 0
  · have e : FHL_account S x = (-1, S) := by rw [FHL_account_e, if_pos c1]
    rw [e]
    dsimp only
    rw [none S (Or.inl (fun z => absurd c1 z))]
    exact ⟨rfl, Rl_fault hR⟩
  by_cases c2 : x ≤ 2
  · by_cases c3 : S.1 2 0 < 8
    · have hn : (S.1 2 0).toInt < 8 := by rw [Int32.lt_iff_toInt_lt, e8] at c3; exact c3
      have cl := cl_toInt hc.1
      have hd : FHL_account S x = (S.1 2 0, (sI (sI (sI (sL (sL (sI (sI (sI S 3 ((S.1 2 0).toNatClampNeg) x) 4 ((S.1 2 0).toNatClampNeg) 0) 5 ((S.1 2 0).toNatClampNeg) 0) 6 ((S.1 2 0).toNatClampNeg) 0) 7 ((S.1 2 0).toNatClampNeg) (-1)) 8 ((S.1 2 0).toNatClampNeg) (-1)) 9 ((S.1 2 0).toNatClampNeg) (-1)) 2 0 ((S.1 2 0) + 1))) := by
        rw [FHL_account_e, if_neg c1, if_pos c2, FAC_add_e, if_pos c3]
      have h50 : (FHL_account S x).2.2 50 = S.2 50 := (fr_FHL_account S x 50 (by decide)).2
      have hf := fr_FHL_account S x
      have hfm := fr_FMO_account (FHL_account S x).2 x
      have hqm := fq_FMO_account (FHL_account S x).2 x
      have h0 : (FHL_account S x).2.2 50 0 = S.2 50 0 := congrFun h50 0
      have c4 : ¬ S.2 50 0 = 8 := fun z => by rw [z, e8'] at ha; omega
      have hm : FMO_account (FHL_account S x).2 x = ((((sL (sI (FHL_account S x).2 49 4 0) 50 ((10 + ((S.2 50 0).toInt32)).toNatClampNeg) x.toInt64).2 50 0 + 1).toInt32) - 1, (sL (sL (sI (FHL_account S x).2 49 4 0) 50 ((10 + ((S.2 50 0).toInt32)).toNatClampNeg) x.toInt64) 50 0 (((sL (sI (FHL_account S x).2 49 4 0) 50 ((10 + ((S.2 50 0).toInt32)).toNatClampNeg) x.toInt64).2 50 0) + 1))) := by
        rw [FMO_account_e, h0, if_neg c4, if_neg c1, if_pos c2]
      have t32' : (S.2 50 0).toInt32.toInt = (S.2 50 0).toInt := t32 (n := 8) (by omega) (by omega) (by omega)
      have ei : (10 + ((S.2 50 0).toInt32)).toNatClampNeg = 10 + (S.1 2 0).toNatClampNeg := by
        rw [offI (p := 10) (by decide) (by omega) (by omega) (by omega) (by omega)]
        omega
      have em : (sL (sI (FHL_account S x).2 49 4 0) 50 ((10 + ((S.2 50 0).toInt32)).toNatClampNeg) x.toInt64).2 50 0 = S.2 50 0 := by
        rw [ei, sL_2, if_neg (by omega), sI_2, h0]
      have p1 : (S.2 50 0 + 1).toInt = (S.2 50 0).toInt + 1 := tj_add rfl tq_1 (by omega) (by omega)
      have kRb : Rb (FMO_account (FHL_account S x).2 x).2 := Rb_step hR.1 hf (by decide) hfm (by decide) hqm
      have kk : ¬ (FMO_account (FHL_account S x).2 x).2.1 49 2 = 0 → Ra (kp (FMO_account (FHL_account S x).2 x).2).1 ((FMO_account (FHL_account S x).2 x).2.2 51) := fun h => by
        have h0 : ¬ S.1 49 2 = 0 := by rw [hqm.1, (hf 49 (by decide)).1] at h; exact h
        have k : ∀ a, a ∉ [2, 3, 4, 5, 6, 7, 8, 9] → a ∉ [49, 50] → (FMO_account (FHL_account S x).2 x).2.1 a = S.1 a := fun a u v => (hfm a v).1.trans (hf a u).1
        exact Ra_of (C := (kp S).1) (C' := (kp (FMO_account (FHL_account S x).2 x).2).1) (congrFun (k 26 (by decide) (by decide)) 0) (congrFun (k 25 (by decide) (by decide)) 5) (fun j _ => congrFun (k 27 (by decide) (by decide)) j) (fun j _ => congrFun (k 32 (by decide) (by decide)) j) (fun j _ => congrFun (k 33 (by decide) (by decide)) j) (fun j _ => congrFun ((hfm 51 (by decide)).2.trans (hf 51 (by decide)).2) j) (hR.2.2 h0)
      refine ⟨?_, kRb, ?_, kk⟩
      · rw [hm]
        dsimp only
        rw [em, hd]
        dsimp only
        refine i32 ?_
        rw [ti_sub (ti_32 p1 (by omega) (by omega)) tl_1 (by omega) (by omega)]
        omega
      · rw [hm, em, ei, hd]
        dsimp only
        refine Ra_account hR.2.1 (S.1 2 0).toNatClampNeg (by omega) (by omega) x x.toInt64 (l32 x) ?_ ?_ (fun k => ?_) (fun k => ?_) (fun k => ?_) ?_ (fun j hj h0 => ?_)
        · rw [sL_1, sL_1, sI_1, if_neg (by omega), sI_1, if_pos ⟨rfl, rfl⟩, ti_add rfl tl_1 (by omega) (by omega)]
          omega
        · rfl
        · by_cases q : k = (S.1 2 0).toNatClampNeg
          · rw [if_pos q]; simp [sI_1, sL_1, q]
          · rw [if_neg q]; simp [sI_1, sL_1, q]
        · by_cases q : k = (S.1 2 0).toNatClampNeg
          · rw [if_pos q]; simp [sI_1, sL_1, q]
          · rw [if_neg q]; simp [sI_1, sL_1, q]
        · by_cases q : k = (S.1 2 0).toNatClampNeg
          · rw [if_pos q]; simp [sI_1, sL_1, q]
          · rw [if_neg q]; simp [sI_1, sL_1, q]
        · rw [sL_2, if_pos ⟨rfl, rfl⟩, p1]
          omega
        · rw [sL_2, if_neg (fun z => h0 z.2), sL_2]
          by_cases q : j = 10 + (S.1 2 0).toNatClampNeg
          · rw [if_pos ⟨rfl, q⟩, if_pos q]
          · rw [if_neg (fun z => q z.2), if_neg q]
            simp [sI_2, sL_2]
    · have e : FHL_account S x = (-1, S) := by rw [FHL_account_e, if_neg c1, if_pos c2, FAC_add_e, if_neg c3]
      have c4 : S.2 50 0 = 8 := Int64.toInt_inj.mp (by rw [Int32.lt_iff_toInt_lt, e8] at c3; rw [e8']; omega)
      rw [e]
      dsimp only
      rw [none S (Or.inr c4)]
      exact ⟨rfl, Rl_fault hR⟩
  · have e : FHL_account S x = (-1, S) := by rw [FHL_account_e, if_neg c1, if_neg c2]
    rw [e]
    dsimp only
    rw [none S (Or.inl (fun _ => c2))]
    exact ⟨rfl, Rl_fault hR⟩
-- closeMonth
theorem q_closeMonth {S : hS} (hR : Rl S) (x : Int32) : (FHL_closeMonth S x).1 = (FMO_closeMonth (FHL_closeMonth S x).2 x).1 ∧ Rl (FMO_closeMonth (FHL_closeMonth S x).2 x).2 := by
  have e120 : (120 : Int32).toInt = 120 := by decide
  have e120' : (120 : Int64).toInt = 120 := by decide
  obtain ⟨hb1, hb2, hb3⟩ := hR.2.1.2.1
  have hx : x = S.1 1 5 ↔ x.toInt64 = S.2 50 2 := by rw [← Int32.toInt_inj, ← Int64.toInt_inj, l32, hb1]
  have h50 : (FHL_closeMonth S x).2.2 50 2 = S.2 50 2 := congrFun (fr_FHL_closeMonth S x 50 (by decide)).2 2
  by_cases c1 : x = S.1 1 5
  · by_cases c2 : S.1 1 5 < 120
    · have c3 : ¬ S.2 50 2 = 120 := fun z => by rw [z, e120'] at hb1; rw [Int32.lt_iff_toInt_lt, e120] at c2; omega
      have hd : FHL_closeMonth S x = (1, sI S 1 5 (S.1 1 5 + 1)) := by rw [FHL_closeMonth_e, if_pos c1, if_pos c2]
      rw [hd] at h50 ⊢
      dsimp only at h50 ⊢
      have hm : FMO_closeMonth (sI S 1 5 (S.1 1 5 + 1)) x = (1, sL (sI (sI S 1 5 (S.1 1 5 + 1)) 49 4 0) 50 2 (S.2 50 2 + 1)) := by
        rw [FMO_closeMonth_e, h50, if_pos (hx.mp c1), if_neg c3]
      rw [hm]
      refine ⟨rfl, ⟨hR.1.1, hR.1.2⟩, ?_, fun h => ?_⟩
      · obtain ⟨a, b, c, d, e⟩ := hR.2.1
        rw [Int32.lt_iff_toInt_lt, e120] at c2
        refine ⟨?_, ⟨?_, ?_, ?_⟩, fun k hk hc => ?_, fun k hk hc => ?_, fun k hk hc => ?_⟩
        · simpa [sI_1, sL_1, sL_2, sI_2] using a
        · simp only [sI_1, sL_1, sL_2, and_self, if_true]
          rw [if_neg (by omega), ti_add rfl tl_1 (by omega) (by omega), tj_add rfl tq_1 (by omega) (by omega), b.1]
        · simp only [sI_1, sL_1, and_self, if_true]
          simp [ti_add rfl tl_1 (by omega) (by omega : (S.1 1 5).toInt + 1 ≤ 2147483647)]
          omega
        · simp only [sI_1, sL_1, and_self, if_true]
          simp [ti_add rfl tl_1 (by omega) (by omega : (S.1 1 5).toInt + 1 ≤ 2147483647)]
          omega
        · have hc' : (k : Int) < (S.1 2 0).toInt := by simpa [sI_1, sL_1] using hc
          have g := c k hk hc'
          have n1 : ¬ (10 + k = 2) := by omega
          simpa [sI_1, sL_1, sL_2, sI_2, n1] using g
        · have hc' : (k : Int) < (S.1 2 0).toInt := by simpa [sI_1, sL_1] using hc
          have g := d k hk hc'
          have n1 : ¬ (70 + k = 2) := by omega
          have n2 : ¬ (80 + k = 2) := by omega
          simpa [sI_1, sL_1, sL_2, sI_2, n1, n2] using g
        · have hc' : (S.1 2 0).toInt ≤ (k : Int) := by simpa [sI_1, sL_1] using hc
          have g := e k hk hc'
          have n1 : ¬ (70 + k = 2) := by omega
          have n2 : ¬ (80 + k = 2) := by omega
          simpa [sI_1, sL_1, sL_2, sI_2, n1, n2] using g
      · have h0 : ¬ S.1 49 2 = 0 := h
        exact hR.2.2 h0
    · have c3 : S.2 50 2 = 120 := Int64.toInt_inj.mp (by rw [Int32.lt_iff_toInt_lt, e120] at c2; rw [e120']; omega)
      have hd : FHL_closeMonth S x = (0, S) := by rw [FHL_closeMonth_e, if_pos c1, if_neg c2]
      rw [hd]
      dsimp only
      have hm : FMO_closeMonth S x = (0, sI S 49 4 0) := by rw [FMO_closeMonth_e, if_pos (hx.mp c1), if_pos c3]
      rw [hm]
      exact ⟨rfl, Rl_fault hR⟩
  · have hd : FHL_closeMonth S x = (0, S) := by rw [FHL_closeMonth_e, if_neg c1]
    rw [hd]
    dsimp only
    have hm : FMO_closeMonth S x = (0, sI S 49 4 0) := by rw [FMO_closeMonth_e, if_neg (fun z => c1 (hx.mpr z))]
    rw [hm]
    exact ⟨rfl, Rl_fault hR⟩
theorem isDay_eq (S S' : hS) (d : Int64) : FHL_isDay S d = FMO_isDay S' d := by
  rw [FHL_isDay_e, FMO_isDay_e, FMO_isIn_e]
  by_cases c : d < 0
  · rw [if_pos c, if_pos c]
  · rw [if_neg c, if_neg c]
    have e : (3600 ≤ d) ↔ (3599 < d) := by
      rw [Int64.le_iff_toInt_le, Int64.lt_iff_toInt_lt, show (3600 : Int64).toInt = 3600 by decide, show (3599 : Int64).toInt = 3599 by decide]
      omega
    by_cases c2 : 3600 ≤ d
    · rw [if_pos c2, if_pos (e.mp c2)]
    · rw [if_neg c2, if_neg (fun z => c2 (e.mpr z))]
theorem isDay_r {S : hS} {d : Int64} (h : ¬ FHL_isDay S d = 0) : 0 ≤ d.toInt ∧ d.toInt ≤ 3599 := by
  rw [FHL_isDay_e] at h
  split at h
  · exact absurd rfl h
  split at h
  · exact absurd rfl h
  · rename_i a b
    rw [Int64.lt_iff_toInt_lt, show (0 : Int64).toInt = 0 by decide] at a
    rw [Int64.le_iff_toInt_le, show (3600 : Int64).toInt = 3600 by decide] at b
    omega
-- hardship
theorem q_hardship {S : hS} (hI : I0 S) (hR : Rl S) (x1 : Int32) (x2 x4 : Int64) : (FHL_hardship S x1 x2 x4).1 = (FMO_hardship (FHL_hardship S x1 x2 x4).2 x1 x2 x4).1 := by
  have h50 : (FHL_hardship S x1 x2 x4).2.2 50 = S.2 50 := (fr_FHL_hardship S x1 x2 x4 50 (by decide)).2
  generalize (FHL_hardship S x1 x2 x4).2 = S1 at h50 ⊢
  rw [FMO_hardship_e, ← hh_eq (S' := sI S1 49 4 0) hI.1 hR.2.1 h50 x1, FHL_hardship_e]
  by_cases c : FAC_hasHousehold S x1 = 0
  · rw [if_pos c, if_pos c]
  · rw [if_neg c, if_neg c]
    by_cases d : x2 ≤ x4
    · rw [if_pos d, if_pos d]
    · rw [if_neg d, if_neg d]
-- move
theorem mv_eq {S S' : hS} (hw : wfC S) (hR : Ra S.1 (S.2 50)) (h : S'.2 50 = S.2 50) {x : Int32} (hh : ¬ FAC_has S x = 0) : FAC_hasMoved S x = FMO_hasMoved S' x := by
  obtain ⟨k8, kn, ke⟩ := has_lt hw hh
  obtain ⟨⟨p1, p2, p3⟩, q1, q2, q3⟩ := hR.2.2.2.1 _ k8 kn
  have e7 : (70 + x).toNatClampNeg = 70 + x.toNatClampNeg := by
    rw [offI (p := 70) (by decide) (by omega) (by omega) (by omega) (by omega)]
    omega
  have e8 : (80 + x).toNatClampNeg = 80 + x.toNatClampNeg := by
    rw [offI (p := 80) (by decide) (by omega) (by omega) (by omega) (by omega)]
    omega
  have m1 : (-1 : Int32).toInt = -1 := by decide
  have z0 : (0 : Int64).toInt = 0 := by decide
  rw [FAC_hasMoved_e, FMO_hasMoved_e, h, e7, e8]
  have a9 : S.1 9 x.toNatClampNeg = -1 ↔ ¬ 0 < S.2 50 (70 + x.toNatClampNeg) := by
    rw [← Int32.toInt_inj, Int64.lt_iff_toInt_lt, m1, z0, p1]
    omega
  have a8 : S.1 8 x.toNatClampNeg = -1 ↔ S.2 50 (80 + x.toNatClampNeg) ≤ 0 := by
    rw [← Int32.toInt_inj, Int64.le_iff_toInt_le, m1, z0, q1]
    omega
  by_cases c8 : S.1 8 x.toNatClampNeg = -1
  · rw [if_pos c8]
    by_cases c9 : S.1 9 x.toNatClampNeg = -1
    · rw [if_pos c9, if_neg (a9.mp c9), if_pos (a8.mp c8)]
    · have c9' : 0 < S.2 50 (70 + x.toNatClampNeg) := Classical.not_not.mp (fun z => c9 (a9.mpr z))
      rw [if_neg c9, if_pos c9']
  · rw [if_neg c8]
    by_cases c9 : 0 < S.2 50 (70 + x.toNatClampNeg)
    · rw [if_pos c9]
    · rw [if_neg c9, if_neg (fun z => c8 (a8.mpr z))]
theorem Ra_move {C C' : Nat → Nat → Int32} {M M' : Nat → Int64} (h : Ra C M) {k1 k2 : Nat} (h1 : k1 < 8 ∧ (k1 : Int) < (C 2 0).toInt) (h2 : k2 < 8 ∧ (k2 : Int) < (C 2 0).toInt) (v : Int32) (w : Int64) (hv : -1 ≤ v.toInt ∧ v.toInt ≤ 3599) (hwv : w.toInt = v.toInt + 1) (e2 : C' 2 0 = C 2 0) (e15 : C' 1 5 = C 1 5) (e3 : ∀ k, C' 3 k = C 3 k) (e9 : ∀ k, C' 9 k = if k = k1 then v else C 9 k) (e8 : ∀ k, C' 8 k = if k = k2 then v else C 8 k) (hM : ∀ j, Pm j → M' j = if j = 80 + k2 then w else if j = 70 + k1 then w else M j) : Ra C' M' := by
  obtain ⟨a, b, c, d, e⟩ := h
  have p7 : ∀ k, k < 8 → M' (70 + k) = if k = k1 then w else M (70 + k) := fun k hk => by
    rw [hM _ (Or.inr (Or.inr (Or.inr (by omega)))), if_neg (by omega)]
    by_cases q : k = k1
    · rw [if_pos (by omega), if_pos q]
    · rw [if_neg (by omega), if_neg q]
  have p8 : ∀ k, k < 8 → M' (80 + k) = if k = k2 then w else M (80 + k) := fun k hk => by
    rw [hM _ (Or.inr (Or.inr (Or.inr (by omega))))]
    by_cases q : k = k2
    · rw [if_pos (by omega), if_pos q]
    · rw [if_neg (by omega), if_neg (by omega), if_neg q]
  refine ⟨by rw [e2, hM 0 (Or.inl rfl), if_neg (by omega), if_neg (by omega)]; exact a, by rw [e15, hM 2 (Or.inr (Or.inl rfl)), if_neg (by omega), if_neg (by omega)]; exact b, fun k hk hc => ?_, fun k hk hc => ?_, fun k hk hc => ?_⟩
  · rw [e2] at hc
    rw [e3, hM _ (Or.inr (Or.inr (Or.inl (by omega)))), if_neg (by omega), if_neg (by omega)]
    exact c k hk hc
  · rw [e2] at hc
    obtain ⟨d1, d2⟩ := d k hk hc
    rw [p7 k hk, p8 k hk, e9, e8]
    refine ⟨?_, ?_⟩
    · by_cases q : k = k1
      · rw [if_pos q, if_pos q]; exact ⟨hwv, hv⟩
      · rw [if_neg q, if_neg q]; exact d1
    · by_cases q : k = k2
      · rw [if_pos q, if_pos q]; exact ⟨hwv, hv⟩
      · rw [if_neg q, if_neg q]; exact d2
  · rw [e2] at hc
    rw [p7 k hk, p8 k hk, if_neg (by omega), if_neg (by omega)]
    exact e k hk hc
theorem q_move {S : hS} (hI : I0 S) (hR : Rl S) (x1 x2 : Int32) (x3 : Int64) : (FHL_move S x1 x2 x3).1 = (FMO_move (FHL_move S x1 x2 x3).2 x1 x2 x3).1 ∧ Rl (FMO_move (FHL_move S x1 x2 x3).2 x1 x2 x3).2 := by
  have hE : ∀ S1 : hS, S1.2 50 = S.2 50 → FMO_isHousehold (sI S1 49 4 0) x1 = FAC_hasHousehold S x1 ∧ FMO_isHousehold (sI S1 49 4 0) x2 = FAC_hasHousehold S x2 ∧ FMO_isDay (sI S1 49 4 0) x3 = FHL_isDay S x3 := fun S1 h => ⟨(hh_eq (S' := sI S1 49 4 0) hI.1 hR.2.1 h x1).symm, (hh_eq (S' := sI S1 49 4 0) hI.1 hR.2.1 h x2).symm, (isDay_eq S _ x3).symm⟩
  obtain ⟨b1, b2, b3⟩ := hE S rfl
  by_cases c1 : FAC_hasHousehold S x1 = 0
  · have e : FHL_move S x1 x2 x3 = (0, S) := by rw [FHL_move_e, if_pos c1]
    have f : FMO_move S x1 x2 x3 = (0, sI S 49 4 0) := by rw [FMO_move_e, b1, if_pos c1]
    rw [e]; dsimp only; rw [f]; exact ⟨rfl, Rl_fault hR⟩
  by_cases c2 : FAC_hasHousehold S x2 = 0
  · have e : FHL_move S x1 x2 x3 = (0, S) := by rw [FHL_move_e, if_neg c1, if_pos c2]
    have f : FMO_move S x1 x2 x3 = (0, sI S 49 4 0) := by rw [FMO_move_e, b1, if_neg c1, b2, if_pos c2]
    rw [e]; dsimp only; rw [f]; exact ⟨rfl, Rl_fault hR⟩
  by_cases c3 : x1 = x2
  · have e : FHL_move S x1 x2 x3 = (0, S) := by rw [FHL_move_e, if_neg c1, if_neg c2, if_pos c3]
    have f : FMO_move S x1 x2 x3 = (0, sI S 49 4 0) := by rw [FMO_move_e, b1, if_neg c1, b2, if_neg c2, if_pos c3]
    rw [e]; dsimp only; rw [f]; exact ⟨rfl, Rl_fault hR⟩
  by_cases c4 : FHL_isDay S x3 = 0
  · have e : FHL_move S x1 x2 x3 = (0, S) := by rw [FHL_move_e, if_neg c1, if_neg c2, if_neg c3, if_pos c4]
    have f : FMO_move S x1 x2 x3 = (0, sI S 49 4 0) := by rw [FMO_move_e, b1, if_neg c1, b2, if_neg c2, if_neg c3, b3, if_pos c4]
    rw [e]; dsimp only; rw [f]; exact ⟨rfl, Rl_fault hR⟩
  have g1 := mv_eq (S' := sI S 49 4 0) hI.1 hR.2.1 rfl (hh_has c1)
  have g2 := mv_eq (S' := sI S 49 4 0) hI.1 hR.2.1 rfl (hh_has c2)
  by_cases c5 : FAC_hasMoved S x1 = 0
  · by_cases c6 : FAC_hasMoved S x2 = 0
    · obtain ⟨k8, kn, ke⟩ := has_lt hI.1 (hh_has c1)
      obtain ⟨l8, ln, le⟩ := has_lt hI.1 (hh_has c2)
      have dr := isDay_r c4
      have hd : FHL_move S x1 x2 x3 = (1, sI (sI S 9 x1.toNatClampNeg x3.toInt32) 8 x2.toNatClampNeg x3.toInt32) := by rw [FHL_move_e, if_neg c1, if_neg c2, if_neg c3, if_neg c4, if_pos c5, if_pos c6]
      obtain ⟨d1, d2, d3⟩ := hE (sI (sI S 9 x1.toNatClampNeg x3.toInt32) 8 x2.toNatClampNeg x3.toInt32) rfl
      have m1 := mv_eq (S' := sI (sI (sI S 9 x1.toNatClampNeg x3.toInt32) 8 x2.toNatClampNeg x3.toInt32) 49 4 0) hI.1 hR.2.1 rfl (hh_has c1)
      have m2 := mv_eq (S' := sI (sI (sI S 9 x1.toNatClampNeg x3.toInt32) 8 x2.toNatClampNeg x3.toInt32) 49 4 0) hI.1 hR.2.1 rfl (hh_has c2)
      have e7 : (70 + x1).toNatClampNeg = 70 + x1.toNatClampNeg := by
        rw [offI (p := 70) (by decide) (by omega) (by omega) (by omega) (by omega)]
        omega
      have e8 : (80 + x2).toNatClampNeg = 80 + x2.toNatClampNeg := by
        rw [offI (p := 80) (by decide) (by omega) (by omega) (by omega) (by omega)]
        omega
      rw [hd]
      dsimp only
      have hm : FMO_move (sI (sI S 9 x1.toNatClampNeg x3.toInt32) 8 x2.toNatClampNeg x3.toInt32) x1 x2 x3 = (1, sL (sL (sI (sI (sI S 9 x1.toNatClampNeg x3.toInt32) 8 x2.toNatClampNeg x3.toInt32) 49 4 0) 50 (70 + x1.toNatClampNeg) (x3 + 1)) 50 (80 + x2.toNatClampNeg) (x3 + 1)) := by
        rw [FMO_move_e, d1, if_neg c1, d2, if_neg c2, if_neg c3, d3, if_neg c4, ← m1, if_pos c5, ← m2, if_pos c6, e7, e8]
      rw [hm]
      refine ⟨rfl, ⟨hR.1.1, hR.1.2⟩, ?_, fun h => ?_⟩
      · refine Ra_move hR.2.1 (k1 := x1.toNatClampNeg) (k2 := x2.toNatClampNeg) ⟨k8, kn⟩ ⟨l8, ln⟩ x3.toInt32 (x3 + 1) ?_ ?_ rfl rfl (fun k => rfl) (fun k => ?_) (fun k => ?_) (fun j hj => ?_)
        · rw [ti_32 rfl (by omega) (by omega)]; omega
        · rw [ti_32 rfl (by omega) (by omega), tj_add rfl tq_1 (by omega) (by omega)]
        · by_cases q : k = x1.toNatClampNeg
          · rw [if_pos q]; simp [sI_1, sL_1, q]
          · rw [if_neg q]; simp [sI_1, sL_1, q]
        · by_cases q : k = x2.toNatClampNeg
          · rw [if_pos q]; simp [sI_1, sL_1, q]
          · rw [if_neg q]; simp [sI_1, sL_1, q]
        · rw [sL_2, sL_2]
          by_cases q : j = 80 + x2.toNatClampNeg
          · rw [if_pos ⟨rfl, q⟩, if_pos q]
          · rw [if_neg (fun z => q z.2), if_neg q]
            by_cases r : j = 70 + x1.toNatClampNeg
            · rw [if_pos ⟨rfl, r⟩, if_pos r]
            · rw [if_neg (fun z => r z.2), if_neg r]
              rfl
      · have h0 : ¬ S.1 49 2 = 0 := h
        exact hR.2.2 h0
    · have e : FHL_move S x1 x2 x3 = (0, S) := by rw [FHL_move_e, if_neg c1, if_neg c2, if_neg c3, if_neg c4, if_pos c5, if_neg c6]
      have f : FMO_move S x1 x2 x3 = (0, sI S 49 4 0) := by rw [FMO_move_e, b1, if_neg c1, b2, if_neg c2, if_neg c3, b3, if_neg c4, ← g1, if_pos c5, ← g2, if_neg c6]
      rw [e]; dsimp only; rw [f]; exact ⟨rfl, Rl_fault hR⟩
  · have e : FHL_move S x1 x2 x3 = (0, S) := by rw [FHL_move_e, if_neg c1, if_neg c2, if_neg c3, if_neg c4, if_neg c5]
    have f : FMO_move S x1 x2 x3 = (0, sI S 49 4 0) := by rw [FMO_move_e, b1, if_neg c1, b2, if_neg c2, if_neg c3, b3, if_neg c4, ← g1, if_neg c5]
    rw [e]; dsimp only; rw [f]; exact ⟨rfl, Rl_fault hR⟩
-- batches
theorem Rl_batch {S : hS} (hR : Rl S) : Rl (FMO_batch (FHL_batch S).2).2 := by
  refine ⟨(q_batch hR.1).2, ?_, ?_⟩
  · have hf := fr_FHL_batch S
    have hm := fr_FMO_batch (FHL_batch S).2
    have k : ∀ a, a ∈ [1, 2, 3, 8, 9] → (FMO_batch (FHL_batch S).2).2.1 a = S.1 a := fun a ha => (hm a (by revert a; decide)).1.trans (hf a (by revert a; decide)).1
    exact Ra_of (congrFun (k 2 (by decide)) 0) (congrFun (k 1 (by decide)) 5) (fun j _ => congrFun (k 3 (by decide)) j) (fun j _ => congrFun (k 8 (by decide)) j) (fun j _ => congrFun (k 9 (by decide)) j) (fun j _ => congrFun ((hm 50 (by decide)).2.trans (hf 50 (by decide)).2) j) hR.2.1
  · by_cases c : S.1 0 2 = 0
    · intro _
      have hm := fr_FMO_batch (FHL_batch S).2
      have k : ∀ a, a ∈ [25, 26, 27, 32, 33] → (FMO_batch (FHL_batch S).2).2.1 a = (FHL_batch S).2.1 a := fun a ha => (hm a (by revert a; decide)).1
      have hd : (FHL_batch S).2 = sI (sI (FBO_copyFrom_25_1 S) 0 2 1) 0 3 ((FBO_copyFrom_25_1 S).1 0 3 + 1) := by rw [FHL_batch_e, if_pos c]
      have k2 : ∀ a, a ∈ [25, 26, 27, 32, 33] → (FMO_batch (FHL_batch S).2).2.1 a = (FBO_copyFrom_25_1 S).1 a := fun a ha => by
        rw [k a ha, hd]
        funext j
        rw [sI_1, if_neg (fun z => by rw [z.1] at ha; revert ha; decide), sI_1, if_neg (fun z => by rw [z.1] at ha; revert ha; decide)]
      have h50 := (fr_FHL_batch S 50 (by decide)).2
      have h49 := congrFun (fr_FHL_batch S 49 (by decide)).1 2
      have e51 : ∀ j, j < 1220 → (FMO_batch (FHL_batch S).2).2.2 51 j = S.2 50 j := by
        intro j hj
        generalize (FHL_batch S).2 = S1 at h50 h49 ⊢
        rw [FMO_batch_e, if_pos (by rw [h49, ← hR.1.1]; exact c)]
        have h := bat16 1300 (sI S1 49 4 0) 0 (by omega) (by omega) j
        rw [nI_0] at h
        rw [if_pos ⟨Nat.zero_le _, hj⟩, sI_2, h50] at h
        generalize LMO_batch_16 1300 (sI S1 49 4 0) 0 = q at h ⊢
        exact h
      refine Ra_of (C := S.1) (M := S.2 50) ?_ ?_ (fun j hj => ?_) (fun j hj => ?_) (fun j hj => ?_) (fun j hj => e51 j (by unfold Pm at hj; omega)) hR.2.1
      · exact (congrFun (k2 26 (by decide)) 0).trans (cB_2_0 S)
      · exact (congrFun (k2 25 (by decide)) 5).trans (cB_1_5 S)
      · exact (congrFun (k2 27 (by decide)) j).trans (cB_3 S hj)
      · exact (congrFun (k2 32 (by decide)) j).trans (cB_8 S hj)
      · exact (congrFun (k2 33 (by decide)) j).trans (cB_9 S hj)
    · have e : FHL_batch S = (-1, S) := by rw [FHL_batch_e, if_neg c]
      rw [e]
      dsimp only
      have f : FMO_batch S = (-1, sI S 49 4 0) := by rw [FMO_batch_e, if_neg (by rw [← hR.1.1]; exact c)]
      rw [f]
      exact (Rl_fault hR).2.2
theorem Rl_endBatch {S : hS} (hR : Rl S) (x1 : Int32) : Rl (FMO_endBatch (FHL_endBatch S x1).2 x1).2 := by
  have hb := (q_endBatch hR.1 x1).2
  have h49 := congrFun (fr_FHL_endBatch S x1 49 (by decide)).1 2
  by_cases c : S.1 0 2 = 0
  · have e : FHL_endBatch S x1 = (0, S) := by rw [FHL_endBatch_e, if_pos c]
    rw [e]
    dsimp only
    have f : FMO_endBatch S x1 = (0, sI S 49 4 0) := by rw [FMO_endBatch_e, if_pos (by rw [← hR.1.1]; exact c)]
    rw [f]
    exact Rl_fault hR
  · have c9 : ¬ (FHL_endBatch S x1).2.1 49 2 = 0 := by rw [h49, ← hR.1.1]; exact c
    have hz : (FMO_endBatch (FHL_endBatch S x1).2 x1).2.1 49 2 = 0 := by
      generalize (FHL_endBatch S x1).2 = S1 at c9 ⊢
      rw [FMO_endBatch_e, if_neg c9]
      have h9 := congrFun (end9 1300 (sI (sI S1 49 4 0) 49 2 0) x1 0) 2
      generalize LMO_endBatch_21 1300 (sI (sI S1 49 4 0) 49 2 0) x1 0 = q at h9 ⊢
      exact h9.trans (by rw [sI_1, if_pos ⟨rfl, rfl⟩])
    refine ⟨hb, ?_, fun h => absurd hz h⟩
    have hm := fr_FMO_endBatch (FHL_endBatch S x1).2 x1
    have k : ∀ a, a ∈ [1, 2, 3, 8, 9] → (FMO_endBatch (FHL_endBatch S x1).2 x1).2.1 a = (FHL_endBatch S x1).2.1 a := fun a ha => (hm a (by revert a; decide)).1
    have h50 := (fr_FHL_endBatch S x1 50 (by decide)).2
    have h51 := (fr_FHL_endBatch S x1 51 (by decide)).2
    by_cases d : x1 = 0
    · have hd : (FHL_endBatch S x1).2 = sI (FBO_copyFrom_1_25 S) 0 2 0 := by rw [FHL_endBatch_e, if_neg c, if_pos d]
      have k2 : ∀ a, a ∈ [1, 2, 3, 8, 9] → (FMO_endBatch (FHL_endBatch S x1).2 x1).2.1 a = (FBO_copyFrom_1_25 S).1 a := fun a ha => by
        rw [k a ha, hd]
        funext j
        rw [sI_1, if_neg (fun z => by rw [z.1] at ha; revert ha; decide)]
      have e50 : ∀ j, j < 1220 → (FMO_endBatch (FHL_endBatch S x1).2 x1).2.2 50 j = S.2 51 j := by
        intro j hj
        generalize (FHL_endBatch S x1).2 = S1 at h51 c9 ⊢
        rw [FMO_endBatch_e, if_neg c9, d]
        have h := end21 1300 (sI (sI S1 49 4 0) 49 2 0) 0 (by omega) (by omega) j
        rw [nI_0] at h
        rw [if_pos ⟨Nat.zero_le _, hj⟩, sI_2, sI_2, h51] at h
        generalize LMO_endBatch_21 1300 (sI (sI S1 49 4 0) 49 2 0) 0 0 = q at h ⊢
        exact h
      refine Ra_of (C := (kp S).1) (M := S.2 51) ?_ ?_ (fun j hj => ?_) (fun j hj => ?_) (fun j hj => ?_) (fun j hj => e50 j (by unfold Pm at hj; omega)) (hR.2.2 (by rw [← hR.1.1]; exact c))
      · exact (congrFun (k2 2 (by decide)) 0).trans (cE_2_0 S)
      · exact (congrFun (k2 1 (by decide)) 5).trans (cE_1_5 S)
      · exact (congrFun (k2 3 (by decide)) j).trans (cE_3 S hj)
      · exact (congrFun (k2 8 (by decide)) j).trans (cE_8 S hj)
      · exact (congrFun (k2 9 (by decide)) j).trans (cE_9 S hj)
    · have hd : (FHL_endBatch S x1).2 = sI S 0 2 0 := by rw [FHL_endBatch_e, if_neg c, if_neg d]
      have k2 : ∀ a, a ∈ [1, 2, 3, 8, 9] → (FMO_endBatch (FHL_endBatch S x1).2 x1).2.1 a = S.1 a := fun a ha => by
        rw [k a ha, hd]
        funext j
        rw [sI_1, if_neg (fun z => by rw [z.1] at ha; revert ha; decide)]
      have e50 : (FMO_endBatch (FHL_endBatch S x1).2 x1).2.2 50 = S.2 50 := by
        generalize (FHL_endBatch S x1).2 = S1 at h50 c9 ⊢
        rw [FMO_endBatch_e, if_neg c9]
        have h := end21_k (n := 1299) (S := sI (sI S1 49 4 0) 49 2 0) d 0
        generalize LMO_endBatch_21 1300 (sI (sI S1 49 4 0) 49 2 0) x1 0 = q at h ⊢
        dsimp only
        rw [h]
        exact h50
      exact Ra_of (congrFun (k2 2 (by decide)) 0) (congrFun (k2 1 (by decide)) 5) (fun j _ => congrFun (k2 3 (by decide)) j) (fun j _ => congrFun (k2 8 (by decide)) j) (fun j _ => congrFun (k2 9 (by decide)) j) (fun j _ => congrFun e50 j) hR.2.1


