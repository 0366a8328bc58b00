def Rb (S : hS) : Prop := S.1 0 2 = S.1 49 2 ∧ S.1 0 3 = S.1 49 3
def Jv (_ : Nat) (S : hS) : Prop := I0 S ∧ Rb S
theorem Jv_0 : Jv 0 S0 := ⟨⟨S0_wC, S0_wK, S0_wM, fun h => absurd rfl h⟩, rfl, rfl⟩
theorem Rb_step {ks ks' : List Nat} {S S1 S2 : hS} (hR : Rb S) (h1 : Same ks S S1) (d1 : 0 ∉ ks ∧ 49 ∉ ks) (h2 : Same ks' S1 S2) (d2 : 0 ∉ ks') (hq : Sm S1 S2) : Rb S2 := by
  have e0 := ((h2 0 d2).1.trans (h1 0 d1.1).1)
  have e1 := (h1 49 d1.2).1
  exact ⟨by rw [congrFun e0 2, hq.1, congrFun e1 2]; exact hR.1, by rw [congrFun e0 3, hq.2, congrFun e1 3]; exact hR.2⟩
theorem fr_la (S : hS) (x1 : Int32) : Same [12, 17, 52] S (FLA_close S x1).2 := by
  unfold FLA_close
  split
  · exact Same.l ((fr_FHL_close S x1).mo (by decide)) (by decide)
  · exact Same.rf
theorem q_batch {S : hS} (hR : Rb S) : (FHL_batch S).1 = (FMO_batch (FHL_batch S).2).1 ∧ Rb (FMO_batch (FHL_batch S).2).2 := by
  have h49 := (fr_FHL_batch S 49 (by decide)).1
  by_cases c : S.1 0 2 = 0
  · have a1 : (FHL_batch S).1 = S.1 0 3 + 1 - 1 ∧ (FHL_batch S).2.1 0 2 = 1 ∧ (FHL_batch S).2.1 0 3 = S.1 0 3 + 1 := by
      have k := congrFun (fr_FBO_copyFrom_25_1 S 0 (by decide)).1 3
      rw [FHL_batch_e, if_pos c]
      refine ⟨?_, ?_, ?_⟩
      · show (FBO_copyFrom_25_1 S).1 0 3 + 1 - 1 = _
        rw [k]
      · show (sI (sI (FBO_copyFrom_25_1 S) 0 2 1) 0 3 _).1 0 2 = 1
        rw [sI_1, if_neg (by omega), sI_1, if_pos ⟨rfl, rfl⟩]
      · show (sI (sI (FBO_copyFrom_25_1 S) 0 2 1) 0 3 _).1 0 3 = _
        rw [sI_1, if_pos ⟨rfl, rfl⟩, k]
    obtain ⟨a1, a2, a3⟩ := a1
    rw [a1]
    generalize (FHL_batch S).2 = S1 at h49 a2 a3 ⊢
    have c1 : S1.1 49 2 = 0 := by rw [h49, ← hR.1]; exact c
    have k0 := (fr_LMO_batch_16 1300 (sI S1 49 4 0) 0 0 (by decide)).1
    have k9 : (LMO_batch_16 1300 (sI S1 49 4 0) 0).2.1 49 3 = S.1 0 3 := by
      rw [congrFun (bat9 1300 (sI S1 49 4 0) 0) 3, sI_1, if_neg (by omega), h49, hR.2]
    rw [FMO_batch_e, if_pos c1]
    generalize LMO_batch_16 1300 (sI S1 49 4 0) 0 = q at k0 k9 ⊢
    dsimp only
    refine ⟨by rw [k9], ?_, ?_⟩
    · rw [sI_1, if_neg (by omega), sI_1, if_neg (by omega), congrFun k0 2, sI_1, if_neg (by omega), a2, sI_1, if_neg (by omega), sI_1, if_pos ⟨rfl, rfl⟩]
    · rw [sI_1, if_neg (by omega), sI_1, if_neg (by omega), congrFun k0 3, sI_1, if_neg (by omega), a3, sI_1, if_pos ⟨rfl, rfl⟩, k9]
  · have e : FHL_batch S = (-1, S) := by rw [FHL_batch_e, if_neg c]
    rw [e]
    dsimp only
    rw [FMO_batch_e, if_neg (by rw [← hR.1]; exact c)]
    exact ⟨rfl, by rw [sI_1, if_neg (by omega), sI_1, if_neg (by omega)]; exact hR.1, by rw [sI_1, if_neg (by omega), sI_1, if_neg (by omega)]; exact hR.2⟩
theorem q_endBatch {S : hS} (hR : Rb S) (x1 : Int32) : (FHL_endBatch S x1).1 = (FMO_endBatch (FHL_endBatch S x1).2 x1).1 ∧ Rb (FMO_endBatch (FHL_endBatch S x1).2 x1).2 := by
  have h49 := (fr_FHL_endBatch S x1 49 (by decide)).1
  by_cases c : S.1 0 2 = 0
  · have e : FHL_endBatch S x1 = (0, S) := by rw [FHL_endBatch_e, if_pos c]
    rw [e]
    dsimp only
    rw [FMO_endBatch_e, if_pos (by rw [← hR.1]; exact c)]
    exact ⟨rfl, by rw [sI_1, if_neg (by omega), sI_1, if_neg (by omega)]; exact hR.1, by rw [sI_1, if_neg (by omega), sI_1, if_neg (by omega)]; exact hR.2⟩
  · have a : (FHL_endBatch S x1).1 = 1 ∧ (FHL_endBatch S x1).2.1 0 2 = 0 ∧ (FHL_endBatch S x1).2.1 0 3 = S.1 0 3 := by
      rw [FHL_endBatch_e, if_neg c]
      split
      · refine ⟨rfl, ?_, ?_⟩
        · show (sI (FBO_copyFrom_1_25 S) 0 2 0).1 0 2 = 0
          rw [sI_1, if_pos ⟨rfl, rfl⟩]
        · show (sI (FBO_copyFrom_1_25 S) 0 2 0).1 0 3 = _
          rw [sI_1, if_neg (by omega), congrFun (fr_FBO_copyFrom_1_25 S 0 (by decide)).1 3]
      · refine ⟨rfl, ?_, ?_⟩
        · show (sI S 0 2 0).1 0 2 = 0
          rw [sI_1, if_pos ⟨rfl, rfl⟩]
        · show (sI S 0 2 0).1 0 3 = _
          rw [sI_1, if_neg (by omega)]
    obtain ⟨a1, a2, a3⟩ := a
    rw [a1]
    generalize (FHL_endBatch S x1).2 = S1 at h49 a2 a3 ⊢
    have c1 : ¬ S1.1 49 2 = 0 := by rw [h49, ← hR.1]; exact c
    have k0 := (fr_LMO_endBatch_21 1300 (sI (sI S1 49 4 0) 49 2 0) x1 0 0 (by decide)).1
    have k9 := end9 1300 (sI (sI S1 49 4 0) 49 2 0) x1 0
    rw [FMO_endBatch_e, if_neg c1]
    generalize LMO_endBatch_21 1300 (sI (sI S1 49 4 0) 49 2 0) x1 0 = q at k0 k9 ⊢
    dsimp only
    refine ⟨rfl, ?_, ?_⟩
    · rw [congrFun k0 2, congrFun k9 2, sI_1, if_neg (by omega), sI_1, if_neg (by omega), a2, sI_1, if_pos ⟨rfl, rfl⟩]
    · rw [congrFun k0 3, congrFun k9 3, sI_1, if_neg (by omega), sI_1, if_neg (by omega), a3, sI_1, if_neg (by omega), sI_1, if_neg (by omega), h49]
      exact hR.2

