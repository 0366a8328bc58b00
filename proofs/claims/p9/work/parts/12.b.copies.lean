theorem cB_1_4 (S : hS) : (FBO_copyFrom_25_1 S).1 25 4 = S.1 1 4 := rfl
theorem cB_1_5 (S : hS) : (FBO_copyFrom_25_1 S).1 25 5 = S.1 1 5 := rfl
theorem cB_1_6 (S : hS) : (FBO_copyFrom_25_1 S).2 25 6 = S.2 1 6 := rfl
theorem cB_1_7 (S : hS) : (FBO_copyFrom_25_1 S).2 25 7 = S.2 1 7 := rfl
theorem cB_2_0 (S : hS) : (FBO_copyFrom_25_1 S).1 26 0 = S.1 2 0 := rfl
theorem cB_3 (S : hS) {j : Nat} (h : j < 8) : (FBO_copyFrom_25_1 S).1 27 j = S.1 3 j := by
  show (if 0 ≤ j ∧ j < 0 + 8 then S.1 3 (0 + (j - 0)) else _) = _
  rw [if_pos ⟨Nat.zero_le _, by omega⟩, Nat.zero_add, Nat.sub_zero]
theorem cB_4 (S : hS) {j : Nat} (h : j < 8) : (FBO_copyFrom_25_1 S).1 28 j = S.1 4 j := by
  show (if 0 ≤ j ∧ j < 0 + 8 then S.1 4 (0 + (j - 0)) else _) = _
  rw [if_pos ⟨Nat.zero_le _, by omega⟩, Nat.zero_add, Nat.sub_zero]
theorem cB_5 (S : hS) {j : Nat} (h : j < 8) : (FBO_copyFrom_25_1 S).1 29 j = S.1 5 j := by
  show (if 0 ≤ j ∧ j < 0 + 8 then S.1 5 (0 + (j - 0)) else _) = _
  rw [if_pos ⟨Nat.zero_le _, by omega⟩, Nat.zero_add, Nat.sub_zero]
theorem cB_6 (S : hS) {j : Nat} (h : j < 8) : (FBO_copyFrom_25_1 S).2 30 j = S.2 6 j := by
  show (if 0 ≤ j ∧ j < 0 + 8 then S.2 6 (0 + (j - 0)) else _) = _
  rw [if_pos ⟨Nat.zero_le _, by omega⟩, Nat.zero_add, Nat.sub_zero]
theorem cB_7 (S : hS) {j : Nat} (h : j < 8) : (FBO_copyFrom_25_1 S).2 31 j = S.2 7 j := by
  show (if 0 ≤ j ∧ j < 0 + 8 then S.2 7 (0 + (j - 0)) else _) = _
  rw [if_pos ⟨Nat.zero_le _, by omega⟩, Nat.zero_add, Nat.sub_zero]
theorem cB_8 (S : hS) {j : Nat} (h : j < 8) : (FBO_copyFrom_25_1 S).1 32 j = S.1 8 j := by
  show (if 0 ≤ j ∧ j < 0 + 8 then S.1 8 (0 + (j - 0)) else _) = _
  rw [if_pos ⟨Nat.zero_le _, by omega⟩, Nat.zero_add, Nat.sub_zero]
theorem cB_9 (S : hS) {j : Nat} (h : j < 8) : (FBO_copyFrom_25_1 S).1 33 j = S.1 9 j := by
  show (if 0 ≤ j ∧ j < 0 + 8 then S.1 9 (0 + (j - 0)) else _) = _
  rw [if_pos ⟨Nat.zero_le _, by omega⟩, Nat.zero_add, Nat.sub_zero]
theorem cB_10_0 (S : hS) : (FBO_copyFrom_25_1 S).1 34 0 = S.1 10 0 := rfl
theorem cB_10_8 (S : hS) : (FBO_copyFrom_25_1 S).1 34 8 = S.1 10 8 := rfl
theorem cB_11 (S : hS) {j : Nat} (h : j < 40) : (FBO_copyFrom_25_1 S).1 35 j = S.1 11 j := by
  show (if 0 ≤ j ∧ j < 0 + 40 then S.1 11 (0 + (j - 0)) else _) = _
  rw [if_pos ⟨Nat.zero_le _, by omega⟩, Nat.zero_add, Nat.sub_zero]
theorem cB_12 (S : hS) {j : Nat} (h : j < 40) : (FBO_copyFrom_25_1 S).1 36 j = S.1 12 j := by
  show (if 0 ≤ j ∧ j < 0 + 40 then S.1 12 (0 + (j - 0)) else _) = _
  rw [if_pos ⟨Nat.zero_le _, by omega⟩, Nat.zero_add, Nat.sub_zero]
theorem cB_13 (S : hS) {j : Nat} (h : j < 40) : (FBO_copyFrom_25_1 S).1 37 j = S.1 13 j := by
  show (if 0 ≤ j ∧ j < 0 + 40 then S.1 13 (0 + (j - 0)) else _) = _
  rw [if_pos ⟨Nat.zero_le _, by omega⟩, Nat.zero_add, Nat.sub_zero]
theorem cB_14 (S : hS) {j : Nat} (h : j < 40) : (FBO_copyFrom_25_1 S).1 38 j = S.1 14 j := by
  show (if 0 ≤ j ∧ j < 0 + 40 then S.1 14 (0 + (j - 0)) else _) = _
  rw [if_pos ⟨Nat.zero_le _, by omega⟩, Nat.zero_add, Nat.sub_zero]
theorem cB_15 (S : hS) {j : Nat} (h : j < 240) : (FBO_copyFrom_25_1 S).1 39 j = S.1 15 j := by
  show (if 0 ≤ j ∧ j < 0 + 240 then S.1 15 (0 + (j - 0)) else _) = _
  rw [if_pos ⟨Nat.zero_le _, by omega⟩, Nat.zero_add, Nat.sub_zero]
theorem cB_16 (S : hS) {j : Nat} (h : j < 240) : (FBO_copyFrom_25_1 S).2 40 j = S.2 16 j := by
  show (if 0 ≤ j ∧ j < 0 + 240 then S.2 16 (0 + (j - 0)) else _) = _
  rw [if_pos ⟨Nat.zero_le _, by omega⟩, Nat.zero_add, Nat.sub_zero]
theorem cB_17 (S : hS) {j : Nat} (h : j < 240) : (FBO_copyFrom_25_1 S).2 41 j = S.2 17 j := by
  show (if 0 ≤ j ∧ j < 0 + 240 then S.2 17 (0 + (j - 0)) else _) = _
  rw [if_pos ⟨Nat.zero_le _, by omega⟩, Nat.zero_add, Nat.sub_zero]
theorem cB_18 (S : hS) {j : Nat} (h : j < 280) : (FBO_copyFrom_25_1 S).1 42 j = S.1 18 j := by
  show (if 0 ≤ j ∧ j < 0 + 280 then S.1 18 (0 + (j - 0)) else _) = _
  rw [if_pos ⟨Nat.zero_le _, by omega⟩, Nat.zero_add, Nat.sub_zero]
theorem cB_19 (S : hS) {j : Nat} (h : j < 280) : (FBO_copyFrom_25_1 S).1 43 j = S.1 19 j := by
  show (if 0 ≤ j ∧ j < 0 + 280 then S.1 19 (0 + (j - 0)) else _) = _
  rw [if_pos ⟨Nat.zero_le _, by omega⟩, Nat.zero_add, Nat.sub_zero]
theorem cB_20_0 (S : hS) : (FBO_copyFrom_25_1 S).1 44 0 = S.1 20 0 := rfl
theorem cB_21 (S : hS) {j : Nat} (h : j < 10) : (FBO_copyFrom_25_1 S).1 45 j = S.1 21 j := by
  show (if 0 ≤ j ∧ j < 0 + 10 then S.1 21 (0 + (j - 0)) else _) = _
  rw [if_pos ⟨Nat.zero_le _, by omega⟩, Nat.zero_add, Nat.sub_zero]
theorem cB_22 (S : hS) {j : Nat} (h : j < 10) : (FBO_copyFrom_25_1 S).2 46 j = S.2 22 j := by
  show (if 0 ≤ j ∧ j < 0 + 10 then S.2 22 (0 + (j - 0)) else _) = _
  rw [if_pos ⟨Nat.zero_le _, by omega⟩, Nat.zero_add, Nat.sub_zero]
theorem cB_23 (S : hS) {j : Nat} (h : j < 10) : (FBO_copyFrom_25_1 S).2 47 j = S.2 23 j := by
  show (if 0 ≤ j ∧ j < 0 + 10 then S.2 23 (0 + (j - 0)) else _) = _
  rw [if_pos ⟨Nat.zero_le _, by omega⟩, Nat.zero_add, Nat.sub_zero]
theorem cB_24 (S : hS) {j : Nat} (h : j < 20) : (FBO_copyFrom_25_1 S).2 48 j = S.2 24 j := by
  show (if 0 ≤ j ∧ j < 0 + 20 then S.2 24 (0 + (j - 0)) else _) = _
  rw [if_pos ⟨Nat.zero_le _, by omega⟩, Nat.zero_add, Nat.sub_zero]
theorem cE_1_4 (S : hS) : (FBO_copyFrom_1_25 S).1 1 4 = S.1 25 4 := rfl
theorem cE_1_5 (S : hS) : (FBO_copyFrom_1_25 S).1 1 5 = S.1 25 5 := rfl
theorem cE_1_6 (S : hS) : (FBO_copyFrom_1_25 S).2 1 6 = S.2 25 6 := rfl
theorem cE_1_7 (S : hS) : (FBO_copyFrom_1_25 S).2 1 7 = S.2 25 7 := rfl
theorem cE_2_0 (S : hS) : (FBO_copyFrom_1_25 S).1 2 0 = S.1 26 0 := rfl
theorem cE_3 (S : hS) {j : Nat} (h : j < 8) : (FBO_copyFrom_1_25 S).1 3 j = S.1 27 j := by
  show (if 0 ≤ j ∧ j < 0 + 8 then S.1 27 (0 + (j - 0)) else _) = _
  rw [if_pos ⟨Nat.zero_le _, by omega⟩, Nat.zero_add, Nat.sub_zero]
theorem cE_4 (S : hS) {j : Nat} (h : j < 8) : (FBO_copyFrom_1_25 S).1 4 j = S.1 28 j := by
  show (if 0 ≤ j ∧ j < 0 + 8 then S.1 28 (0 + (j - 0)) else _) = _
  rw [if_pos ⟨Nat.zero_le _, by omega⟩, Nat.zero_add, Nat.sub_zero]
theorem cE_5 (S : hS) {j : Nat} (h : j < 8) : (FBO_copyFrom_1_25 S).1 5 j = S.1 29 j := by
  show (if 0 ≤ j ∧ j < 0 + 8 then S.1 29 (0 + (j - 0)) else _) = _
  rw [if_pos ⟨Nat.zero_le _, by omega⟩, Nat.zero_add, Nat.sub_zero]
theorem cE_6 (S : hS) {j : Nat} (h : j < 8) : (FBO_copyFrom_1_25 S).2 6 j = S.2 30 j := by
  show (if 0 ≤ j ∧ j < 0 + 8 then S.2 30 (0 + (j - 0)) else _) = _
  rw [if_pos ⟨Nat.zero_le _, by omega⟩, Nat.zero_add, Nat.sub_zero]
theorem cE_7 (S : hS) {j : Nat} (h : j < 8) : (FBO_copyFrom_1_25 S).2 7 j = S.2 31 j := by
  show (if 0 ≤ j ∧ j < 0 + 8 then S.2 31 (0 + (j - 0)) else _) = _
  rw [if_pos ⟨Nat.zero_le _, by omega⟩, Nat.zero_add, Nat.sub_zero]
theorem cE_8 (S : hS) {j : Nat} (h : j < 8) : (FBO_copyFrom_1_25 S).1 8 j = S.1 32 j := by
  show (if 0 ≤ j ∧ j < 0 + 8 then S.1 32 (0 + (j - 0)) else _) = _
  rw [if_pos ⟨Nat.zero_le _, by omega⟩, Nat.zero_add, Nat.sub_zero]
theorem cE_9 (S : hS) {j : Nat} (h : j < 8) : (FBO_copyFrom_1_25 S).1 9 j = S.1 33 j := by
  show (if 0 ≤ j ∧ j < 0 + 8 then S.1 33 (0 + (j - 0)) else _) = _
  rw [if_pos ⟨Nat.zero_le _, by omega⟩, Nat.zero_add, Nat.sub_zero]
theorem cE_10_0 (S : hS) : (FBO_copyFrom_1_25 S).1 10 0 = S.1 34 0 := rfl
theorem cE_10_8 (S : hS) : (FBO_copyFrom_1_25 S).1 10 8 = S.1 34 8 := rfl
theorem cE_11 (S : hS) {j : Nat} (h : j < 40) : (FBO_copyFrom_1_25 S).1 11 j = S.1 35 j := by
  show (if 0 ≤ j ∧ j < 0 + 40 then S.1 35 (0 + (j - 0)) else _) = _
  rw [if_pos ⟨Nat.zero_le _, by omega⟩, Nat.zero_add, Nat.sub_zero]
theorem cE_12 (S : hS) {j : Nat} (h : j < 40) : (FBO_copyFrom_1_25 S).1 12 j = S.1 36 j := by
  show (if 0 ≤ j ∧ j < 0 + 40 then S.1 36 (0 + (j - 0)) else _) = _
  rw [if_pos ⟨Nat.zero_le _, by omega⟩, Nat.zero_add, Nat.sub_zero]
theorem cE_13 (S : hS) {j : Nat} (h : j < 40) : (FBO_copyFrom_1_25 S).1 13 j = S.1 37 j := by
  show (if 0 ≤ j ∧ j < 0 + 40 then S.1 37 (0 + (j - 0)) else _) = _
  rw [if_pos ⟨Nat.zero_le _, by omega⟩, Nat.zero_add, Nat.sub_zero]
theorem cE_14 (S : hS) {j : Nat} (h : j < 40) : (FBO_copyFrom_1_25 S).1 14 j = S.1 38 j := by
  show (if 0 ≤ j ∧ j < 0 + 40 then S.1 38 (0 + (j - 0)) else _) = _
  rw [if_pos ⟨Nat.zero_le _, by omega⟩, Nat.zero_add, Nat.sub_zero]
theorem cE_15 (S : hS) {j : Nat} (h : j < 240) : (FBO_copyFrom_1_25 S).1 15 j = S.1 39 j := by
  show (if 0 ≤ j ∧ j < 0 + 240 then S.1 39 (0 + (j - 0)) else _) = _
  rw [if_pos ⟨Nat.zero_le _, by omega⟩, Nat.zero_add, Nat.sub_zero]
theorem cE_16 (S : hS) {j : Nat} (h : j < 240) : (FBO_copyFrom_1_25 S).2 16 j = S.2 40 j := by
  show (if 0 ≤ j ∧ j < 0 + 240 then S.2 40 (0 + (j - 0)) else _) = _
  rw [if_pos ⟨Nat.zero_le _, by omega⟩, Nat.zero_add, Nat.sub_zero]
theorem cE_17 (S : hS) {j : Nat} (h : j < 240) : (FBO_copyFrom_1_25 S).2 17 j = S.2 41 j := by
  show (if 0 ≤ j ∧ j < 0 + 240 then S.2 41 (0 + (j - 0)) else _) = _
  rw [if_pos ⟨Nat.zero_le _, by omega⟩, Nat.zero_add, Nat.sub_zero]
theorem cE_18 (S : hS) {j : Nat} (h : j < 280) : (FBO_copyFrom_1_25 S).1 18 j = S.1 42 j := by
  show (if 0 ≤ j ∧ j < 0 + 280 then S.1 42 (0 + (j - 0)) else _) = _
  rw [if_pos ⟨Nat.zero_le _, by omega⟩, Nat.zero_add, Nat.sub_zero]
theorem cE_19 (S : hS) {j : Nat} (h : j < 280) : (FBO_copyFrom_1_25 S).1 19 j = S.1 43 j := by
  show (if 0 ≤ j ∧ j < 0 + 280 then S.1 43 (0 + (j - 0)) else _) = _
  rw [if_pos ⟨Nat.zero_le _, by omega⟩, Nat.zero_add, Nat.sub_zero]
theorem cE_20_0 (S : hS) : (FBO_copyFrom_1_25 S).1 20 0 = S.1 44 0 := rfl
theorem cE_21 (S : hS) {j : Nat} (h : j < 10) : (FBO_copyFrom_1_25 S).1 21 j = S.1 45 j := by
  show (if 0 ≤ j ∧ j < 0 + 10 then S.1 45 (0 + (j - 0)) else _) = _
  rw [if_pos ⟨Nat.zero_le _, by omega⟩, Nat.zero_add, Nat.sub_zero]
theorem cE_22 (S : hS) {j : Nat} (h : j < 10) : (FBO_copyFrom_1_25 S).2 22 j = S.2 46 j := by
  show (if 0 ≤ j ∧ j < 0 + 10 then S.2 46 (0 + (j - 0)) else _) = _
  rw [if_pos ⟨Nat.zero_le _, by omega⟩, Nat.zero_add, Nat.sub_zero]
theorem cE_23 (S : hS) {j : Nat} (h : j < 10) : (FBO_copyFrom_1_25 S).2 23 j = S.2 47 j := by
  show (if 0 ≤ j ∧ j < 0 + 10 then S.2 47 (0 + (j - 0)) else _) = _
  rw [if_pos ⟨Nat.zero_le _, by omega⟩, Nat.zero_add, Nat.sub_zero]
theorem cE_24 (S : hS) {j : Nat} (h : j < 20) : (FBO_copyFrom_1_25 S).2 24 j = S.2 48 j := by
  show (if 0 ≤ j ∧ j < 0 + 20 then S.2 48 (0 + (j - 0)) else _) = _
  rw [if_pos ⟨Nat.zero_le _, by omega⟩, Nat.zero_add, Nat.sub_zero]
theorem fr_LMO_endBatch_21q : ∀ (n : Nat) (S : hS) (x1 x2 : Int32), (LMO_endBatch_21 n S x1 x2).2.1 49 2 = S.1 49 2
  | 0, S, x1, x2 => rfl
  | n + 1, S, x1, x2 => by
    rw [LMO_endBatch_21_s]
    split
    · rfl
    split
    · exact fr_LMO_endBatch_21q n _ _ _
    · rfl
theorem K_batch {S : hS} (hw : wfC S) : wfC (kp (FHL_batch S).2) ∨ (FHL_batch S).2 = S := by
  rw [FHL_batch_e]
  split
  · refine Or.inl (wfC_eqs (S := S) ?_ ?_ ?_ ?_ ?_ (fun k hk => ?_) (fun k hk => ?_) ?_ hw)
    · exact cB_2_0 S
    · exact cB_10_0 S
    · exact cB_10_8 S
    · exact cB_20_0 S
    · exact cB_1_4 S
    · exact cB_13 S hk
    · exact cB_14 S hk
    · exact cB_1_7 S
  · exact Or.inr rfl
theorem I_batch {S : hS} (hI : I0 S) : I0 (FHL_batch S).2 := by
  rcases K_batch hI.1 with h | h
  · exact ⟨wfC_S (fr_FHL_batch S) (by decide) hI.1, h, wfM_S (fr_FHL_batch S) (by decide) hI.2.2.1, wfM_K (fr_FHL_batch S) (by decide) (congrFun (fr_FHL_batch S 49 (by decide)).1 2) hI.2.2.2⟩
  · rw [h]; exact hI
theorem I_endBatch {S : hS} (hI : I0 S) (x1 : Int32) : I0 (FHL_endBatch S x1).2 := by
  have hf := fr_FHL_endBatch S x1
  refine ⟨?_, wfC_K hf (by decide) hI.2.1, wfM_S hf (by decide) hI.2.2.1, wfM_K hf (by decide) (congrFun (hf 49 (by decide)).1 2) hI.2.2.2⟩
  rw [FHL_endBatch_e]
  split
  · exact hI.1
  split
  · refine wfC_eqs (S := kp S) ?_ ?_ ?_ ?_ ?_ (fun k hk => ?_) (fun k hk => ?_) ?_ hI.2.1
    · exact cE_2_0 S
    · exact cE_10_0 S
    · exact cE_10_8 S
    · exact cE_20_0 S
    · exact cE_1_4 S
    · exact cE_13 S hk
    · exact cE_14 S hk
    · exact cE_1_7 S
  · exact wfC_S (ks := [0]) (Same.i Same.rf (by decide)) (by decide) hI.1
theorem IM_batch {S : hS} (hI : I0 S) : I0 (FMO_batch S).2 := by
  have hf := fr_FMO_batch S
  refine ⟨wfC_S hf (by decide) hI.1, wfC_K hf (by decide) hI.2.1, wfM_S hf (by decide) hI.2.2.1, fun _ => ?_⟩
  rw [FMO_batch_e]
  split
  · have h : ∀ j, j < 1220 → (LMO_batch_16 1300 (sI S 49 4 0) 0).2.2 51 j = S.2 50 j := fun j hj => by
      have h := bat16 1300 (sI S 49 4 0) 0 (by omega) (by omega) j
      rw [nI_0] at h
      rw [h, if_pos ⟨Nat.zero_le _, hj⟩, sI_2]
    generalize LMO_batch_16 1300 (sI S 49 4 0) 0 = q at h ⊢
    exact wfM_pt (S := S) (fun j hj => h j hj) hI.2.2.1
  · rename_i c
    exact wfM_same (S := mk S) rfl (hI.2.2.2 c)
theorem IM_endBatch {S : hS} (hI : I0 S) (x1 : Int32) : I0 (FMO_endBatch S x1).2 := by
  have hf := fr_FMO_endBatch S x1
  by_cases c0 : S.1 49 2 = 0
  · rw [FMO_endBatch_e, if_pos c0]
    exact ⟨wfC_S (ks := [49]) (Same.i Same.rf (by decide)) (by decide) hI.1, wfC_K (ks := [49]) (Same.i Same.rf (by decide)) (by decide) hI.2.1, wfM_I hI.2.2.1, fun h => absurd (by rw [sI_1, if_neg (by omega)]; exact c0) h⟩
  have hm := hI.2.2.2 c0
  have hz : (FMO_endBatch S x1).2.1 49 2 = 0 := by
    rw [FMO_endBatch_e, if_neg c0]
    have h9 := (fr_LMO_endBatch_21q 1300 (sI (sI S 49 4 0) 49 2 0) x1 0)
    generalize LMO_endBatch_21 1300 (sI (sI S 49 4 0) 49 2 0) x1 0 = q at h9 ⊢
    exact h9.trans (by rw [sI_1, if_pos ⟨rfl, rfl⟩])
  refine ⟨wfC_S hf (by decide) hI.1, wfC_K hf (by decide) hI.2.1, ?_, fun h => absurd hz h⟩
  rw [FMO_endBatch_e, if_neg c0]
  have h : wfM (LMO_endBatch_21 1300 (sI (sI S 49 4 0) 49 2 0) x1 0).2 := by
    by_cases c : x1 = 0
    · subst c
      refine wfM_pt (S := mk S) (fun j hj => ?_) hm
      have h := end21 1300 (sI (sI S 49 4 0) 49 2 0) 0 (by omega) (by omega) j
      rw [nI_0] at h
      rw [h, if_pos ⟨Nat.zero_le _, hj⟩, sI_2, sI_2]
      rfl
    · rw [end21_k (n := 1299) c]; exact hI.2.2.1
  generalize LMO_endBatch_21 1300 (sI (sI S 49 4 0) 49 2 0) x1 0 = q at h ⊢
  exact h
theorem I_la {S : hS} (hI : I0 S) (x1 : Int32) : I0 (FLA_close S x1).2 := by
  refine I_C (ks := [12, 17, 52]) hI ?_ (by decide) (wC_la hI.1 x1)
  unfold FLA_close
  split
  · exact Same.l ((fr_FHL_close S x1).mo (by decide)) (by decide)
  · exact Same.rf
theorem bat9 : ∀ (n : Nat) (S : hS) (x1 : Int32), (LMO_batch_16 n S x1).2.1 49 = S.1 49
  | 0, S, x1 => rfl
  | n + 1, S, x1 => by
    rw [LMO_batch_16_s]
    split
    · rfl
    · exact bat9 n _ _
theorem end9 : ∀ (n : Nat) (S : hS) (x1 x2 : Int32), (LMO_endBatch_21 n S x1 x2).2.1 49 = S.1 49
  | 0, S, x1, x2 => rfl
  | n + 1, S, x1, x2 => by
    rw [LMO_endBatch_21_s]
    split
    · rfl
    split
    · exact end9 n _ _ _
    · rfl

