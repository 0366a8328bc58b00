def Jv (_ : Nat) (S : hS) : Prop := I0 S
theorem Jv_0 : Jv 0 S0 := ⟨S0_wC, S0_wK, S0_wM, fun h => absurd rfl h⟩
theorem ans_rate (S S' : hS) (x1 x3 : Int64) : (FHL_rate S x1 x3).1 = (FMO_rate S' x1 x3).1 := by
  have z1 : ¬ (1 : Int32) = 0 := by decide
  rw [FHL_rate_e, FMO_rate_e, FMO_isIn_e, FMO_isIn_e]
  by_cases c1 : x1 < 0
  · rw [if_pos c1, if_pos c1, if_pos rfl]
  · rw [if_neg c1, if_neg c1]
    by_cases c2 : 100 < x1
    · rw [if_pos c2, if_pos c2, if_pos rfl]
    · rw [if_neg c2, if_neg c2, if_neg z1]
      by_cases c3 : x3 < 1
      · rw [if_pos c3, if_pos c3, if_pos rfl]
      · rw [if_neg c3, if_neg c3]
        by_cases c4 : x3 ≤ 100
        · rw [if_pos c4, if_neg (Int64.not_lt.mpr c4), if_neg z1]
        · rw [if_neg c4, if_pos (Int64.not_le.mp c4), if_pos rfl]

