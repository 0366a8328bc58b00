
def Jv (_ : Nat) (S : hS) : Prop := I0 S ∧ Rl S ∧ Rj S ∧ R2 Xg S
theorem Rl_0 : Rl S0 := ⟨⟨rfl, rfl⟩, ⟨by rw [S0_50 (by decide)]; decide, ⟨by rw [S0_50 (by decide)]; decide, by decide, by decide⟩, fun k hk hc => absurd hc (by show ¬ (k : Int) < (0 : Int32).toInt; rw [show (0 : Int32).toInt = 0 by decide]; omega), fun k hk hc => absurd hc (by show ¬ (k : Int) < (0 : Int32).toInt; rw [show (0 : Int32).toInt = 0 by decide]; omega), fun k hk hc => ⟨S0_50 (by omega), S0_50 (by omega)⟩⟩, fun h => absurd rfl h⟩
theorem Rj_0 : Rj S0 := by
  refine ⟨⟨0, ⟨⟨rfl, by omega, by rw [S0_50 (by decide)]; decide, by decide⟩, fun e he => absurd he (Nat.not_lt_zero _), fun e _ he => ⟨S0_50 (by omega), S0_50 (by omega), S0_50 (by omega)⟩, fun e r he => absurd he (Nat.not_lt_zero _), ⟨fun p hp => absurd hp (Nat.not_lt_zero _), fun p q _ hq => absurd hq (Nat.not_lt_zero _), fun e he => absurd he (Nat.not_lt_zero _)⟩⟩, fun e r he => absurd he (Nat.not_lt_zero _)⟩, fun h => absurd rfl h⟩
theorem X_0 : R2 Xg S0 := ⟨⟨0, 0, ⟨rfl, by omega⟩, rfl, fun g hg => absurd hg (Nat.not_lt_zero _), fun g h _ hg => absurd hg (Nat.not_lt_zero _), fun e s he hs => ⟨fun z => absurd z (by rw [S0_50 (by omega)]; unfold bW; simp), fun ⟨g, hg, _⟩ => absurd hg (Nat.not_lt_zero _)⟩, Nat.zero_le _⟩, fun h => absurd rfl h⟩
theorem Jv_0 : Jv 0 S0 := ⟨⟨S0_wC, S0_wK, S0_wM, fun h => absurd rfl h⟩, Rl_0, Rj_0, X_0⟩

