/-! close -/
def sm (f : Nat → Int64) : Nat → Nat → Int64 → Int64
  | _, 0, a => a
  | s, k + 1, a => sm f (s + 1) k (a + f s)
theorem sm_cg {f g : Nat → Int64} : ∀ (k s : Nat) (a : Int64), (∀ j, s ≤ j → j < s + k → f j = g j) → sm f s k a = sm g s k a
  | 0, s, a, _ => rfl
  | k + 1, s, a, h => by
    unfold sm
    rw [h s (Nat.le_refl _) (by omega)]
    exact sm_cg k (s + 1) _ (fun j a b => h j (by omega) (by omega))
theorem ix6 {c : Int32} {e r : Nat} (p : Nat) (hc : c = nI p) (he : e < 40) (hr : r < 100) (hp : p < 2000) : ((c + (6 * nI e)) + nI r).toNatClampNeg = p + (6 * e + r) := by
  rw [hc, nI_6x (by omega), nI_add, nI_add, nI_clamp (by omega)]
  omega
theorem ix6' {c : Int32} {e r : Nat} (p : Nat) (hc : c = nI p) (he : e < 40) (hr : r < 100) (hp : p < 2000) : (c + ((6 * nI e) + nI r)).toNatClampNeg = p + (6 * e + r) := by
  rw [hc, nI_6x (by omega), nI_add, nI_add, nI_clamp (by omega)]
theorem sum23 (S : hS) (x1 x4 : Int32) {m : Nat} (hm : m ≤ 240) : ∀ (k f s : Nat) (acc : Int64), s + k = m → k < f → (LJO_sumOf_23 f S x1 acc x4 (nI m) (nI s)).1 = sm (S.2 16) s k acc
  | k, 0, s, acc, _, h => absurd h (Nat.not_lt_zero _)
  | 0, f + 1, s, acc, hs, _ => by
    rw [LJO_sumOf_23_s, if_pos (nI_le (by omega) (by omega))]
    rfl
  | k + 1, f + 1, s, acc, hs, hf => by
    rw [LJO_sumOf_23_s, if_neg (nI_ge (by omega) (by omega)), nI_1, nI_clamp (by omega), sum23 S x1 x4 hm k f (s + 1) _ (by omega) (by omega)]
    rfl
theorem sumOf_C {S : hS} {e r : Nat} (he : e < 40) (hr : S.1 13 e = nI r) (h6 : r ≤ 6) : FJO_sumOf S (nI e) = sm (S.2 16) (6 * e) r 0 := by
  rw [FJO_sumOf_e, nI_clamp (n := e) (by omega), hr, nI_x6 (by omega), nI_add]
  exact sum23 S (nI e) (nI (6 * e)) (m := 6 * e + r) (by omega) r 300 (6 * e) 0 rfl (by omega)
theorem close51 {S : hS} {e m : Nat} (he : e < 40) (hc : (S.2 50 (260 + e)).toInt = (m : Int)) (hm : m ≤ 6) : ∀ (k f r : Nat) (acc : Int64), r + k = m → k < f → (LMO_close_51 f S (nI e) acc (nI r)).1 = sm (fun s => S.2 50 (540 + s)) (6 * e + r) k acc
  | k, 0, r, acc, _, h => absurd h (Nat.not_lt_zero _)
  | 0, f + 1, r, acc, hr, _ => by
    rw [LMO_close_51_s, ixC (c := 260) 260 rfl (by omega) (by omega), if_pos (by rw [Int64.le_iff_toInt_le, l32, hc, nI_toInt (by omega)]; omega)]
    rfl
  | k + 1, f + 1, r, acc, hr, hf => by
    rw [LMO_close_51_s, ixC (c := 260) 260 rfl (by omega) (by omega), if_neg (by rw [Int64.le_iff_toInt_le, l32, hc, nI_toInt (by omega)]; omega), ix6 (c := 540) 540 rfl he (by omega) (by omega), nI_1, close51 he hc hm k f (r + 1) _ (by omega) (by omega)]
    rfl
theorem if3 {A B : Int64} {a b c d P : Prop} [Decidable a] [Decidable b] [Decidable c] [Decidable d] [Decidable P] (h : (d ∧ b) ↔ ((a ∧ b) ∨ c)) : (if a ∧ b ∧ P then A else if c ∧ P then A else B) = if d ∧ b ∧ P then A else B := by
  by_cases p : P
  · by_cases u : d ∧ b
    · rw [if_pos (show d ∧ b ∧ P from ⟨u.1, u.2, p⟩)]
      rcases h.mp u with w | w
      · rw [if_pos (show a ∧ b ∧ P from ⟨w.1, w.2, p⟩)]
      · split
        · rfl
        · rw [if_pos (show c ∧ P from ⟨w, p⟩)]
    · rw [if_neg (show ¬ (d ∧ b ∧ P) from fun z => u ⟨z.1, z.2.1⟩), if_neg (show ¬ (a ∧ b ∧ P) from fun z => u (h.mpr (Or.inl ⟨z.1, z.2.1⟩))), if_neg (show ¬ (c ∧ P) from fun z => u (h.mpr (Or.inr z.1)))]
  · rw [if_neg (show ¬ (d ∧ b ∧ P) from fun z => p z.2.2), if_neg (show ¬ (a ∧ b ∧ P) from fun z => p z.2.2), if_neg (show ¬ (c ∧ P) from fun z => p z.2)]
theorem mk20 (x1 x2 : Int32) {m : Nat} (hm : m ≤ 240) : ∀ (k f s : Nat) (S : hS), s + k = m → k < f → ∀ j, (LBO_makeItems_20 f S x1 x2 (nI m) (nI s)).2.2 17 j = if s ≤ j ∧ j < m ∧ 0 < S.2 16 j ∧ ¬ FAC_hasHousehold S (S.1 15 j) = 0 then S.2 16 j else S.2 17 j
  | k, 0, s, S, _, h, j => absurd h (Nat.not_lt_zero _)
  | 0, f + 1, s, S, hs, _, j => by
    rw [LBO_makeItems_20_s, if_pos (nI_le (by omega) (by omega)), if_neg (by omega)]
  | k + 1, f + 1, s, S, hs, hf, j => by
    rw [LBO_makeItems_20_s, if_neg (nI_ge (by omega) (by omega)), nI_1, nI_clamp (by omega)]
    have next : ∀ S1 : hS, S1.1 = S.1 → S1.2 16 = S.2 16 → (∀ a, FAC_hasHousehold S1 a = FAC_hasHousehold S a) → S1.2 17 j = (if j = s ∧ 0 < S.2 16 j ∧ ¬ FAC_hasHousehold S (S.1 15 j) = 0 then S.2 16 j else S.2 17 j) → (LBO_makeItems_20 f S1 x1 x2 (nI m) (nI (s + 1))).2.2 17 j = if s ≤ j ∧ j < m ∧ 0 < S.2 16 j ∧ ¬ FAC_hasHousehold S (S.1 15 j) = 0 then S.2 16 j else S.2 17 j := fun S1 h1 h2 h3 h4 => by
      rw [mk20 x1 x2 hm k f (s + 1) S1 (by omega) (by omega) j, h2, h1, h3, h4]
      exact if3 (by omega)
    by_cases c : S.2 16 s ≤ 0
    · rw [if_pos c]
      refine next S rfl rfl (fun _ => rfl) ?_
      rw [if_neg (fun z => by
        have z2 := z.2.1
        rw [z.1, Int64.lt_iff_toInt_lt] at z2
        rw [Int64.le_iff_toInt_le] at c
        omega)]
    · rw [if_neg c]
      by_cases d : FAC_hasHousehold S (S.1 15 s) = 0
      · rw [if_pos d]
        refine next S rfl rfl (fun _ => rfl) ?_
        rw [if_neg (fun z => by
          have z2 := z.2.2
          rw [z.1] at z2
          exact z2 d)]
      · rw [if_neg d]
        refine next (sL S 17 s (S.2 16 s)) rfl ?_ (fun _ => rfl) ?_
        · funext i
          rw [sL_2, if_neg (by omega)]
        · rw [sL_2]
          by_cases q : j = s
          · subst q
            have c0 : 0 < S.2 16 j := by
              rw [Int64.le_iff_toInt_le] at c
              rw [Int64.lt_iff_toInt_lt]
              omega
            rw [if_pos ⟨rfl, rfl⟩, if_pos ⟨rfl, c0, d⟩]
          · rw [if_neg (fun z => q z.2), if_neg (fun z => q z.1)]
theorem makeItems_C {S : hS} {e r : Nat} (he : e < 40) (hr : S.1 13 e = nI r) (h6 : r ≤ 6) (j : Nat) : (FBO_makeItems S (nI e)).2 17 j = if 6 * e ≤ j ∧ j < 6 * e + r ∧ 0 < S.2 16 j ∧ ¬ FAC_hasHousehold S (S.1 15 j) = 0 then S.2 16 j else S.2 17 j := by
  rw [FBO_makeItems_e, nI_clamp (n := e) (by omega), hr, nI_x6 (by omega), nI_add]
  exact mk20 (nI e) (nI (6 * e)) (m := 6 * e + r) (by omega) r 300 (6 * e) S rfl (by omega) j
theorem cl120 {e m : Nat} (he : e < 40) (x2 : Int64) (hm : m ≤ 6) (M0 : Nat → Int64) (it : Nat → Bool) (HI : ∀ S : hS, (∀ j, j < 780 → S.2 50 j = M0 j) → ∀ r : Nat, r < 6 → (FMO_isItem S (nI e) (nI r) = 0 ↔ it r = false)) (hc : (M0 (260 + e)).toInt = (m : Int)) : ∀ (k f r : Nat) (S : hS), r + k = m → k < f → (∀ j, j < 780 → S.2 50 j = M0 j) → ∀ j, (LMO_close_120 f S (nI e) x2 (nI r)).2.2 50 j = if 780 + (6 * e + r) ≤ j ∧ j < 780 + (6 * e + m) then (if it (j - (780 + 6 * e)) = true then M0 (j - 240) else 0) else S.2 50 j
  | k, 0, r, S, _, h, _, j => absurd h (Nat.not_lt_zero _)
  | 0, f + 1, r, S, hr, _, h0, j => by
    rw [LMO_close_120_s, ixC (c := 260) 260 rfl (by omega) (by omega), h0 _ (by omega), if_pos (by rw [Int64.le_iff_toInt_le, l32, hc, nI_toInt (by omega)]; omega), if_neg (by omega)]
  | k + 1, f + 1, r, S, hr, hf, h0, j => by
    rw [LMO_close_120_s, ixC (c := 260) 260 rfl (by omega) (by omega), h0 (260 + e) (by omega), if_neg (by rw [Int64.le_iff_toInt_le, l32, hc, nI_toInt (by omega)]; omega), ix6' (c := 540) 540 rfl he (by omega) (by omega), ix6' (c := 780) 780 rfl he (by omega) (by omega), nI_1]
    have next : ∀ v : Int64, v = (if it r = true then M0 (540 + (6 * e + r)) else 0) → (LMO_close_120 f (sL S 50 (780 + (6 * e + r)) v) (nI e) x2 (nI (r + 1))).2.2 50 j = if 780 + (6 * e + r) ≤ j ∧ j < 780 + (6 * e + m) then (if it (j - (780 + 6 * e)) = true then M0 (j - 240) else 0) else S.2 50 j := fun v hv => by
      rw [cl120 he x2 hm M0 it HI hc k f (r + 1) _ (by omega) (by omega) (fun i hi => by rw [sL50, up5_n (by omega)]; exact h0 i hi) j, sL50]
      by_cases q : j = 780 + (6 * e + r)
      · rw [if_neg (by omega), if_pos (by omega), q, up5_e, hv, show 780 + (6 * e + r) - (780 + 6 * e) = r by omega, show 780 + (6 * e + r) - 240 = 540 + (6 * e + r) by omega]
      · rw [up5_n q]
        by_cases w : 780 + (6 * e + (r + 1)) ≤ j ∧ j < 780 + (6 * e + m)
        · rw [if_pos w, if_pos (show 780 + (6 * e + r) ≤ j ∧ j < 780 + (6 * e + m) by omega)]
        · rw [if_neg w, if_neg (show ¬ (780 + (6 * e + r) ≤ j ∧ j < 780 + (6 * e + m)) by omega)]
    have hi := HI S h0 r (by omega)
    by_cases c : FMO_isItem S (nI e) (nI r) = 0
    · rw [if_pos c]
      refine next 0 ?_
      rw [hi.mp c, if_neg (by decide)]
    · rw [if_neg c]
      refine next _ ?_
      have : it r = true := by
        cases z : it r with
        | true => rfl
        | false => exact absurd (hi.mpr z) c
      rw [this, if_pos rfl, h0 _ (by omega)]
theorem cl120_1 : ∀ (f : Nat) (S : hS) (x1 : Int32) (x2 : Int64) (x4 : Int32), (LMO_close_120 f S x1 x2 x4).2.1 = S.1
  | 0, S, x1, x2, x4 => rfl
  | f + 1, S, x1, x2, x4 => by
    rw [LMO_close_120_s]
    split
    · rfl
    split
    · exact (cl120_1 f _ _ _ _).trans rfl
    · exact (cl120_1 f _ _ _ _).trans rfl
theorem Rk_M {n : Nat} {C : Nat → Nat → Int32} {L : Nat → Nat → Int64} {M M' : Nat → Int64} (hM : ∀ j, j < 780 → M' j = M j) (h : Rk n C L M) : Rk n C L M' := by
  obtain ⟨⟨h0, hn, h1, hc8⟩, hE, hZ, hS', hB⟩ := h
  refine ⟨⟨h0, hn, by rw [hM 1 (by omega)]; exact h1, hc8⟩, fun e he => ?_, fun e he he4 => ?_, fun e r he hr hc => ?_, hB⟩
  · rw [hM (100 + e) (by omega), hM (140 + e) (by omega), hM (180 + e) (by omega), hM (220 + e) (by omega), hM (260 + e) (by omega)]
    exact hE e he
  · rw [hM (140 + e) (by omega), hM (220 + e) (by omega), hM (260 + e) (by omega)]
    exact hZ e he he4
  · rw [hM (300 + (6 * e + r)) (by omega), hM (540 + (6 * e + r)) (by omega)]
    exact hS' e r he hr hc
theorem Ra_M {C : Nat → Nat → Int32} {M M' : Nat → Int64} (hM : ∀ j, Pm j → M' j = M j) (h : Ra C M) : Ra C M' := Ra_of rfl rfl (fun _ _ => rfl) (fun _ _ => rfl) (fun _ _ => rfl) hM h
theorem Pm_lt {j : Nat} (h : Pm j) : j < 100 ∧ j ≠ 1 := by unfold Pm at h; omega
theorem fn2 (S : hS) (v : Int64) : Same [52] S (sL S 52 0 v) := Same.l Same.rf (by decide)

theorem q_close {S : hS} (hI : I0 S) (hR : Rl S) (hJ : Rj S) (x1 : Int32) : ((FMO_close (FLA_close S x1).2 x1).2.1 49 4 = (FLA_close S x1).1 ∧ ((FLA_close S x1).1 = 0 → (FMO_close (FLA_close S x1).2 x1).2.2 52 0 = (FMO_close (FLA_close S x1).2 x1).1.toInt64)) ∧ Rj (FMO_close (FLA_close S x1).2 x1).2 := by
  obtain ⟨n, q⟩ := hJ.1
  have h0 := q.1.1.1
  have hn := q.1.1.2.1
  have h1 := q.1.1.2.2.1
  -- both say that there is nothing to close
  have no : FHL_close S x1 = (-1, S) → NT S x1 → FMO_close (sL S 52 0 (-1 : Int32).toInt64) x1 = (-1, sI (sL S 52 0 (-1 : Int32).toInt64) 49 4 0) → ((FMO_close (FLA_close S x1).2 x1).2.1 49 4 = (FLA_close S x1).1 ∧ ((FLA_close S x1).1 = 0 → (FMO_close (FLA_close S x1).2 x1).2.2 52 0 = (FMO_close (FLA_close S x1).2 x1).1.toInt64)) ∧ Rj (FMO_close (FLA_close S x1).2 x1).2 := fun a b c => by
    rw [FLA_0 b, a]
    dsimp only
    rw [c]
    refine ⟨⟨?_, fun _ => ?_⟩, Rj_other hJ (fn2 S _) (by decide) (Same49 _) (by decide) (Sm.i Sm.rf (Or.inr (by decide))) Mj.rf.i⟩
    · rw [sI_1, if_pos ⟨rfl, rfl⟩]
    · dsimp only
      rw [sI_2, sL_2, if_pos ⟨rfl, rfl⟩]
  rcases ent_or (S' := sI (sL S 52 0 (-1 : Int32).toInt64) 49 4 0) h0 h1 hn x1 with ⟨a, b⟩ | ⟨a, e, he, rfl⟩
  · exact no (by rw [FHL_close_e, if_pos (open_no b)]) (Or.inl (open_no b)) (by rw [FMO_close_e, if_pos a])
  have en : ∀ T : hS, T.2 50 = S.2 50 → ¬ FMO_isEntry T (nI e) = 0 := fun T h => by
    have a' : ¬ FMO_isEntry (sI (sL S 52 0 (-1 : Int32).toInt64) 49 4 0) (nI e) = 0 := by rw [a]; decide
    rw [FMO_isEntry_e] at a' ⊢
    rw [h]
    exact a'
  have i140 : (140 + nI e).toNatClampNeg = 140 + e := ixC (c := 140) 140 rfl (by omega) (by omega)
  have i100 : (100 + nI e).toNatClampNeg = 100 + e := ixC (c := 100) 100 rfl (by omega) (by omega)
  have i260 : (260 + nI e).toNatClampNeg = 260 + e := ixC (c := 260) 260 rfl (by omega) (by omega)
  have re := q.1.2.1 e he
  have so := st_open re
  have op := open_at h0 hn he
  have s52 : (sL S 52 0 (-1 : Int32).toInt64).2 50 = S.2 50 := funext (fun j => by rw [sL_2, if_neg (by omega)])
  by_cases c2 : S.1 12 e = 0
  · have p0 := so.1.mp c2
    have zz := so.2 c2
    rw [if_pos c2] at op
    have op' : ¬ FJO_isOpen S (nI e) = 0 := by rw [op]; decide
    have ed : (S.1 11 e).toInt64 = S.2 50 (100 + e) := Int64.toInt_inj.mp (by rw [l32]; exact re.1)
    have isd : ∀ T : hS, ¬ FMO_isDay T (S.2 50 (100 + e)) = 0 := fun T => by
      have := re.2.1
      have r1 := re.1
      rw [FMO_isDay_e, FMO_isIn_e, if_neg (by rw [Int64.lt_iff_toInt_lt, tq_0]; omega), if_neg (by rw [Int64.lt_iff_toInt_lt, show (3599 : Int64).toInt = 3599 by decide]; omega)]
      decide
    have late := late_eq (S' := sI S 49 4 0) hR.2.1 rfl (S.2 50 (100 + e))
    rw [if_neg (isd _)] at late
    by_cases c3 : FMO_isLate (sI S 49 4 0) (S.2 50 (100 + e)) = 0
    · rw [if_pos c3] at late
      have uc : ¬ FBO_isUnclosedDay S ((S.1 11 (nI e).toNatClampNeg).toInt64) = 0 := by
        rw [nI_clamp (by omega), ed, late]
        decide
      -- rows
      have rc := re.2.2.1
      have er : S.1 13 e = nI (S.1 13 e).toNatClampNeg := (nI_cl rc.2.1).symm
      have cr := cl_toInt rc.2.1
      generalize (S.1 13 e).toNatClampNeg = r at er cr
      have hrM : (S.2 50 (260 + e)).toInt = (r : Int) := by rw [← rc.1]; exact cr.symm
      have hs := sumOf_C (S := S) (e := e) (r := r) (by omega) er (by omega)
      have hsm : ∀ T : hS, T.2 50 = S.2 50 → (LMO_close_51 300 T (nI e) 0 0).1 = sm (S.2 16) (6 * e) r 0 := fun T h => by
        have h5 := close51 (S := T) (e := e) (m := r) (by omega) (by rw [h]; exact hrM) (by omega) r 300 0 0 (by omega) (by omega)
        rw [nI_0, Nat.add_zero] at h5
        rw [h5]
        refine sm_cg r (6 * e) 0 (fun j a b => ?_)
        have w := q.1.2.2.2.1 e (j - 6 * e) he (by omega) (by rw [← cr]; omega)
        have ej : 6 * e + (j - 6 * e) = j := by omega
        rw [ej] at w
        rw [h]
        exact w.2.1.1
      by_cases c4 : FJO_sumOf S (nI e) = 0
      · -- closed
        have nt : NT S (nI e) := Or.inr (Or.inr c4)
        have hC : FHL_close S (nI e) = ((FBO_makeItems (sI S 12 e 1) (nI e)).1 13 e, FBO_makeItems (sI S 12 e 1) (nI e)) := by
          rw [FHL_close_e, if_neg op', if_neg uc, if_pos c4, nI_clamp (by omega)]
        have t13' : (sI S 12 e 1).1 13 e = nI r := by rw [sI_1, if_neg (by omega)]; exact er
        have mk := makeItems_C (S := sI S 12 e 1) (e := e) (r := r) (by omega) t13' (by omega)
        have fm := fr_FBO_makeItems (sI S 12 e 1) (nI e)
        rw [FLA_0 nt, hC]
        dsimp only
        have fT0 : Same [12, 17] S (FBO_makeItems (sI S 12 e 1) (nI e)) := Same.tr (Same.i Same.rf (by decide)) (fm.mo (by decide))
        have k13 : (FBO_makeItems (sI S 12 e 1) (nI e)).1 13 e = nI r := by rw [congrFun (fm 13 (by decide)).1 e]; exact t13'
        have t12 : ∀ j, (FBO_makeItems (sI S 12 e 1) (nI e)).1 12 j = if j = e then 1 else S.1 12 j := fun j => by
          rw [congrFun (fm 12 (by decide)).1 j, sI_1]
          by_cases w : j = e
          · rw [if_pos ⟨rfl, w⟩, if_pos w]
          · rw [if_neg (fun z => w z.2), if_neg w]
        have t17 : ∀ j, (FBO_makeItems (sI S 12 e 1) (nI e)).2 17 j = if 6 * e ≤ j ∧ j < 6 * e + r ∧ 0 < S.2 16 j ∧ ¬ FAC_hasHousehold S (S.1 15 j) = 0 then S.2 16 j else S.2 17 j := fun j => mk j
        rw [k13]
        generalize FBO_makeItems (sI S 12 e 1) (nI e) = T0 at fT0 t12 t17 ⊢
        have fT : Same [12, 17, 52] S (sL T0 52 0 (nI r).toInt64) := Same.l (fT0.mo (by decide)) (by decide)
        have u12 : ∀ j, (sL T0 52 0 (nI r).toInt64).1 12 j = if j = e then 1 else S.1 12 j := t12
        have u17 : ∀ j, (sL T0 52 0 (nI r).toInt64).2 17 j = if 6 * e ≤ j ∧ j < 6 * e + r ∧ 0 < S.2 16 j ∧ ¬ FAC_hasHousehold S (S.1 15 j) = 0 then S.2 16 j else S.2 17 j := fun j => by
          rw [sL_2, if_neg (by omega)]
          exact t17 j
        have u52 : (sL T0 52 0 (nI r).toInt64).2 52 0 = (nI r).toInt64 := by rw [sL_2, if_pos ⟨rfl, rfl⟩]
        generalize sL T0 52 0 (nI r).toInt64 = T at fT u12 u17 u52 ⊢
        have t50 : T.2 50 = S.2 50 := (fT 50 (by decide)).2
        -- the relation behind the class's step and the reference's posting
        have hh : ∀ j r', j = 6 * e + r' → r' < 6 → (r' : Int) < (S.1 13 e).toInt → ((¬ FAC_hasHousehold S (S.1 15 j) = 0) ↔ kdC S.1 j = 1) := fun j r' hj h6 hc => by
          have w := q.1.2.2.2.1 e r' he h6 hc
          rw [← hj] at w
          have a0 := w.1.1
          have a1 := w.1.2.1
          have hs : ¬ FAC_has S (S.1 15 j) = 0 := by
            rw [FAC_has_e, if_neg (by rw [Int32.lt_iff_toInt_lt, tl_0]; omega), if_neg (by rw [Int32.le_iff_toInt_le]; omega)]
            decide
          rw [FAC_hasHousehold_e, if_neg hs]
          unfold kdC
          by_cases z : S.1 3 (S.1 15 j).toNatClampNeg = 1
          · rw [if_pos z]
            exact ⟨fun _ => z, fun _ => by decide⟩
          · rw [if_neg z]
            exact ⟨fun y => absurd rfl y, fun y => absurd y z⟩
        have m140 : ∀ j, j < 780 → j ≠ 140 + e → j ≠ 220 + e → up5 (S.2 50) (140 + e) 1 j = S.2 50 j := fun j _ b _ => up5_n b
        have kR : Rk n T.1 T.2 (up5 (S.2 50) (140 + e) 1) := by
          refine Rk_state q.1 he 1 (congrFun (fT 10 (by decide)).1 0) (congrFun (fT 2 (by decide)).1 0) (fun k => congrFun (fT 3 (by decide)).1 k) (fun j => ⟨congrFun (fT 11 (by decide)).1 j, congrFun (fT 13 (by decide)).1 j, congrFun (fT 14 (by decide)).1 j, u12 j⟩) (fun s => ⟨congrFun (fT 15 (by decide)).1 s, congrFun (fT 16 (by decide)).2 s⟩) (fun s hs => ?_) m140 (Or.inl ⟨rfl, up5_e _ _ _, zz.2.1, ?_⟩) (fun r' h6 hc w => ?_)
          · rw [u17, if_neg (by omega)]
          · rw [up5_n (by omega)]
            exact zz.2.2
          · have r'r : r' < r := by
              rw [← cr] at hc
              omega
            have hk := hh (6 * e + r') r' rfl h6 hc
            have old : S.2 17 (6 * e + r') = -1 := w.2.2.2 (fun z => by
              rcases z.1 with z | z
              · rw [c2] at z; exact absurd z (by decide)
              · rw [c2] at z; exact absurd z (by decide))
            rw [u17]
            by_cases z : 0 < S.2 16 (6 * e + r') ∧ ¬ FAC_hasHousehold S (S.1 15 (6 * e + r')) = 0
            · rw [if_pos ⟨by omega, by omega, z⟩]
              have z1 := z.1
              rw [Int64.lt_iff_toInt_lt, tq_0] at z1
              exact ⟨fun _ => ⟨by omega, Int.le_refl _⟩, fun y => absurd ⟨Or.inl rfl, z1, hk.mp z.2⟩ y⟩
            · rw [if_neg (fun y => z y.2.2), old]
              refine ⟨fun y => ?_, fun _ => rfl⟩
              exfalso
              refine z ⟨?_, hk.mpr y.2.2⟩
              rw [Int64.lt_iff_toInt_lt, tq_0]
              exact y.2.1
        have raM : ∀ S' : hS, (∀ j, j < 780 → S'.2 50 j = up5 (S.2 50) (140 + e) 1 j) → Ra T.1 (S'.2 50) := fun S' h => by
          refine Ra_of (congrFun (fT 2 (by decide)).1 0) (congrFun (fT 1 (by decide)).1 5) (fun k _ => congrFun (fT 3 (by decide)).1 k) (fun k _ => congrFun (fT 8 (by decide)).1 k) (fun k _ => congrFun (fT 9 (by decide)).1 k) (fun j hj => ?_) hR.2.1
          have := Pm_lt hj
          rw [h j (by omega), up5_n (by omega)]
        have tr13 : T.1 13 e = S.1 13 e := congrFun (fT 13 (by decide)).1 e
        have c120 := cl120 (e := e) (m := r) (by omega) 0 (by omega) (up5 (S.2 50) (140 + e) 1) (fun r' : Nat => decide ((r' : Int) < (T.1 13 e).toInt ∧ ¬ T.2 17 (6 * e + r') = -1)) (fun S' h r' h6 => by
          rw [isItem_M (raM S' h) (Rk_M h kR) (by omega) h6]
          by_cases z : e < n ∧ (r' : Int) < (T.1 13 e).toInt ∧ ¬ T.2 17 (6 * e + r') = -1
          · rw [if_pos z]
            exact ⟨fun y => absurd y (by decide), fun y => absurd z.2 (of_decide_eq_false y)⟩
          · rw [if_neg z]
            exact ⟨fun _ => decide_eq_false (fun y => z ⟨he, y⟩), fun _ => rfl⟩) (by rw [up5_n (by omega)]; exact hrM) r 300 0 (sL (sI T 49 4 0) 50 (140 + e) 1) (by omega) (by omega) (fun j _ => by rw [sL50, sI_2, t50])
        rw [nI_0] at c120
        have lt2 : FMO_isLate (sI T 49 4 0) (S.2 50 (100 + e)) = 0 := by
          rw [lateM (S := sI S 49 4 0) (S' := sI T 49 4 0) t50]
          exact c3
        have s0 := hsm (sI T 49 4 0) t50
        rw [← hs, c4] at s0
        have e2 : FMO_close T (nI e) = (((LMO_close_120 300 (sL (sI T 49 4 0) 50 (140 + e) 1) (nI e) 0 0).2.2 50 (260 + e)).toInt32, (LMO_close_120 300 (sL (sI T 49 4 0) 50 (140 + e) 1) (nI e) 0 0).2) := by
          rw [FMO_close_e, if_neg (en (sI T 49 4 0) t50), i140, t50, if_neg p0, i100, if_pos lt2]
          dsimp only
          rw [s0, if_pos rfl, i260]
        have fq := cl120_1 300 (sL (sI T 49 4 0) 50 (140 + e) 1) (nI e) 0 0
        have fM := fr_FMO_close T (nI e)
        have qM := fq_FMO_close T (nI e)
        rw [e2] at fM qM ⊢
        dsimp only at fM qM ⊢
        generalize (LMO_close_120 300 (sL (sI T 49 4 0) 50 (140 + e) 1) (nI e) 0 0).2 = U at c120 fq fM qM ⊢
        have u780 : ∀ j, j < 780 → U.2 50 j = up5 (S.2 50) (140 + e) 1 j := fun j hj => by
          rw [c120, if_neg (by omega), sL50, sI_2, t50]
        refine ⟨⟨?_, fun _ => ?_⟩, Rj_step hJ fT (by decide) fM (by decide) qM ⟨n, Qfin fM ⟨Rk_M u780 kR, fun e' r' he' h6 hc hu => ?_⟩⟩⟩
        · rw [fq, sL_1, sI_1, if_pos ⟨rfl, rfl⟩]
        · rw [congrFun (fM 52 (by decide)).2 0, u52, u780 _ (by omega), up5_n (by omega)]
          congr 1
          apply Int32.toInt_inj.mp
          rw [ti_32 hrM (by omega) (by omega), nI_toInt (by omega)]
        · by_cases z : e' = e
          · subst z
            rw [tr13] at hc
            have r'r : r' < r := by
              rw [← cr] at hc
              omega
            rw [c120, if_pos (by omega), show 780 + (6 * e' + r') - (780 + 6 * e') = r' by omega, if_pos (decide_eq_true ⟨by rw [tr13]; exact hc, hu⟩), show 780 + (6 * e' + r') - 240 = 540 + (6 * e' + r') by omega, up5_n (by omega), (q.1.2.2.2.1 e' r' he h6 hc).2.1.1]
            have old : S.2 17 (6 * e' + r') = -1 := (q.1.2.2.2.1 e' r' he h6 hc).2.2.2 (fun z => by
              rcases z.1 with z | z
              · rw [c2] at z; exact absurd z (by decide)
              · rw [c2] at z; exact absurd z (by decide))
            rw [u17] at hu ⊢
            by_cases y : 6 * e' ≤ 6 * e' + r' ∧ 6 * e' + r' < 6 * e' + r ∧ 0 < S.2 16 (6 * e' + r') ∧ ¬ FAC_hasHousehold S (S.1 15 (6 * e' + r')) = 0
            · rw [if_pos y]
            · rw [if_neg y] at hu
              exact absurd old hu
          · have c13 : T.1 13 e' = S.1 13 e' := congrFun (fT 13 (by decide)).1 e'
            rw [c13] at hc
            have v17 : T.2 17 (6 * e' + r') = S.2 17 (6 * e' + r') := by rw [u17, if_neg (by omega)]
            rw [v17] at hu ⊢
            rw [c120, if_neg (by omega), sL50, up5_n (by omega), sI_2, t50]
            exact q.2 e' r' he' h6 hc hu
      · -- it throws
        have nt : ¬ NT S (nI e) := fun z => by
          rcases z with z | z | z
          · exact op' z
          · exact uc z
          · exact c4 z
        rw [FLA_1 nt]
        dsimp only
        have s0 := hsm (sI S 49 4 0) rfl
        rw [← hs] at s0
        have e2 : FMO_close S (nI e) = (0, sI (sI S 49 4 0) 49 4 1) := by
          rw [FMO_close_e, if_neg (en (sI S 49 4 0) rfl), i140, if_neg p0, i100, if_pos c3]
          dsimp only
          rw [s0, if_neg c4]
        rw [e2]
        refine ⟨⟨?_, fun z => absurd z (by decide)⟩, Rj_other (ks := []) (ks' := [49]) hJ Same.rf (by decide) (Same.i (Same49 S) (by decide)) (by decide) (Sm.i (Sm.i Sm.rf (Or.inr (by decide))) (Or.inr (by decide))) Mj.rf.i.i⟩
        rw [sI_1, if_pos ⟨rfl, rfl⟩]
    · rw [if_neg c3] at late
      have uc : FBO_isUnclosedDay S ((S.1 11 (nI e).toNatClampNeg).toInt64) = 0 := by
        rw [nI_clamp (by omega), ed]
        exact late
      refine no (by rw [FHL_close_e, if_neg op', if_pos uc]) (Or.inr (Or.inl uc)) ?_
      have l2 : ¬ FMO_isLate (sI (sL S 52 0 (-1 : Int32).toInt64) 49 4 0) (S.2 50 (100 + e)) = 0 := by
        rw [lateM (S := sI S 49 4 0) (S' := sI (sL S 52 0 (-1 : Int32).toInt64) 49 4 0) s52]
        exact c3
      rw [FMO_close_e, if_neg (en (sI (sL S 52 0 (-1 : Int32).toInt64) 49 4 0) s52), i140, s52, if_neg p0, i100, if_neg l2]
  · have pp : 0 < S.2 50 (140 + e) := Classical.not_not.mp (fun z => c2 (so.1.mpr z))
    rw [if_neg c2] at op
    exact no (by rw [FHL_close_e, if_pos op]) (Or.inl op) (by rw [FMO_close_e, if_neg (en (sI (sL S 52 0 (-1 : Int32).toInt64) 49 4 0) s52), i140, s52, if_pos pp])
/-! payment -/
theorem cash_L {S S' : hS} (hR : Ra S.1 (S.2 50)) (h : S'.2 50 = S.2 50) {c : Nat} (hc : S.1 2 0 = nI c) (c8 : c ≤ 8) (x1 : Int32) (x2 x4 : Int64) : ∀ (k f g i : Nat), i + k = c → k < f → k < g → ∃ j, j ≤ c ∧ LMO_payment_8 f S' x1 x2 x4 (nI i) = nI j ∧ LAC_firstCash_2 g S (nI i) = (if j < c then .inl (nI j) else .inr (nI j))
  | k, 0, g, i, _, h1, _ => absurd h1 (Nat.not_lt_zero _)
  | k, f + 1, 0, i, _, _, h2 => absurd h2 (Nat.not_lt_zero _)
  | 0, f + 1, g + 1, i, hi, _, _ => by
    have a := has_eq hR h (nI i)
    have hz : FAC_has S (nI i) = 0 := by rw [FAC_has_e, if_neg (nI_pos (by omega)), hc, if_pos (nI_le (by omega) (by omega))]
    rw [hz] at a
    refine ⟨i, by omega, ?_, ?_⟩
    · rw [LMO_payment_8_s, if_pos a.symm]
    · rw [LAC_firstCash_2_s, hc, if_pos (nI_le (by omega) (by omega)), if_neg (by omega)]
  | k + 1, f + 1, g + 1, i, hi, hf, hg => by
    have a := has_eq hR h (nI i)
    have hz : FAC_has S (nI i) = 1 := by rw [FAC_has_e, if_neg (nI_pos (by omega)), hc, if_neg (nI_ge (by omega) (by omega))]
    rw [hz] at a
    have kk := hR.2.2.1 i (by omega) (by rw [hc, nI_toInt (by omega)]; omega)
    have i10 : (10 + nI i).toNatClampNeg = 10 + i := ixC (c := 10) 10 rfl (by omega) (by omega)
    have kz : S.1 3 i = 0 ↔ S.2 50 (10 + i) = 0 := by rw [← Int32.toInt_inj, ← Int64.toInt_inj, kk, tl_0, tq_0]
    rw [LMO_payment_8_s, if_neg (by rw [← a]; decide), i10, h, LAC_firstCash_2_s, hc, if_neg (nI_ge (by omega) (by omega)), nI_clamp (by omega), nI_1]
    by_cases d : S.1 3 i = 0
    · rw [if_pos d, if_pos (kz.mp d)]
      exact ⟨i, by omega, rfl, by rw [if_pos (by omega)]⟩
    · rw [if_neg d, if_neg (fun z => d (kz.mpr z))]
      exact cash_L hR h hc c8 x1 x2 x4 k f g (i + 1) (by omega) (by omega) (by omega)
theorem cash_eq {S S' : hS} (hI : wfC S) (hR : Ra S.1 (S.2 50)) (h : S'.2 50 = S.2 50) (x1 : Int32) (x2 x4 : Int64) : (FAC_firstCash S = -1 ∧ FMO_isAccount S' (LMO_payment_8 300 S' x1 x2 x4 0) = 0) ∨ (∃ j : Nat, FAC_firstCash S = nI j ∧ LMO_payment_8 300 S' x1 x2 x4 0 = nI j ∧ (j : Int) < (S.1 2 0).toInt ∧ j < 8) := by
  have hc := hI.1
  unfold bt at hc
  have cl := cl_toInt hc.1
  have e := nI_cl hc.1
  generalize (S.1 2 0).toNatClampNeg = c at cl e
  obtain ⟨j, h1, h2, h3⟩ := cash_L hR h e.symm (by omega) x1 x2 x4 c 300 300 0 (by omega) (by omega) (by omega)
  rw [nI_0] at h2 h3
  rw [FAC_firstCash_e, h3, h2]
  by_cases d : j < c
  · rw [if_pos d]
    exact Or.inr ⟨j, rfl, rfl, by omega, by omega⟩
  · rw [if_neg d]
    refine Or.inl ⟨rfl, ?_⟩
    rw [← has_eq hR h (nI j), FAC_has_e, if_neg (nI_pos (by omega)), ← e, if_pos (nI_le (by omega) (by omega))]
theorem pay_no {S : hS} {x1 : Int32} {x2 x4 : Int64} (h : FMO_isIn (sI S 49 4 0) x2 1 100000000 = 0 ∨ FMO_isDay (sI S 49 4 0) x4 = 0 ∨ ¬ FMO_isLate (sI S 49 4 0) x4 = 0 ∨ FMO_isAccount (sI S 49 4 0) (LMO_payment_8 300 (sI S 49 4 0) x1 x2 x4 0) = 0 ∨ S.2 50 1 = 40) : FMO_payment S x1 x2 x4 = (-1, sI S 49 4 0) := by
  rw [FMO_payment_e]
  dsimp only
  by_cases c1 : FMO_isIn (sI S 49 4 0) x2 1 100000000 = 0
  · rw [if_pos c1]
  rw [if_neg c1]
  by_cases c2 : FMO_isDay (sI S 49 4 0) x4 = 0
  · rw [if_pos c2]
  rw [if_neg c2]
  by_cases c3 : FMO_isLate (sI S 49 4 0) x4 = 0
  · rw [if_pos c3]
    by_cases c4 : FMO_isAccount (sI S 49 4 0) (LMO_payment_8 300 (sI S 49 4 0) x1 x2 x4 0) = 0
    · rw [if_pos c4]
    rw [if_neg c4]
    by_cases c5 : S.2 50 1 = 40
    · rw [if_pos c5]
    · rcases h with h | h | h | h | h
      · exact absurd h c1
      · exact absurd h c2
      · exact absurd c3 h
      · exact absurd h c4
      · exact absurd h c5
  · rw [if_neg c3]
theorem Lc_cg {C C' : Nat → Nat → Int32} {L L' : Nat → Nat → Int64} {n : Nat} {a : Int32} (h14 : C' 14 = C 14) (h13 : C' 13 = C 13) (h15 : C' 15 = C 15) (h : ∀ s, (L' 17 s = -1 ↔ L 17 s = -1)) : LcC C' L' n a = LcC C L n a := by
  unfold LcC LpC
  rw [slt_cg h14, itm_cg h13 h15 h]
theorem pay_m1 {l : List Nat} {r : Int64} {d : Nat → Int64} {s : Nat} : payL l r d s = -1 ↔ d s = -1 := by
  rcases payL_bd l r d s with h | h
  · rw [h]
  · exact ⟨fun z => absurd z (not_m1 h.2.1), fun z => absurd z (not_m1 (by omega))⟩
/-- a payment that finds its household: the journals behind it -/
theorem Q_payment {S T1 T2 T3 : hS} (hI : I0 S) (hR : Rl S) {n cash : Nat} (q : Q n S.1 S.2 (S.2 50)) (hn : n < 40) (x1 : Int32) (x2 x4 : Int64) (hx2 : 1 ≤ x2.toInt ∧ x2.toInt ≤ 100000000) (hx4 : 0 ≤ x4.toInt ∧ x4.toInt ≤ 3599) (hc : (cash : Int) < (S.1 2 0).toInt ∧ cash < 8) (hx1 : 0 ≤ x1.toInt ∧ x1.toInt < (S.1 2 0).toInt)
    (f1 : Same [10, 11, 12, 13, 14] S T1) (t10 : T1.1 10 0 = nI (n + 1)) (t11 : ∀ j, T1.1 11 j = if j = n then x4.toInt32 else S.1 11 j) (t12 : ∀ j, T1.1 12 j = if j = n then 2 else S.1 12 j) (t13 : ∀ j, T1.1 13 j = if j = n then 0 else S.1 13 j) (tB : BD T1.1 (n + 1))
    (f2 : Same [13, 15, 16, 17] T1 T2) (u13 : ∀ j, T2.1 13 j = if j = n then nI 1 else T1.1 13 j) (u15 : ∀ j, T2.1 15 j = if j = 6 * n then nI cash else T1.1 15 j) (u16 : ∀ j, T2.2 16 j = if j = 6 * n then x2 else T1.2 16 j) (u17 : ∀ j, T2.2 17 j = if j = 6 * n then -1 else T1.2 17 j)
    (f3 : Same [13, 15, 16, 17] T2 T3) (v13 : ∀ j, T3.1 13 j = if j = n then nI 2 else T2.1 13 j) (v15 : ∀ j, T3.1 15 j = if j = 6 * n + 1 then x1 else T2.1 15 j) (v16 : ∀ j, T3.2 16 j = if j = 6 * n + 1 then -x2 else T2.2 16 j) (v17 : ∀ j, T3.2 17 j = if j = 6 * n + 1 then -1 else T2.2 17 j)
    {M : Nat → Int64} (m1 : (M 1).toInt = (n : Int) + 1) (m100 : M (100 + n) = x4) (m140 : M (140 + n) = 1) (m180 : M (180 + n) = 1) (m220 : M (220 + n) = 0) (m260 : (M (260 + n)).toInt = 2) (m300 : (M (300 + 6 * n)).toInt = (cash : Int)) (m301 : M (300 + (6 * n + 1)) = x1.toInt64) (m540 : M (540 + 6 * n) = x2) (m541 : M (540 + (6 * n + 1)) = -x2) (mM : ∀ j, j ≠ 1 → j ≠ 100 + n → j ≠ 140 + n → j ≠ 180 + n → j ≠ 260 + n → j ≠ 300 + 6 * n → j ≠ 300 + (6 * n + 1) → j ≠ 540 + 6 * n → j ≠ 540 + (6 * n + 1) → M j = S.2 50 j) : Q (n + 1) T3.1 T3.2 M := by
  have c13 : ∀ j, T3.1 13 j = if j = n then nI 2 else S.1 13 j := fun j => by
    rw [v13, u13, t13]
    by_cases w : j = n
    · rw [if_pos w, if_pos w]
    · rw [if_neg w, if_neg w, if_neg w, if_neg w]
  have c15 : ∀ j, j ≠ 6 * n → j ≠ 6 * n + 1 → T3.1 15 j = S.1 15 j := fun j a b => by rw [v15, if_neg b, u15, if_neg a, congrFun (f1 15 (by decide)).1 j]
  have c16 : ∀ j, j ≠ 6 * n → j ≠ 6 * n + 1 → T3.2 16 j = S.2 16 j := fun j a b => by rw [v16, if_neg b, u16, if_neg a, congrFun (f1 16 (by decide)).2 j]
  have c17 : ∀ j, j ≠ 6 * n → j ≠ 6 * n + 1 → T3.2 17 j = S.2 17 j := fun j a b => by rw [v17, if_neg b, u17, if_neg a, congrFun (f1 17 (by decide)).2 j]
  have g : ∀ a, a ∉ [13, 15, 16, 17] → T3.1 a = T1.1 a := fun a ha => (f3 a ha).1.trans (f2 a ha).1
  have g2 : ∀ a, a ∉ [10, 11, 12, 13, 14, 15, 16, 17] → T3.1 a = S.1 a := fun a ha => (g a (fun z => ha (by revert z; simp; omega))).trans (f1 a (fun z => ha (by revert z; simp; omega))).1
  have c2 : T3.1 2 = S.1 2 := g2 2 (by decide)
  have c3 : T3.1 3 = S.1 3 := g2 3 (by decide)
  have e2 : (nI 2 : Int32).toInt = 2 := by decide
  have nx2 : (-x2).toInt = -x2.toInt := by
    rw [show -x2 = 0 - x2 by rw [Int64.zero_sub], tj_sub tq_0 rfl (by omega) (by omega)]
    omega
  have w2 : T3.1 12 n = 2 := by rw [congrFun (g 12 (by decide)) n, t12, if_pos rfl]
  have noit : ∀ (k : Int32) (c : Int64), ¬ itP 2 k c := fun k c z => by
    rcases z.1 with z | z <;> exact absurd z (by decide)
  refine ⟨Rk_add q.1 hn (by rw [congrFun (g 10 (by decide)) 0]; exact t10) (congrFun c2 0) (fun k => congrFun c3 k) (fun e he => ⟨by rw [congrFun (g 11 (by decide)) e, t11, if_neg (by omega)], by rw [congrFun (g 12 (by decide)) e, t12, if_neg (by omega)], by rw [c13, if_neg (by omega)]⟩) (fun s hs => ⟨c15 s (by omega) (by omega), c16 s (by omega) (by omega), c17 s (by omega) (by omega)⟩) m1 (fun j a b d1 d2 d3 d4 d5 d6 d7 => mM j (by omega) d1 d2 d3 d5 (by omega) (by omega) (by omega) (by omega)) ?_ (fun r hr hc' => ?_) (BD_of (by omega) (fun k _ => congrFun (g 11 (by decide)) k) (fun k _ => congrFun (g 14 (by decide)) k) tB), Rd_add q.2 (fun e he => by rw [c13, if_neg (by omega)]) (fun s hs => ⟨c17 s (by omega) (by omega), mM _ (by omega) (by omega) (by omega) (by omega) (by omega) (by omega) (by omega) (by omega) (by omega)⟩) (fun r hr hc' => ?_)⟩
  · rw [congrFun (g 11 (by decide)) n, t11, if_pos rfl, w2, c13, if_pos rfl, m100, m140, m180, m220]
    exact ⟨ti_32 rfl (by omega) (by omega), by rw [ti_32 rfl (by omega) (by omega)]; exact hx4, ⟨by rw [e2, m260], by decide, by decide⟩, Or.inr (Or.inr (Or.inl ⟨rfl, rfl, rfl, rfl⟩))⟩
  · rw [c13, if_pos rfl, e2] at hc'
    rw [w2]
    by_cases z : r = 0
    · subst z
      rw [Nat.add_zero, v15, if_neg (by omega), u15, if_pos rfl, v16, if_neg (by omega), u16, if_pos rfl, v17, if_neg (by omega), u17, if_pos rfl, congrFun c2 0, m540]
      refine ⟨⟨by rw [nI_toInt (by omega)]; omega, by rw [nI_toInt (by omega)]; exact hc.1, by rw [nI_toInt (by omega)]; exact m300⟩, ⟨rfl, fun y => ?_, by omega, by omega⟩, fun y => absurd y (noit _ _), fun _ => rfl⟩
      rw [y, tq_0] at hx2
      omega
    · have z1 : r = 1 := by omega
      subst z1
      rw [v15, if_pos rfl, v16, if_pos rfl, v17, if_pos rfl, congrFun c2 0, m541, m301]
      refine ⟨⟨hx1.1, hx1.2, l32 x1⟩, ⟨rfl, fun y => ?_, by omega, by omega⟩, fun y => absurd y (noit _ _), fun _ => rfl⟩
      rw [y, tq_0] at nx2
      omega
  · rw [c13, if_pos rfl, e2] at hc'
    rw [v17]
    by_cases z : r = 0
    · subst z
      rw [Nat.add_zero, if_neg (by omega), u17, if_pos rfl]
    · rw [if_pos (by omega)]
theorem q_payment {S : hS} (hI : I0 S) (hR : Rl S) (hJ : Rj S) (x1 : Int32) (x2 x4 : Int64) : (FHL_payment S x1 x2 x4).1 = (FMO_payment (FHL_payment S x1 x2 x4).2 x1 x2 x4).1 ∧ Rj (FMO_payment (FHL_payment S x1 x2 x4).2 x1 x2 x4).2 := by
  obtain ⟨n, q⟩ := hJ.1
  have h0 := q.1.1.1
  have hn := q.1.1.2.1
  have h1 := q.1.1.2.2.1
  have f40 := full_eq h0 hn
  have m40 := full_M h1 hn
  have no : FHL_payment S x1 x2 x4 = (-1, S) → FMO_payment S x1 x2 x4 = (-1, sI S 49 4 0) → (FHL_payment S x1 x2 x4).1 = (FMO_payment (FHL_payment S x1 x2 x4).2 x1 x2 x4).1 ∧ Rj (FMO_payment (FHL_payment S x1 x2 x4).2 x1 x2 x4).2 := fun a b => by
    rw [a]
    dsimp only
    rw [b]
    exact ⟨rfl, Rj_fault hJ⟩
  have e8 : (100000000 : Int64).toInt = 100000000 := by decide
  by_cases c1 : x2 < 1
  · exact no (by rw [FHL_payment_e, if_pos c1]) (pay_no (Or.inl (by rw [FMO_isIn_e, if_pos c1])))
  by_cases c2 : 100000000 < x2
  · exact no (by rw [FHL_payment_e, if_neg c1, if_pos c2]) (pay_no (Or.inl (by rw [FMO_isIn_e, if_neg c1, if_pos c2])))
  have hx2 : 1 ≤ x2.toInt ∧ x2.toInt ≤ 100000000 := by
    rw [Int64.lt_iff_toInt_lt, tq_1] at c1
    rw [Int64.lt_iff_toInt_lt, e8] at c2
    omega
  have isn : ∀ T : hS, ¬ FMO_isIn T x2 1 100000000 = 0 := fun T => by
    rw [FMO_isIn_e, if_neg c1, if_neg c2]
    decide
  have late := late_eq (S' := sI S 49 4 0) hR.2.1 rfl x4
  by_cases c3 : FMO_isDay (sI S 49 4 0) x4 = 0
  · exact no (by rw [FHL_payment_e, if_neg c1, if_neg c2, late, if_pos c3, if_pos rfl]) (pay_no (Or.inr (Or.inl c3)))
  rw [if_neg c3] at late
  by_cases c4 : FMO_isLate (sI S 49 4 0) x4 = 0
  · rw [if_pos c4] at late
    have uc : ¬ FBO_isUnclosedDay S x4 = 0 := by rw [late]; decide
    have dr := isDay_r (S := S) (d := x4) (by rw [isDay_eq S (sI S 49 4 0) x4]; exact c3)
    rcases cash_eq (S' := sI S 49 4 0) hI.1 hR.2.1 rfl x1 x2 x4 with ⟨a, b⟩ | ⟨cash, a, b, cn, c8⟩
    · exact no (by rw [FHL_payment_e, if_neg c1, if_neg c2, if_neg uc, if_pos a]) (pay_no (Or.inr (Or.inr (Or.inr (Or.inl b)))))
    have ca : ¬ FAC_firstCash S = -1 := by
      rw [a]
      intro z
      have := congrArg Int32.toInt z
      rw [nI_toInt (by omega), tl_m1] at this
      omega
    by_cases c5 : n < 40
    · have nf := f40.mpr c5
      have n40 : ¬ S.2 50 1 = 40 := fun z => m40.mp z c5
      have ia : ∀ T : hS, T.2 50 = S.2 50 → ¬ FMO_isAccount T (nI cash) = 0 := fun T h => by
        rw [← has_eq (S' := T) hR.2.1 h (nI cash), FAC_has_e, if_neg (nI_pos (by omega)), if_neg (by rw [Int32.le_iff_toInt_le, nI_toInt (by omega)]; omega)]
        decide
      have cM : ∀ T : hS, T.2 50 = S.2 50 → LMO_payment_8 300 T x1 x2 x4 0 = nI cash := fun T h => by
        rcases cash_eq (S' := T) hI.1 hR.2.1 h x1 x2 x4 with ⟨a', _⟩ | ⟨j, a', b', _, j8⟩
        · exact absurd a' ca
        · rw [b', ← a', a]
      have hh := fun (T : hS) (h : T.2 50 = S.2 50) => hh_eq (S' := T) hI.1 hR.2.1 h x1
      by_cases c6 : FAC_hasHousehold S x1 = 0
      · -- found money
        have e1 : FHL_payment S x1 x2 x4 = (-1, FBO_keepFound S x2) := by
          rw [FHL_payment_e, if_neg c1, if_neg c2, if_neg uc, if_neg ca, if_pos nf, if_pos c6]
        have fk : Same [1, 24] S (FBO_keepFound S x2) := by
          rw [FBO_keepFound_e]
          split
          · exact Same.rf
          · exact Same.i (Same.l Same.rf (by decide)) (by decide)
        rw [e1]
        dsimp only
        generalize FBO_keepFound S x2 = T at fk ⊢
        have t50 : T.2 50 = S.2 50 := (fk 50 (by decide)).2
        have hb := hI.2.2.1.2.2.2.1
        have e32 := t32 hb.1 hb.2 (by omega)
        have r : (FMO_payment T x1 x2 x4).1 = -1 ∧ Mj T (FMO_payment T x1 x2 x4).2 := by
          rw [FMO_payment_e]
          dsimp only
          rw [cM _ (show (sI T 49 4 0).2 50 = S.2 50 from t50), if_neg (isn _), dayM (sI T 49 4 0) (sI S 49 4 0), if_neg c3, lateM (S := sI S 49 4 0) (S' := sI T 49 4 0) t50, if_pos c4, if_neg (ia (sI T 49 4 0) t50), t50, if_neg n40, ← hh (sI T 49 4 0) t50, if_pos c6]
          by_cases z : 20 ≤ S.2 50 4
          · rw [if_pos z]
            exact ⟨rfl, Mj.rf.i⟩
          · rw [if_neg z]
            exact ⟨rfl, (Mj_at 1200 Mj.rf.i (by decide) (by rw [e32]; omega) (by rw [e32]; rw [Int64.le_iff_toInt_le, tq_20] at z; omega) (by omega)).l (by omega)⟩
        exact ⟨r.1.symm, Rj_other hJ fk (by decide) (fr_FMO_payment T x1 x2 x4) (by decide) (fq_FMO_payment T x1 x2 x4) r.2⟩
      · -- a payment
        obtain ⟨k8, kn, ke⟩ := has_lt hI.1 (hh_has c6)
        obtain ⟨y, T1, eT, hy, f1, t10, _, t11, t12, t13, tB⟩ := add_eff hI.1 x4.toInt32 2 h0 c5
        obtain ⟨T2, e2, f2, u13, u15, u16, u17⟩ := addRow_eff (S := T1) (n := n + 1) (e := n) (r := 0) t10 (by omega) (by omega) (by rw [t13, if_pos rfl, nI_0]) (by omega) (nI cash) x2
        have t10' : T2.1 10 0 = nI (n + 1) := by rw [congrFun (f2 10 (by decide)).1 0]; exact t10
        obtain ⟨T3, e3, f3, v13, v15, v16, v17⟩ := addRow_eff (S := T2) (n := n + 1) (e := n) (r := 1) t10' (by omega) (by omega) (by rw [u13, if_pos rfl]) (by omega) x1 (-x2)
        rw [Nat.add_zero] at u15 u16 u17
        have t10'' : T3.1 10 0 = nI (n + 1) := by rw [congrFun (f3 10 (by decide)).1 0]; exact t10'
        have w1 : wfC T1 := by have := (wf_add hI.1 x4.toInt32 2).1; rw [eT] at this; exact this
        have w2 : wfC T2 := by have := wf_addRow w1 (nI n) (nI cash) x2; rw [e2] at this; exact this
        have w3 : wfC T3 := by have := wf_addRow w2 (nI n) x1 (-x2); rw [e3] at this; exact this
        have e1 : FHL_payment S x1 x2 x4 = (nI n, FJO_payItems T3 (nI n) x1 x2) := by
          rw [FHL_payment_e, if_neg c1, if_neg c2, if_neg uc, if_neg ca, if_pos nf, if_neg c6, eT]
          dsimp only
          rw [a, e2]
          dsimp only
          rw [e3]
        have fP := fr_FHL_payment S x1 x2 x4
        have p17 := payItems_C w3 (nI n) x1 x2 t10'' (by omega)
        have pf := payItems_f T3 (nI n) x1 x2
        have f4 := fr_FJO_payItems T3 (nI n) x1 x2
        rw [e1] at fP ⊢
        dsimp only at fP ⊢
        generalize FJO_payItems T3 (nI n) x1 x2 = T4 at fP p17 pf f4 ⊢
        have t50 : T4.2 50 = S.2 50 := (fP 50 (by decide)).2
        have hz := q.1.2.2.1 n (Nat.le_refl _) c5
        -- the reference's array ahead of its loop
        have a1 := addEntry_M (S := sI T4 49 4 0) (n := n) (by rw [sI_2, t50]; exact h1) c5 x4 1
        have a1' : FMO_addEntry (sI T4 49 4 0) x4 1 = (nI n, (FMO_addEntry (sI T4 49 4 0) x4 1).2) := by rw [← a1.1]
        have a1M := a1.2
        rw [sI_2, t50] at a1M
        generalize (FMO_addEntry (sI T4 49 4 0) x4 1).2 = U1 at a1' a1M
        have b260 : U1.2 50 (260 + n) = 0 := by rw [a1M, up5_n (by omega), up5_n (by omega), up5_n (by omega)]; exact hz.2.2
        have a2 := addRow_M (S := U1) (e := n) (r := 0) (by omega) (by rw [b260]; decide) (by omega) (nI cash) x2
        generalize hU2 : FMO_addRow U1 (nI n) (nI cash) x2 = U2 at a2
        have b260' : U2.2 50 (260 + n) = 1 := by rw [a2, up5_e, b260]; decide
        have a3 := addRow_M (S := U2) (e := n) (r := 1) (by omega) (by rw [b260']; decide) (by omega) x1 (-x2)
        generalize hU3 : FMO_addRow U2 (nI n) x1 (-x2) = U3 at a3
        have M4 := sL50 U3 (140 + n) 1
        generalize hU4 : sL U3 50 (140 + n) 1 = U4 at M4
        have fM := fr_FMO_payment T4 x1 x2 x4
        have qM := fq_FMO_payment T4 x1 x2 x4
        have i140 : (140 + nI n).toNatClampNeg = 140 + n := ixC (c := 140) 140 rfl (by omega) (by omega)
        have eM : FMO_payment T4 x1 x2 x4 = (nI n, (LMO_payment_185 300 U4 x1 x2 x4 (nI cash) (nI n) x2 0).2.2) := by
          rw [FMO_payment_e]
          dsimp only
          rw [cM _ (show (sI T4 49 4 0).2 50 = S.2 50 from t50), if_neg (isn _), dayM (sI T4 49 4 0) (sI S 49 4 0), if_neg c3, lateM (S := sI S 49 4 0) (S' := sI T4 49 4 0) t50, if_pos c4, if_neg (ia (sI T4 49 4 0) t50), t50, if_neg n40, ← hh (sI T4 49 4 0) t50, if_neg c6, a1']
          dsimp only
          rw [hU2, hU3, i140, hU4]
        have m3 : ∀ j, U4.2 50 j = up5 (up5 (up5 (up5 (U2.2 50) (300 + (6 * n + 1)) x1.toInt64) (540 + (6 * n + 1)) (-x2)) (260 + n) (U2.2 50 (260 + n) + 1)) (140 + n) 1 j := fun j => by rw [M4, a3]
        have m2 : ∀ j, j ≠ 140 + n → j ≠ 260 + n → j ≠ 300 + (6 * n + 1) → j ≠ 540 + (6 * n + 1) → U4.2 50 j = up5 (up5 (U1.2 50) (300 + 6 * n) (nI cash).toInt64) (540 + 6 * n) x2 j := fun j b1 b2 b3 b4 => by
          rw [m3, up5_n b1, up5_n b2, up5_n b4, up5_n b3, a2, up5_n b2]
          rw [Nat.add_zero]
        have q3 : Q (n + 1) T3.1 T3.2 (U4.2 50) := by
          refine Q_payment hI hR q c5 x1 x2 x4 hx2 dr (cash := cash) ⟨cn, c8⟩ ⟨by omega, by omega⟩ f1 t10 t11 t12 t13 (tB q.1.2.2.2.2) f2 u13 u15 u16 u17 f3 v13 v15 v16 v17 ?_ ?_ ?_ ?_ ?_ ?_ ?_ ?_ ?_ ?_ (fun j d1 d2 d3 d4 d5 d6 d7 d8 d9 => ?_)
          · rw [m2 1 (by omega) (by omega) (by omega) (by omega), up5_n (by omega), up5_n (by omega), a1M, up5_e, tj_add rfl tq_1 (by omega) (by omega), h1]
          · rw [m2 _ (by omega) (by omega) (by omega) (by omega), up5_n (by omega), up5_n (by omega), a1M, up5_n (by omega), up5_n (by omega), up5_e]
          · rw [m3, up5_e]
          · rw [m2 _ (by omega) (by omega) (by omega) (by omega), up5_n (by omega), up5_n (by omega), a1M, up5_n (by omega), up5_e]
            decide
          · rw [m2 _ (by omega) (by omega) (by omega) (by omega), up5_n (by omega), up5_n (by omega), a1M, up5_n (by omega), up5_n (by omega), up5_n (by omega)]
            exact hz.2.1
          · rw [m3, up5_n (by omega), up5_e, b260']
            decide
          · rw [m2 _ (by omega) (by omega) (by omega) (by omega), up5_n (by omega), up5_e, l32, nI_toInt (by omega)]
          · rw [m3, up5_n (by omega), up5_n (by omega), up5_n (by omega), up5_e]
          · rw [m2 _ (by omega) (by omega) (by omega) (by omega), up5_e]
          · rw [m3, up5_n (by omega), up5_n (by omega), up5_e]
          · rw [m2 _ d3 d5 d7 d9, up5_n d8, up5_n d6, a1M, up5_n d1, up5_n d4, up5_n d2]
        -- dues behind the class's loop
        have g : ∀ a, a ∉ [10, 17, 18, 19] → T4.1 a = T3.1 a := fun a ha => (f4 a ha).1
        have kR3 : Rk (n + 1) T3.1 T4.2 (U4.2 50) := Rk_pay q3.1 (fun s => congrFun (pf.1 16 (by decide)) s) (fun s => by
          rw [p17]
          rcases payL_bd (LcC T3.1 T3.2 (n + 1) x1) x2 (T3.2 17) s with h | h
          · exact Or.inl h
          · exact Or.inr h.2)
        have kR4 : Rk (n + 1) T4.1 T4.2 (U4.2 50) := Rk_pt (congrFun (g 2 (by decide)) 0) pf.2 (fun j _ => congrFun (g 3 (by decide)) j) (fun j _ => congrFun (g 11 (by decide)) j) (fun j _ => congrFun (g 12 (by decide)) j) (fun j _ => congrFun (g 13 (by decide)) j) (fun j _ => congrFun (g 14 (by decide)) j) (fun j _ => congrFun (g 15 (by decide)) j) (fun _ _ => rfl) (fun _ _ => rfl) (fun _ _ => rfl) kR3
        have m17 : ∀ s, (T4.2 17 s = -1 ↔ T3.2 17 s = -1) := fun s => by
          rw [p17]
          exact pay_m1
        have lc : LcC T4.1 T4.2 (n + 1) x1 = LcC T3.1 T3.2 (n + 1) x1 := Lc_cg (g 14 (by decide)) (g 13 (by decide)) (g 15 (by decide)) m17
        have raM : ∀ S' : hS, (∀ j, j < 780 → S'.2 50 j = U4.2 50 j) → Ra T4.1 (S'.2 50) := fun S' h => by
          refine Ra_of (congrFun (fP 2 (by decide)).1 0) ?_ (fun k _ => congrFun (fP 3 (by decide)).1 k) (fun k _ => congrFun (fP 8 (by decide)).1 k) (fun k _ => congrFun (fP 9 (by decide)).1 k) (fun j hj => ?_) hR.2.1
          · rw [congrFun (g 1 (by decide)) 5, congrFun (f3 1 (by decide)).1 5, congrFun (f2 1 (by decide)).1 5, congrFun (f1 1 (by decide)).1 5]
          · have := Pm_lt hj
            rw [h j (by omega), m2 j (by omega) (by omega) (by omega) (by omega), up5_n (by omega), up5_n (by omega), a1M, up5_n (by omega), up5_n (by omega), up5_n (by omega)]
        have hB3 := q3.1.2.2.2.2
        have p185 := pay185 x1 x2 x4 (nI cash) (e := n) (by omega) (LcC T3.1 T3.2 (n + 1) x1) (Lc_len (by omega) x1) (fun s hs => by
          have := ((Lc_mem hB3).mp hs).1
          omega) (List.Pairwise.filter _ (pw_nodup (Lp_pw hB3))) (U4.2 50) (fun S' h x => by
          rw [← lc]
          exact itemAt_M (raM S' h) (Rk_M h kR4) x1 x) (LcC T3.1 T3.2 (n + 1) x1).length 300 0 U4 x2 (by omega) (by have := Lc_len (C := T3.1) (L := T3.2) (n := n + 1) (by omega) x1; omega) (fun _ _ => rfl)
        rw [nI_0, List.drop_zero] at p185
        rw [eM] at fM qM ⊢
        dsimp only at fM qM ⊢
        generalize (LMO_payment_185 300 U4 x1 x2 x4 (nI cash) (nI n) x2 0).2.2 = U5 at p185 fM qM ⊢
        refine ⟨rfl, Rj_step hJ fP (by decide) fM (by decide) qM ⟨n + 1, Qfin fM ⟨Rk_M (fun j hj => p185.2 j (Or.inl hj)) kR4, fun e r he hr hc hu => ?_⟩⟩⟩
        rw [congrFun (g 13 (by decide)) e] at hc
        have hu3 : ¬ T3.2 17 (6 * e + r) = -1 := fun z => hu ((m17 _).mpr z)
        rw [p185.1 _ (by omega), p17]
        refine payL_cg _ _ _ _ _ (fun t ht => ?_) (q3.2 e r he hr hc hu3)
        obtain ⟨tn, ti⟩ := (Lc_mem hB3).mp ht
        unfold itmC at ti
        have ti := of_decide_eq_true ti
        have et : 6 * (t / 6) + t % 6 = t := by omega
        have := q3.2 (t / 6) (t % 6) tn (by omega) ti.1
        rw [et] at this
        exact this ti.2.2
    · exact no (by rw [FHL_payment_e, if_neg c1, if_neg c2, if_neg uc, if_neg ca, if_neg (fun z => c5 (f40.mp z))]) (pay_no (Or.inr (Or.inr (Or.inr (Or.inr (m40.mpr c5))))))
  · rw [if_neg c4] at late
    exact no (by rw [FHL_payment_e, if_neg c1, if_neg c2, if_pos late]) (pay_no (Or.inr (Or.inr (Or.inl c4))))
/-! reverse -/
theorem rev41 (S : hS) (x1 x2 : Int32) {m : Nat} (hm : m ≤ 240) : ∀ (k f s : Nat), s + k = m → k < f → (Sum.elim (fun q => q) (fun (qq : Int32) => (fun (y16_4 : Int32) => 1) qq) (LJO_isReversible_41 f S x1 x2 (nI m) (nI s)) = 0 ↔ ∃ j, s ≤ j ∧ j < m ∧ ¬ S.2 17 j = -1 ∧ ¬ S.2 17 j = S.2 16 j)
  | k, 0, s, _, h => absurd h (Nat.not_lt_zero _)
  | 0, f + 1, s, hs, _ => by
    rw [LJO_isReversible_41_s, if_pos (nI_le (by omega) (by omega))]
    exact ⟨fun z => absurd (show (1 : Int32) = 0 from z) (by decide), fun ⟨j, a, b, _⟩ => absurd a (by omega)⟩
  | k + 1, f + 1, s, hs, hf => by
    rw [LJO_isReversible_41_s, if_neg (nI_ge (by omega) (by omega)), nI_1, nI_clamp (by omega)]
    have ih := rev41 S x1 x2 hm k f (s + 1) (by omega) (by omega)
    have sk : (S.2 17 s = -1 ∨ S.2 17 s = S.2 16 s) → ((∃ j, s + 1 ≤ j ∧ j < m ∧ ¬ S.2 17 j = -1 ∧ ¬ S.2 17 j = S.2 16 j) ↔ ∃ j, s ≤ j ∧ j < m ∧ ¬ S.2 17 j = -1 ∧ ¬ S.2 17 j = S.2 16 j) := fun z => by
      constructor
      · rintro ⟨j, a, b⟩
        exact ⟨j, by omega, b⟩
      · rintro ⟨j, a, b, c, d⟩
        refine ⟨j, ?_, b, c, d⟩
        by_cases e : j = s
        · rw [e] at c d
          rcases z with z | z
          · exact absurd z c
          · exact absurd z d
        · omega
    by_cases c : S.2 17 s = -1
    · rw [if_pos c]
      exact ih.trans (sk (Or.inl c))
    · rw [if_neg c]
      by_cases d : S.2 17 s = S.2 16 s
      · rw [if_pos d]
        exact ih.trans (sk (Or.inr d))
      · rw [if_neg d]
        exact ⟨fun _ => ⟨s, Nat.le_refl _, by omega, c, d⟩, fun _ => rfl⟩
theorem paid1 {S : hS} {e m : Nat} (he : e < 40) (hc : (S.2 50 (260 + e)).toInt = (m : Int)) (hm : m ≤ 6) : ∀ (k f r : Nat), r + k = m → k < f → (LMO_isPaid_4 f S (nI e) 1 (nI r)).1 = 1
  | k, 0, r, _, h => absurd h (Nat.not_lt_zero _)
  | 0, f + 1, r, hr, _ => by
    rw [LMO_isPaid_4_s, ixC (c := 260) 260 rfl (by omega) (by omega), if_pos (by rw [Int64.le_iff_toInt_le, l32, hc, nI_toInt (by omega)]; omega)]
  | k + 1, f + 1, r, hr, hf => by
    rw [LMO_isPaid_4_s, ixC (c := 260) 260 rfl (by omega) (by omega), if_neg (by rw [Int64.le_iff_toInt_le, l32, hc, nI_toInt (by omega)]; omega), if_neg (by decide), nI_1]
    exact paid1 he hc hm k f (r + 1) (by omega) (by omega)
theorem paid4 {S : hS} {e m : Nat} (he : e < 40) (hc : (S.2 50 (260 + e)).toInt = (m : Int)) (hm : m ≤ 6) : ∀ (k f r : Nat), r + k = m → k < f → ((LMO_isPaid_4 f S (nI e) 0 (nI r)).1 = 0 ↔ ¬ ∃ i, r ≤ i ∧ i < m ∧ ¬ FMO_isItem S (nI e) (nI i) = 0 ∧ ¬ S.2 50 (540 + (6 * e + i)) ≤ S.2 50 (780 + (6 * e + i)))
  | k, 0, r, _, h => absurd h (Nat.not_lt_zero _)
  | 0, f + 1, r, hr, _ => by
    rw [LMO_isPaid_4_s, ixC (c := 260) 260 rfl (by omega) (by omega), if_pos (by rw [Int64.le_iff_toInt_le, l32, hc, nI_toInt (by omega)]; omega)]
    exact ⟨fun _ ⟨i, a, b, _⟩ => absurd a (by omega), fun _ => rfl⟩
  | k + 1, f + 1, r, hr, hf => by
    rw [LMO_isPaid_4_s, ixC (c := 260) 260 rfl (by omega) (by omega), if_neg (by rw [Int64.le_iff_toInt_le, l32, hc, nI_toInt (by omega)]; omega), if_pos rfl, ix6 (c := 540) 540 rfl he (by omega) (by omega), ix6 (c := 780) 780 rfl he (by omega) (by omega), nI_1]
    have ih := paid4 he hc hm k f (r + 1) (by omega) (by omega)
    have sk : (FMO_isItem S (nI e) (nI r) = 0 ∨ S.2 50 (540 + (6 * e + r)) ≤ S.2 50 (780 + (6 * e + r))) → ((¬ ∃ i, r + 1 ≤ i ∧ i < m ∧ ¬ FMO_isItem S (nI e) (nI i) = 0 ∧ ¬ S.2 50 (540 + (6 * e + i)) ≤ S.2 50 (780 + (6 * e + i))) ↔ ¬ ∃ i, r ≤ i ∧ i < m ∧ ¬ FMO_isItem S (nI e) (nI i) = 0 ∧ ¬ S.2 50 (540 + (6 * e + i)) ≤ S.2 50 (780 + (6 * e + i))) := fun z => by
      refine not_congr ?_
      constructor
      · rintro ⟨j, a, b⟩
        exact ⟨j, by omega, b⟩
      · rintro ⟨j, a, b, c, d⟩
        refine ⟨j, ?_, b, c, d⟩
        by_cases w : j = r
        · rw [w] at c d
          rcases z with z | z
          · exact absurd z c
          · exact absurd z d
        · omega
    by_cases c : FMO_isItem S (nI e) (nI r) = 0
    · rw [if_pos c]
      exact ih.trans (sk (Or.inl c))
    · rw [if_neg c]
      by_cases d : S.2 50 (540 + (6 * e + r)) ≤ S.2 50 (780 + (6 * e + r))
      · rw [if_pos d]
        exact ih.trans (sk (Or.inr d))
      · rw [if_neg d, paid1 he hc hm k f (r + 1) (by omega) (by omega)]
        exact ⟨fun z => absurd z (by decide), fun z => absurd ⟨r, Nat.le_refl _, by omega, c, d⟩ z⟩
/-- an entry that may be reversed -/
theorem rev_eq {S S' : hS} (hR : Ra S.1 (S.2 50)) {n e : Nat} (q : Q n S.1 S.2 (S.2 50)) (h : S'.2 50 = S.2 50) (he : e < n) (st : S.1 12 e = 1) : FJO_isReversible S (nI e) = 0 ↔ ¬ FMO_isPaid S' (nI e) = 0 := by
  have h0 := q.1.1.1
  have hn := q.1.1.2.1
  have rc := (q.1.2.1 e he).2.2.1
  have er := nI_cl rc.2.1
  have cr := cl_toInt rc.2.1
  generalize (S.1 13 e).toNatClampNeg = r at er cr
  have hrM : (S'.2 50 (260 + e)).toInt = (r : Int) := by rw [h, ← rc.1]; exact cr.symm
  have a : FJO_isReversible S (nI e) = 0 ↔ ∃ j, 6 * e ≤ j ∧ j < 6 * e + r ∧ ¬ S.2 17 j = -1 ∧ ¬ S.2 17 j = S.2 16 j := by
    rw [FJO_isReversible_e, if_neg (nI_pos (by omega)), h0, if_neg (nI_ge he (by omega)), nI_clamp (n := e) (by omega), if_pos st, ← er, nI_x6 (by omega), nI_add]
    exact rev41 S (nI e) (nI (6 * e)) (m := 6 * e + r) (by omega) r 300 (6 * e) rfl (by omega)
  have b := paid4 (S := S') (e := e) (m := r) (by omega) hrM (by omega) r 300 0 (by omega) (by omega)
  rw [nI_0] at b
  have ep : FMO_isPaid S' (nI e) = (LMO_isPaid_4 300 S' (nI e) 0 0).1 := FMO_isPaid_e S' (nI e)
  rw [a, ep, b, Classical.not_not]
  have im : ∀ i, i < r → (¬ FMO_isItem S' (nI e) (nI i) = 0 ↔ ¬ S.2 17 (6 * e + i) = -1) := fun i hi => by
    rw [isItem_M (S' := S') (by rw [h]; exact hR) (by rw [h]; exact q.1) (by omega) (by omega)]
    by_cases z : e < n ∧ (i : Int) < (S.1 13 e).toInt ∧ ¬ S.2 17 (6 * e + i) = -1
    · rw [if_pos z]
      exact ⟨fun _ => z.2.2, fun _ => by decide⟩
    · rw [if_neg z]
      exact ⟨fun y => absurd rfl y, fun y => absurd ⟨he, by rw [← cr]; omega, y⟩ z⟩
  constructor
  · rintro ⟨j, j1, j2, j3, j4⟩
    have ej : 6 * e + (j - 6 * e) = j := by omega
    refine ⟨j - 6 * e, Nat.zero_le _, by omega, (im _ (by omega)).mpr (by rw [ej]; exact j3), ?_⟩
    have hc : ((j - 6 * e : Nat) : Int) < (S.1 13 e).toInt := by rw [← cr]; omega
    have w := q.1.2.2.2.1 e (j - 6 * e) he (by omega) hc
    have d := q.2 e (j - 6 * e) he (by omega) hc
    rw [ej] at w d ⊢
    have d := d j3
    have u := w.2.2.1 ((itP_u w).mpr j3)
    have ne := ne64 j4
    rw [h, w.2.1.1, d, Int64.le_iff_toInt_le]
    omega
  · rintro ⟨i, _, i2, i3, i4⟩
    have j3 := (im i i2).mp i3
    have hc : (i : Int) < (S.1 13 e).toInt := by rw [← cr]; omega
    have w := q.1.2.2.2.1 e i he (by omega) hc
    have d := q.2 e i he (by omega) hc j3
    refine ⟨6 * e + i, by omega, by omega, j3, fun z => i4 ?_⟩
    rw [h, w.2.1.1, d, z]
    rw [Int64.le_iff_toInt_le]
    exact Int.le_refl _
theorem turn18 {n e m : Nat} (he : e < n) (hn : n < 40) (hm : m ≤ 6) (x3 : Int32) : ∀ (k f r : Nat) (S : hS), r + k = m → k < f → S.1 10 0 = nI (n + 1) → S.1 13 n = nI r → ∃ T : hS, (LJO_turnRows_18 f S (nI e) (nI n) x3 (nI (6 * e + m)) (nI (6 * e + r))).2 = T ∧ Same [13, 15, 16, 17] S T ∧ (∀ j, T.1 13 j = if j = n then nI m else S.1 13 j) ∧ (∀ j, T.1 15 j = if 6 * n + r ≤ j ∧ j < 6 * n + m then S.1 15 (6 * e + (j - 6 * n)) else S.1 15 j) ∧ (∀ j, T.2 16 j = if 6 * n + r ≤ j ∧ j < 6 * n + m then -(S.2 16 (6 * e + (j - 6 * n))) else S.2 16 j) ∧ (∀ j, T.2 17 j = if 6 * n + r ≤ j ∧ j < 6 * n + m then -1 else S.2 17 j)
  | k, 0, r, S, _, h, _, _ => absurd h (Nat.not_lt_zero _)
  | 0, f + 1, r, S, hr, _, h10, h13 => by
    have e0 : r = m := by omega
    subst e0
    rw [LJO_turnRows_18_s, if_pos (nI_le (by omega) (by omega))]
    refine ⟨S, rfl, Same.rf, fun j => ?_, fun j => by rw [if_neg (by omega)], fun j => by rw [if_neg (by omega)], fun j => by rw [if_neg (by omega)]⟩
    by_cases w : j = n
    · rw [if_pos w, w, h13]
    · rw [if_neg w]
  | k + 1, f + 1, r, S, hr, hf, h10, h13 => by
    rw [LJO_turnRows_18_s, if_neg (nI_ge (by omega) (by omega)), nI_clamp (n := 6 * e + r) (by omega)]
    obtain ⟨T', e1, f1, a13, a15, a16, a17⟩ := addRow_eff (S := S) (n := n + 1) (e := n) (r := r) h10 (by omega) (by omega) h13 (by omega) (S.1 15 (6 * e + r)) (-(S.2 16 (6 * e + r)))
    rw [e1]
    dsimp only
    rw [nI_1, Nat.add_assoc]
    obtain ⟨T, e2, f2, b13, b15, b16, b17⟩ := turn18 he hn hm x3 k f (r + 1) T' (by omega) (by omega) (by rw [congrFun (f1 10 (by decide)).1 0]; exact h10) (by rw [a13, if_pos rfl])
    refine ⟨T, e2, f1.tr f2, fun j => ?_, fun j => ?_, fun j => ?_, fun j => ?_⟩
    · rw [b13, a13]
      by_cases w : j = n
      · rw [if_pos w, if_pos w]
      · rw [if_neg w, if_neg w, if_neg w]
    · rw [b15]
      by_cases w : j = 6 * n + r
      · rw [if_neg (by omega), a15, if_pos w, if_pos (by omega), w, show 6 * e + (6 * n + r - 6 * n) = 6 * e + r by omega]
      · by_cases z : 6 * n + (r + 1) ≤ j ∧ j < 6 * n + m
        · rw [if_pos z, a15, if_neg (by omega), if_pos (by omega)]
        · rw [if_neg z, a15, if_neg w, if_neg (by omega)]
    · rw [b16]
      by_cases w : j = 6 * n + r
      · rw [if_neg (by omega), a16, if_pos w, if_pos (by omega), w, show 6 * e + (6 * n + r - 6 * n) = 6 * e + r by omega]
      · by_cases z : 6 * n + (r + 1) ≤ j ∧ j < 6 * n + m
        · rw [if_pos z, a16, if_neg (by omega), if_pos (by omega)]
        · rw [if_neg z, a16, if_neg w, if_neg (by omega)]
    · rw [b17]
      by_cases w : j = 6 * n + r
      · rw [if_neg (by omega), a17, if_pos w, if_pos (by omega)]
      · by_cases z : 6 * n + (r + 1) ≤ j ∧ j < 6 * n + m
        · rw [if_pos z, if_pos (by omega)]
        · rw [if_neg z, a17, if_neg w, if_neg (by omega)]
theorem clear17 (x1 x2 : Int32) {m : Nat} (hm : m ≤ 240) : ∀ (k f s : Nat) (S : hS), s + k = m → k < f → ∀ j, (LJO_clearItems_17 f S x1 x2 (nI m) (nI s)).2.2 17 j = if s ≤ j ∧ j < m ∧ ¬ S.2 17 j = -1 then 0 else S.2 17 j
  | k, 0, s, S, _, h, j => absurd h (Nat.not_lt_zero _)
  | 0, f + 1, s, S, hs, _, j => by
    rw [LJO_clearItems_17_s, if_pos (nI_le (by omega) (by omega)), if_neg (by omega)]
  | k + 1, f + 1, s, S, hs, hf, j => by
    rw [LJO_clearItems_17_s, if_neg (nI_ge (by omega) (by omega)), nI_1, nI_clamp (by omega)]
    by_cases c : S.2 17 s = -1
    · rw [if_pos c, clear17 x1 x2 hm k f (s + 1) S (by omega) (by omega) j]
      by_cases w : j = s
      · rw [if_neg (by omega), if_neg (fun z => z.2.2 (by rw [w]; exact c))]
      · by_cases z : s + 1 ≤ j ∧ j < m ∧ ¬ S.2 17 j = -1
        · rw [if_pos z, if_pos ⟨by omega, z.2⟩]
        · rw [if_neg z, if_neg (fun y => z ⟨by omega, y.2⟩)]
    · rw [if_neg c, clear17 x1 x2 hm k f (s + 1) (sL S 17 s 0) (by omega) (by omega) j]
      by_cases w : j = s
      · have sv : (sL S 17 s 0).2 17 j = 0 := by rw [sL_2, if_pos ⟨rfl, w⟩]
        rw [sv, if_neg (show ¬ (s + 1 ≤ j ∧ j < m ∧ ¬ (0 : Int64) = -1) from fun z => absurd z.1 (by omega)), if_pos (show s ≤ j ∧ j < m ∧ ¬ S.2 17 j = -1 from ⟨by omega, by omega, by rw [w]; exact c⟩)]
      · have sv : (sL S 17 s 0).2 17 j = S.2 17 j := by rw [sL_2, if_neg (fun z => w z.2)]
        rw [sv]
        by_cases z : s + 1 ≤ j ∧ j < m ∧ ¬ S.2 17 j = -1
        · rw [if_pos z, if_pos ⟨by omega, z.2⟩]
        · rw [if_neg z, if_neg (fun y => z ⟨by omega, y.2⟩)]
theorem rev99L {n e m : Nat} (he : e < n) (hn : n < 40) (hm : m ≤ 6) (x2 : Int64) : ∀ (k f r : Nat) (S : hS), r + k = m → k < f → (S.2 50 (260 + e)).toInt = (m : Int) → (S.2 50 (260 + n)).toInt = (r : Int) → (((LMO_reverse_99 f S (nI e) x2 (nI n) (nI r)).2.2 50 (260 + n)).toInt = (m : Int)) ∧ (∀ i, r ≤ i → i < m → (LMO_reverse_99 f S (nI e) x2 (nI n) (nI r)).2.2 50 (300 + (6 * n + i)) = (S.2 50 (300 + (6 * e + i))).toInt32.toInt64 ∧ (LMO_reverse_99 f S (nI e) x2 (nI n) (nI r)).2.2 50 (540 + (6 * n + i)) = -(S.2 50 (540 + (6 * e + i))) ∧ (LMO_reverse_99 f S (nI e) x2 (nI n) (nI r)).2.2 50 (780 + (6 * e + i)) = 0) ∧ (∀ j, j ≠ 260 + n → ¬ (300 + (6 * n + r) ≤ j ∧ j < 300 + (6 * n + m)) → ¬ (540 + (6 * n + r) ≤ j ∧ j < 540 + (6 * n + m)) → ¬ (780 + (6 * e + r) ≤ j ∧ j < 780 + (6 * e + m)) → (LMO_reverse_99 f S (nI e) x2 (nI n) (nI r)).2.2 50 j = S.2 50 j)
  | k, 0, r, S, _, h, _, _ => absurd h (Nat.not_lt_zero _)
  | 0, f + 1, r, S, hr, _, h1, h2 => by
    rw [LMO_reverse_99_s, ixC (c := 260) 260 rfl (by omega) (by omega), if_pos (by rw [Int64.le_iff_toInt_le, l32, h1, nI_toInt (by omega)]; omega)]
    exact ⟨by rw [h2]; omega, fun i a b => absurd a (by omega), fun j _ _ _ _ => rfl⟩
  | k + 1, f + 1, r, S, hr, hf, h1, h2 => by
    have am := addRow_M (S := S) (e := n) (r := r) (by omega) h2 (by omega) ((S.2 50 (300 + (6 * e + r))).toInt32) (-(S.2 50 (540 + (6 * e + r))))
    rw [LMO_reverse_99_s, ixC (c := 260) 260 rfl (by omega) (by omega), if_neg (by rw [Int64.le_iff_toInt_le, l32, h1, nI_toInt (by omega)]; omega), ix6 (c := 300) 300 rfl (by omega) (by omega) (by omega), ix6 (c := 540) 540 rfl (by omega) (by omega) (by omega), ix6 (c := 780) 780 rfl (by omega) (by omega) (by omega), nI_1]
    have sm' := sL50 (FMO_addRow S (nI n) ((S.2 50 (300 + (6 * e + r))).toInt32) (-(S.2 50 (540 + (6 * e + r))))) (780 + (6 * e + r)) 0
    rw [am] at sm'
    generalize sL (FMO_addRow S (nI n) ((S.2 50 (300 + (6 * e + r))).toInt32) (-(S.2 50 (540 + (6 * e + r))))) 50 (780 + (6 * e + r)) 0 = U at sm' ⊢
    have uo : ∀ j, j ≠ 260 + n → j ≠ 300 + (6 * n + r) → j ≠ 540 + (6 * n + r) → j ≠ 780 + (6 * e + r) → U.2 50 j = S.2 50 j := fun j a b c d => by rw [sm', up5_n d, up5_n a, up5_n c, up5_n b]
    have u260 : (U.2 50 (260 + n)).toInt = ((r + 1 : Nat) : Int) := by
      rw [sm', up5_n (by omega), up5_e, tj_add h2 tq_1 (by omega) (by omega)]
      omega
    obtain ⟨i1, i2, i3⟩ := rev99L he hn hm x2 k f (r + 1) U (by omega) (by omega) (by rw [uo _ (by omega) (by omega) (by omega) (by omega)]; exact h1) u260
    refine ⟨i1, fun i a b => ?_, fun j a b c d => ?_⟩
    · by_cases w : i = r
      · subst w
        refine ⟨?_, ?_, ?_⟩
        · rw [i3 _ (by omega) (by omega) (by omega) (by omega), sm', up5_n (by omega), up5_n (by omega), up5_n (by omega), up5_e]
        · rw [i3 _ (by omega) (by omega) (by omega) (by omega), sm', up5_n (by omega), up5_n (by omega), up5_e]
        · rw [i3 _ (by omega) (by omega) (by omega) (by omega), sm', up5_e]
      · obtain ⟨j1, j2, j3⟩ := i2 i (by omega) b
        refine ⟨?_, ?_, j3⟩
        · rw [j1, uo _ (by omega) (by omega) (by omega) (by omega)]
        · rw [j2, uo _ (by omega) (by omega) (by omega) (by omega)]
    · rw [i3 j a (by omega) (by omega) (by omega), uo j a (by omega) (by omega) (by omega)]
theorem rv_no {S : hS} {x1 : Int32} {x2 : Int64} (h : FMO_isEntry (sI S 49 4 0) x1 = 0 ∨ S.2 50 ((140 + x1).toNatClampNeg) = 0 ∨ 0 < S.2 50 ((220 + x1).toNatClampNeg) ∨ 0 < S.2 50 ((180 + x1).toNatClampNeg) ∨ ¬ FMO_isPaid (sI S 49 4 0) x1 = 0 ∨ FMO_isDay (sI S 49 4 0) x2 = 0 ∨ S.2 50 1 = 40) : FMO_reverse S x1 x2 = (-1, sI S 49 4 0) := by
  rw [FMO_reverse_e]
  by_cases c1 : FMO_isEntry (sI S 49 4 0) x1 = 0
  · rw [if_pos c1]
  rw [if_neg c1]
  by_cases c2 : S.2 50 ((140 + x1).toNatClampNeg) = 0
  · rw [if_pos c2]
  rw [if_neg c2]
  by_cases c3 : 0 < S.2 50 ((220 + x1).toNatClampNeg)
  · rw [if_pos c3]
  rw [if_neg c3]
  by_cases c4 : 0 < S.2 50 ((180 + x1).toNatClampNeg)
  · rw [if_pos c4]
  rw [if_neg c4]
  by_cases c5 : FMO_isPaid (sI S 49 4 0) x1 = 0
  · rw [if_pos c5]
    by_cases c6 : FMO_isDay (sI S 49 4 0) x2 = 0
    · rw [if_pos c6]
    rw [if_neg c6]
    by_cases c7 : S.2 50 1 = 40
    · rw [if_pos c7]
    · rcases h with h | h | h | h | h | h | h
      · exact absurd h c1
      · exact absurd h c2
      · exact absurd h c3
      · exact absurd h c4
      · exact absurd c5 h
      · exact absurd h c6
      · exact absurd h c7
  · rw [if_neg c5]
theorem clearI : ∀ (f : Nat) (S : hS) (x1 x2 x3 x4 : Int32), (LJO_clearItems_17 f S x1 x2 x3 x4).2.1 = S.1
  | 0, S, x1, x2, x3, x4 => rfl
  | f + 1, S, x1, x2, x3, x4 => by
    rw [LJO_clearItems_17_s]
    split
    · rfl
    split
    · exact clearI f _ _ _ _ _
    · rw [clearI f _ _ _ _ _]
      rfl
theorem clearI1 (S : hS) (x : Int32) : (FJO_clearItems S x).1 = S.1 := by
  rw [FJO_clearItems_e]
  exact clearI _ _ _ _ _ _
theorem isPaid_cg {S S' : hS} (h : S'.2 50 = S.2 50) (x : Int32) : FMO_isPaid S' x = FMO_isPaid S x := by
  have it : ∀ a b, FMO_isItem S' a b = FMO_isItem S a b := fun a b => by rw [FMO_isItem_e, FMO_isItem_e, h]
  have l : ∀ (f : Nat) (a b : Int32), LMO_isPaid_4 f S' x a b = LMO_isPaid_4 f S x a b := fun f => by
    induction f with
    | zero => intro a b; rfl
    | succ f ih =>
      intro a b
      rw [LMO_isPaid_4_s, LMO_isPaid_4_s, h, it, ih, ih]
  rw [FMO_isPaid_e, FMO_isPaid_e, l]
/-- the journals behind a reversal -/
theorem Q_reverse {S T1 T2 : hS} {L4 : Nat → Nat → Int64} {C4 : Nat → Nat → Int32} {n e r : Nat} (q : Q n S.1 S.2 (S.2 50)) (hn : n < 40) (he : e < n) (st : S.1 12 e = 1) (er : S.1 13 e = nI r) (r6 : r ≤ 6) (x2 : Int64) (hx2 : 0 ≤ x2.toInt ∧ x2.toInt ≤ 3599)
    (f1 : Same [10, 11, 12, 13, 14] S T1) (t10 : T1.1 10 0 = nI (n + 1)) (t11 : ∀ j, T1.1 11 j = if j = n then x2.toInt32 else S.1 11 j) (t12 : ∀ j, T1.1 12 j = if j = n then 3 else S.1 12 j) (t13 : ∀ j, T1.1 13 j = if j = n then 0 else S.1 13 j) (tB : BD T1.1 (n + 1))
    (f2 : Same [13, 15, 16, 17] T1 T2) (u13 : ∀ j, T2.1 13 j = if j = n then nI r else T1.1 13 j) (u15 : ∀ j, T2.1 15 j = if 6 * n ≤ j ∧ j < 6 * n + r then T1.1 15 (6 * e + (j - 6 * n)) else T1.1 15 j) (u16 : ∀ j, T2.2 16 j = if 6 * n ≤ j ∧ j < 6 * n + r then -(T1.2 16 (6 * e + (j - 6 * n))) else T1.2 16 j) (u17 : ∀ j, T2.2 17 j = if 6 * n ≤ j ∧ j < 6 * n + r then -1 else T1.2 17 j)
    (w12 : ∀ j, C4 12 j = if j = e then 4 else T2.1 12 j) (wC : ∀ a, a ≠ 12 → C4 a = T2.1 a) (w17 : ∀ j, L4 17 j = if 6 * e ≤ j ∧ j < 6 * e + r ∧ ¬ T2.2 17 j = -1 then 0 else T2.2 17 j) (w16 : L4 16 = T2.2 16)
    {M : Nat → Int64} (m1 : (M 1).toInt = (n : Int) + 1) (m100 : M (100 + n) = x2) (m140 : M (140 + n) = 1) (m180 : M (180 + n) = 2) (m220 : M (220 + n) = 0) (m220e : M (220 + e) = 1) (m260 : (M (260 + n)).toInt = (r : Int)) (mr : ∀ i, i < r → M (300 + (6 * n + i)) = (S.2 50 (300 + (6 * e + i))).toInt32.toInt64 ∧ M (540 + (6 * n + i)) = -(S.2 50 (540 + (6 * e + i))) ∧ M (780 + (6 * e + i)) = 0) (mM : ∀ j, j ≠ 1 → j ≠ 100 + n → j ≠ 140 + n → j ≠ 180 + n → j ≠ 220 + e → j ≠ 260 + n → ¬ (300 + 6 * n ≤ j ∧ j < 300 + (6 * n + r)) → ¬ (540 + 6 * n ≤ j ∧ j < 540 + (6 * n + r)) → ¬ (780 + 6 * e ≤ j ∧ j < 780 + (6 * e + r)) → M j = S.2 50 j) : Q (n + 1) C4 L4 M := by
  have h1 := q.1.1.2.2.1
  have re := q.1.2.1 e he
  have hst : S.2 50 (140 + e) = 1 ∧ S.2 50 (180 + e) = 0 := by
    rcases re.2.2.2 with ⟨a, _⟩ | ⟨_, b, c, _⟩ | ⟨a, _⟩ | ⟨a, _⟩ | ⟨a, _⟩
    · rw [st] at a; exact absurd a (by decide)
    · exact ⟨b, c⟩
    · rw [st] at a; exact absurd a (by decide)
    · rw [st] at a; exact absurd a (by decide)
    · rw [st] at a; exact absurd a (by decide)
  have c13e : (S.1 13 e).toInt = (r : Int) := by rw [er, nI_toInt (by omega)]
  -- the class's cells
  have g12 : ∀ j, j ≠ e → j ≠ n → C4 12 j = S.1 12 j := fun j a b => by rw [w12, if_neg a, congrFun (f2 12 (by decide)).1 j, t12, if_neg b]
  have gC : ∀ a, a ∉ [10, 11, 12, 13, 14, 15, 16, 17] → C4 a = S.1 a := fun a ha => by
    rw [wC a (fun z => ha (by rw [z]; decide)), (f2 a (fun z => ha (by revert z; simp; omega))).1, (f1 a (fun z => ha (by revert z; simp; omega))).1]
  have c13 : ∀ j, C4 13 j = if j = n then nI r else S.1 13 j := fun j => by
    rw [wC 13 (by decide), u13, t13]
    by_cases w : j = n
    · rw [if_pos w, if_pos w]
    · rw [if_neg w, if_neg w, if_neg w]
  have o15 : ∀ j, j < 6 * n → C4 15 j = S.1 15 j := fun j a => by rw [wC 15 (by decide), u15, if_neg (by omega), congrFun (f1 15 (by decide)).1 j]
  have o16 : ∀ j, j < 6 * n → L4 16 j = S.2 16 j := fun j a => by rw [w16, u16, if_neg (by omega), congrFun (f1 16 (by decide)).2 j]
  have p17 : ∀ j, j < 6 * n → T2.2 17 j = S.2 17 j := fun j a => by rw [u17, if_neg (by omega), congrFun (f1 17 (by decide)).2 j]
  have o17 : ∀ j, j < 6 * n → L4 17 j = if 6 * e ≤ j ∧ j < 6 * e + r ∧ ¬ S.2 17 j = -1 then 0 else S.2 17 j := fun j a => by rw [w17, p17 j a]
  -- first the entry's own state, then the new one
  have A : Rk n (sI S 12 e 4).1 (fun a j => if a = 17 then (if 6 * e ≤ j ∧ j < 6 * e + r ∧ ¬ S.2 17 j = -1 then 0 else S.2 17 j) else S.2 a j) (up5 (S.2 50) (220 + e) 1) := by
    refine Rk_state q.1 he 4 (by rw [sI_1, if_neg (by omega)]) (by rw [sI_1, if_neg (by omega)]) (fun k => by rw [sI_1, if_neg (by omega)]) (fun j => ⟨by rw [sI_1, if_neg (by omega)], by rw [sI_1, if_neg (by omega)], by rw [sI_1, if_neg (by omega)], ?_⟩) (fun s => ⟨by rw [sI_1, if_neg (by omega)], if_neg (by decide)⟩) (fun s hs => ?_) (fun j _ a b => up5_n b) (Or.inr ⟨rfl, by rw [up5_n (by omega)]; exact hst.1, hst.2, up5_e _ _ _⟩) (fun i h6 hc w => ?_)
    · rw [sI_1]
      by_cases w : j = e
      · rw [if_pos ⟨rfl, w⟩, if_pos w]
      · rw [if_neg (fun z => w z.2), if_neg w]
    · rw [if_pos rfl, if_neg (by omega)]
    · have iff : itP 4 (kdC S.1 (6 * e + i)) (S.2 16 (6 * e + i)) ↔ itP (S.1 12 e) (kdC S.1 (6 * e + i)) (S.2 16 (6 * e + i)) := by
        unfold itP
        rw [st]
        exact ⟨fun z => ⟨Or.inl rfl, z.2⟩, fun z => ⟨Or.inr rfl, z.2⟩⟩
      rw [iff, if_pos rfl]
      have u := itP_u w
      rw [c13e] at hc
      refine ⟨fun z => ?_, fun z => ?_⟩
      · rw [if_pos ⟨by omega, by omega, u.mp z⟩, tq_0]
        have := z.2.1
        omega
      · have z' : S.2 17 (6 * e + i) = -1 := w.2.2.2 z
        rw [if_neg (fun y => y.2.2 z')]
        exact z'
  have c12n : C4 12 n = 3 := by rw [w12, if_neg (by omega), congrFun (f2 12 (by decide)).1 n, t12, if_pos rfl]
  have noit : ∀ (k : Int32) (c : Int64), ¬ itP 3 k c := fun k c z => by
    rcases z.1 with z | z <;> exact absurd z (by decide)
  have n17 : ∀ i, i < r → L4 17 (6 * n + i) = -1 := fun i hi => by rw [w17, if_neg (by omega), u17, if_pos (by omega)]
  refine ⟨Rk_add A hn (by rw [wC 10 (by decide), congrFun (f2 10 (by decide)).1 0]; exact t10) ?_ (fun k => ?_) (fun e' he' => ⟨?_, ?_, ?_⟩) (fun s hs => ⟨?_, ?_, ?_⟩) m1 (fun j a b d1 d2 d3 d4 d5 d6 d7 => ?_) ?_ (fun i h6 hc => ?_) (BD_of (by omega) (fun k _ => by rw [wC 11 (by decide), (f2 11 (by decide)).1]) (fun k _ => by rw [wC 14 (by decide), (f2 14 (by decide)).1]) tB), fun e' i he' h6 hc hu => ?_⟩
  · rw [gC 2 (by decide), sI_1, if_neg (by omega)]
  · rw [gC 3 (by decide), sI_1, if_neg (by omega)]
  · rw [wC 11 (by decide), congrFun (f2 11 (by decide)).1 e', t11, if_neg (by omega), sI_1, if_neg (by omega)]
  · rw [sI_1]
    by_cases w : e' = e
    · rw [if_pos ⟨rfl, w⟩, w12, if_pos w]
    · rw [if_neg (fun z => w z.2), g12 e' w (by omega)]
  · rw [c13, if_neg (by omega), sI_1, if_neg (by omega)]
  · rw [o15 s hs, sI_1, if_neg (by omega)]
  · rw [o16 s hs, if_neg (by decide)]
  · rw [o17 s hs, if_pos rfl]
  · by_cases w : j = 220 + e
    · rw [w, m220e, up5_e]
    · rw [up5_n w]
      exact mM j (by omega) d1 d2 d3 w d5 (by omega) (by omega) (by omega)
  · rw [wC 11 (by decide), congrFun (f2 11 (by decide)).1 n, t11, if_pos rfl, c12n, c13, if_pos rfl, m100, m140, m180, m220]
    exact ⟨ti_32 rfl (by omega) (by omega), by rw [ti_32 rfl (by omega) (by omega)]; exact hx2, ⟨by rw [nI_toInt (by omega), m260], by rw [nI_toInt (by omega)]; omega, by rw [nI_toInt (by omega)]; omega⟩, Or.inr (Or.inr (Or.inr (Or.inl ⟨rfl, rfl, rfl, rfl⟩)))⟩
  · rw [c13, if_pos rfl, nI_toInt (by omega)] at hc
    have ir : i < r := by omega
    obtain ⟨b1, b2, _⟩ := mr i ir
    have w := q.1.2.2.2.1 e i he h6 (by rw [c13e]; omega)
    have a15 : C4 15 (6 * n + i) = S.1 15 (6 * e + i) := by rw [wC 15 (by decide), u15, if_pos (by omega), show 6 * e + (6 * n + i - 6 * n) = 6 * e + i by omega, congrFun (f1 15 (by decide)).1 _]
    have a16 : L4 16 (6 * n + i) = -(S.2 16 (6 * e + i)) := by rw [w16, u16, if_pos (by omega), show 6 * e + (6 * n + i - 6 * n) = 6 * e + i by omega, congrFun (f1 16 (by decide)).2 _]
    rw [c12n, a15, a16, n17 i ir, b1, b2, gC 2 (by decide), w.2.1.1]
    obtain ⟨⟨v1, v2, v3⟩, ⟨v4, v5, v6, v7⟩, _⟩ := id w
    have hc8 := q.1.1.2.2.2
    have ng : (-(S.2 16 (6 * e + i))).toInt = -(S.2 16 (6 * e + i)).toInt := by
      rw [show -(S.2 16 (6 * e + i)) = 0 - S.2 16 (6 * e + i) by rw [Int64.zero_sub], tj_sub tq_0 rfl (by omega) (by omega)]
      omega
    refine ⟨⟨w.1.1, w.1.2.1, ?_⟩, ⟨rfl, fun y => ?_, by omega, by omega⟩, fun y => absurd y (noit _ _), fun _ => rfl⟩
    · rw [l32, ti_32 w.1.2.2 (by omega) (by omega)]
    · rw [y, tq_0] at ng
      exact w.2.1.2.1 (Int64.toInt_inj.mp (by rw [tq_0]; omega))
  · rw [c13] at hc
    by_cases z : e' = n
    · subst z
      rw [if_pos rfl, nI_toInt (by omega)] at hc
      exact absurd (n17 i (by omega)) hu
    · rw [if_neg z] at hc
      have s6 : 6 * e' + i < 6 * n := by omega
      rw [o17 _ s6] at hu ⊢
      by_cases y : e' = e
      · subst y
        rw [c13e] at hc
        by_cases v : S.2 17 (6 * e' + i) = -1
        · rw [if_neg (fun x => x.2.2 v)] at hu
          exact absurd v hu
        · rw [if_pos ⟨by omega, by omega, v⟩, (mr i (by omega)).2.2]
      · rw [if_neg (by omega)] at hu ⊢
        rw [mM _ (by omega) (by omega) (by omega) (by omega) (by omega) (by omega) (by omega) (by omega) (by omega)]
        exact q.2 e' i (by omega) h6 hc hu
theorem q_reverse {S : hS} (hI : I0 S) (hR : Rl S) (hJ : Rj S) (x1 : Int32) (x2 : Int64) : (FHL_reverse S x1 x2).1 = (FMO_reverse (FHL_reverse S x1 x2).2 x1 x2).1 ∧ Rj (FMO_reverse (FHL_reverse S x1 x2).2 x1 x2).2 := by
  obtain ⟨n, q⟩ := hJ.1
  have h0 := q.1.1.1
  have hn := q.1.1.2.1
  have h1 := q.1.1.2.2.1
  have f40 := full_eq h0 hn
  have m40 := full_M h1 hn
  have no : FHL_reverse S x1 x2 = (-1, S) → FMO_reverse S x1 x2 = (-1, sI S 49 4 0) → (FHL_reverse S x1 x2).1 = (FMO_reverse (FHL_reverse S x1 x2).2 x1 x2).1 ∧ Rj (FMO_reverse (FHL_reverse S x1 x2).2 x1 x2).2 := fun a b => by
    rw [a]
    dsimp only
    rw [b]
    exact ⟨rfl, Rj_fault hJ⟩
  rcases ent_or (S' := sI S 49 4 0) h0 h1 hn x1 with ⟨a, b⟩ | ⟨a, e, he, rfl⟩
  · have rv : FJO_isReversible S x1 = 0 := by
      rw [FJO_isReversible_e]
      rcases b with b | b
      · rw [if_pos b]
      · rw [if_neg b.1, if_pos b.2]
    exact no (by rw [FHL_reverse_e, if_pos rv]) (rv_no (Or.inl a))
  have i140 : (140 + nI e).toNatClampNeg = 140 + e := ixC (c := 140) 140 rfl (by omega) (by omega)
  have i180 : (180 + nI e).toNatClampNeg = 180 + e := ixC (c := 180) 180 rfl (by omega) (by omega)
  have i220 : (220 + nI e).toNatClampNeg = 220 + e := ixC (c := 220) 220 rfl (by omega) (by omega)
  have re := q.1.2.1 e he
  by_cases st : S.1 12 e = 1
  · have hst : S.2 50 (140 + e) = 1 ∧ S.2 50 (180 + e) = 0 ∧ S.2 50 (220 + e) = 0 := by
      rcases re.2.2.2 with ⟨a, _⟩ | ⟨_, b, c⟩ | ⟨a, _⟩ | ⟨a, _⟩ | ⟨a, _⟩
      · rw [st] at a; exact absurd a (by decide)
      · exact ⟨b, c⟩
      · rw [st] at a; exact absurd a (by decide)
      · rw [st] at a; exact absurd a (by decide)
      · rw [st] at a; exact absurd a (by decide)
    have rv := rev_eq (S' := sI S 49 4 0) hR.2.1 q rfl he st
    by_cases c1 : FJO_isReversible S (nI e) = 0
    · exact no (by rw [FHL_reverse_e, if_pos c1]) (rv_no (Or.inr (Or.inr (Or.inr (Or.inr (Or.inl (rv.mp c1)))))))
    have pd : FMO_isPaid (sI S 49 4 0) (nI e) = 0 := Classical.not_not.mp (fun z => c1 (rv.mpr z))
    by_cases c2 : FMO_isDay (sI S 49 4 0) x2 = 0
    · exact no (by rw [FHL_reverse_e, if_neg c1, isDay_eq S (sI S 49 4 0) x2, if_pos c2]) (rv_no (Or.inr (Or.inr (Or.inr (Or.inr (Or.inr (Or.inl c2)))))))
    have c2' : ¬ FHL_isDay S x2 = 0 := by rw [isDay_eq S (sI S 49 4 0) x2]; exact c2
    have dr := isDay_r c2'
    by_cases c3 : n < 40
    · have nf := f40.mpr c3
      have n40 : ¬ S.2 50 1 = 40 := fun z => m40.mp z c3
      have rc := re.2.2.1
      have er : S.1 13 e = nI (S.1 13 e).toNatClampNeg := (nI_cl rc.2.1).symm
      have cr := cl_toInt rc.2.1
      generalize (S.1 13 e).toNatClampNeg = r at er cr
      have hrM : (S.2 50 (260 + e)).toInt = (r : Int) := by rw [← rc.1]; exact cr.symm
      obtain ⟨y, T1, eT, hy, f1, t10, _, t11, t12, t13, tB⟩ := add_eff hI.1 x2.toInt32 3 h0 c3
      obtain ⟨T2, e2, f2, u13, u15, u16, u17⟩ := turn18 (n := n) (e := e) (m := r) he c3 (by omega) (nI (6 * e)) r 300 0 T1 (by omega) (by omega) t10 (by rw [t13, if_pos rfl, nI_0])
      rw [Nat.add_zero] at e2 u15 u16 u17
      have k13 : T1.1 13 e = nI r := by rw [t13, if_neg (by omega)]; exact er
      have eT2 : FJO_turnRows T1 (nI e) (nI n) = T2 := by
        rw [FJO_turnRows_e, nI_clamp (n := e) (by omega), k13, nI_x6 (by omega), nI_add]
        exact e2
      have k13' : T2.1 13 e = nI r := by rw [u13, if_neg (by omega)]; exact k13
      have cl := clear17 (nI e) (nI (6 * e)) (m := 6 * e + r) (by omega) r 300 (6 * e) T2 rfl (by omega)
      have fc := fr_FJO_clearItems T2 (nI e)
      have cl' : ∀ j, (FJO_clearItems T2 (nI e)).2 17 j = if 6 * e ≤ j ∧ j < 6 * e + r ∧ ¬ T2.2 17 j = -1 then 0 else T2.2 17 j := fun j => by
        rw [FJO_clearItems_e, nI_clamp (n := e) (by omega), k13', nI_x6 (by omega), nI_add]
        exact cl j
      have e1 : FHL_reverse S (nI e) x2 = (nI n, sI (FJO_clearItems T2 (nI e)) 12 e 4) := by
        rw [FHL_reverse_e, if_neg c1, if_neg c2', if_pos nf, eT]
        dsimp only
        rw [eT2, nI_clamp (n := e) (by omega)]
      have fP := fr_FHL_reverse S (nI e) x2
      rw [e1] at fP ⊢
      dsimp only at fP ⊢
      have w12 : ∀ j, (sI (FJO_clearItems T2 (nI e)) 12 e 4).1 12 j = if j = e then 4 else T2.1 12 j := fun j => by
        rw [sI_1]
        by_cases w : j = e
        · rw [if_pos ⟨rfl, w⟩, if_pos w]
        · rw [if_neg (fun z => w z.2), if_neg w, congrFun (fc 12 (by decide)).1 j]
      have wC : ∀ a, a ≠ 12 → (sI (FJO_clearItems T2 (nI e)) 12 e 4).1 a = T2.1 a := fun a ha => by
        funext j
        rw [sI_1, if_neg (fun z => ha z.1), clearI1]
      have w16 : (sI (FJO_clearItems T2 (nI e)) 12 e 4).2 16 = T2.2 16 := (fc 16 (by decide)).2
      have w17 : ∀ j, (sI (FJO_clearItems T2 (nI e)) 12 e 4).2 17 j = if 6 * e ≤ j ∧ j < 6 * e + r ∧ ¬ T2.2 17 j = -1 then 0 else T2.2 17 j := cl'
      generalize sI (FJO_clearItems T2 (nI e)) 12 e 4 = T4 at fP w12 wC w16 w17 ⊢
      have t50 : T4.2 50 = S.2 50 := (fP 50 (by decide)).2
      have hz := q.1.2.2.1 n (Nat.le_refl _) c3
      have a1 := addEntry_M (S := sI T4 49 4 0) (n := n) (by rw [sI_2, t50]; exact h1) c3 x2 2
      have a1' : FMO_addEntry (sI T4 49 4 0) x2 2 = (nI n, (FMO_addEntry (sI T4 49 4 0) x2 2).2) := by rw [← a1.1]
      have a1M := a1.2
      rw [sI_2, t50] at a1M
      generalize (FMO_addEntry (sI T4 49 4 0) x2 2).2 = U1 at a1' a1M
      have b260n : (U1.2 50 (260 + n)).toInt = ((0 : Nat) : Int) := by rw [a1M, up5_n (by omega), up5_n (by omega), up5_n (by omega), hz.2.2]; decide
      have b260e : (U1.2 50 (260 + e)).toInt = (r : Int) := by rw [a1M, up5_n (by omega), up5_n (by omega), up5_n (by omega)]; exact hrM
      have L99 := rev99L (n := n) (e := e) (m := r) he c3 (by omega) x2 r 300 0 U1 (by omega) (by omega) b260e b260n
      rw [nI_0] at L99
      simp only [Nat.add_zero] at L99
      have i140n : (140 + nI n).toNatClampNeg = 140 + n := ixC (c := 140) 140 rfl (by omega) (by omega)
      have a2 : ¬ FMO_isEntry (sI T4 49 4 0) (nI e) = 0 := by
        have a' : ¬ FMO_isEntry (sI S 49 4 0) (nI e) = 0 := by rw [a]; decide
        rw [FMO_isEntry_e] at a' ⊢
        rw [sI_2, t50]
        exact a'
      have eM : FMO_reverse T4 (nI e) x2 = (nI n, sL (sL (LMO_reverse_99 300 U1 (nI e) x2 (nI n) 0).2 50 (140 + n) 1) 50 (220 + e) 1) := by
        rw [FMO_reverse_e, if_neg a2, i140, t50, if_neg (by rw [hst.1]; decide), i220, if_neg (by rw [hst.2.2]; decide), i180, if_neg (by rw [hst.2.1]; decide), isPaid_cg (S := sI S 49 4 0) (S' := sI T4 49 4 0) t50, if_pos pd, dayM (sI T4 49 4 0) (sI S 49 4 0), if_neg c2, if_neg n40, a1']
        dsimp only
        rw [i140n]
      have fM := fr_FMO_reverse T4 (nI e) x2
      have qM := fq_FMO_reverse T4 (nI e) x2
      rw [eM] at fM qM ⊢
      dsimp only at fM qM ⊢
      generalize (LMO_reverse_99 300 U1 (nI e) x2 (nI n) 0).2 = U2 at L99 fM qM ⊢
      obtain ⟨l1, l2, l3⟩ := L99
      refine ⟨rfl, Rj_step hJ fP (by decide) fM (by decide) qM ⟨n + 1, Qfin fM ?_⟩⟩
      rw [sL50, sL50]
      have e0 : ∀ j, j ≠ 140 + n → j ≠ 220 + e → up5 (up5 (U2.2 50) (140 + n) 1) (220 + e) 1 j = U2.2 50 j := fun j a b => by rw [up5_n b, up5_n a]
      have e3 : ∀ j, j ≠ 1 → j ≠ 100 + n → j ≠ 180 + n → U1.2 50 j = S.2 50 j := fun j a b c => by rw [a1M, up5_n a, up5_n c, up5_n b]
      refine Q_reverse (T1 := T1) (T2 := T2) q c3 he st er (by omega) x2 dr f1 t10 t11 t12 t13 (tB q.1.2.2.2.2) f2 u13 u15 u16 u17 w12 wC w17 w16 ?_ ?_ ?_ ?_ ?_ ?_ ?_ (fun i hi => ⟨?_, ?_, ?_⟩) (fun j d1 d2 d3 d4 d5 d6 d7 d8 d9 => ?_)
      · rw [e0 _ (by omega) (by omega), l3 _ (by omega) (by omega) (by omega) (by omega), a1M, up5_e, tj_add rfl tq_1 (by omega) (by omega), h1]
      · rw [e0 _ (by omega) (by omega), l3 _ (by omega) (by omega) (by omega) (by omega), a1M, up5_n (by omega), up5_n (by omega), up5_e]
      · rw [up5_n (by omega), up5_e]
      · rw [e0 _ (by omega) (by omega), l3 _ (by omega) (by omega) (by omega) (by omega), a1M, up5_n (by omega), up5_e]
        decide
      · rw [e0 _ (by omega) (by omega), l3 _ (by omega) (by omega) (by omega) (by omega), e3 _ (by omega) (by omega) (by omega)]
        exact hz.2.1
      · rw [up5_e]
      · rw [e0 _ (by omega) (by omega)]
        exact l1
      · rw [e0 _ (by omega) (by omega), (l2 i (Nat.zero_le _) hi).1, e3 _ (by omega) (by omega) (by omega)]
      · rw [e0 _ (by omega) (by omega), (l2 i (Nat.zero_le _) hi).2.1, e3 _ (by omega) (by omega) (by omega)]
      · rw [e0 _ (by omega) (by omega), (l2 i (Nat.zero_le _) hi).2.2]
      · rw [e0 _ d3 d5, l3 _ d6 (by omega) (by omega) (by omega), e3 _ d1 d2 d4]
    · exact no (by rw [FHL_reverse_e, if_neg c1, if_neg c2', if_neg (fun z => c3 (f40.mp z))]) (rv_no (Or.inr (Or.inr (Or.inr (Or.inr (Or.inr (Or.inr (m40.mpr c3))))))))
  · have rv : FJO_isReversible S (nI e) = 0 := by rw [FJO_isReversible_e, if_neg (nI_pos (by omega)), h0, if_neg (nI_ge he (by omega)), nI_clamp (by omega), if_neg st]
    refine no (by rw [FHL_reverse_e, if_pos rv]) (rv_no ?_)
    rw [i140, i180, i220]
    rcases re.2.2.2 with ⟨_, b, _⟩ | ⟨b, _⟩ | ⟨_, _, b, _⟩ | ⟨_, _, b, _⟩ | ⟨_, _, _, b⟩
    · exact Or.inr (Or.inl b)
    · exact absurd b st
    · exact Or.inr (Or.inr (Or.inr (Or.inl (by rw [b]; decide))))
    · exact Or.inr (Or.inr (Or.inr (Or.inl (by rw [b]; decide))))
    · exact Or.inr (Or.inr (Or.inl (by rw [b]; decide)))
/-! item -/
theorem q_item {S : hS} (hI : I0 S) (hR : Rl S) (hJ : Rj S) (x1 x2 : Int32) : FHL_item S x1 x2 = (FMO_item S x1 x2).1 := by
  obtain ⟨n, q⟩ := hJ.1
  have h0 := q.1.1.1
  have hn := q.1.1.2.1
  have hB := q.1.2.2.2.2
  have hc := itemOf_C hI.1 x1 x2 h0 hn
  have hm := itemAt_M (S' := sI S 49 4 0) hR.2.1 q.1 x1 x2
  have len := Lc_len (C := S.1) (L := S.2) hn x1
  rw [FHL_item_e, FMO_item_e, ← hh_eq (S' := sI S 49 4 0) hI.1 hR.2.1 rfl x1, hc, hm]
  by_cases c1 : FAC_hasHousehold S x1 = 0
  · rw [if_pos c1, if_pos c1]
  rw [if_neg c1, if_neg c1]
  by_cases c2 : ∃ i, i < (LcC S.1 S.2 n x1).length ∧ nI (0 + i) = x2
  · obtain ⟨i, hi, e⟩ := c2
    have f := fnd_some (LcC S.1 S.2 n x1) 0 i hi (by omega)
    rw [e] at f
    rw [f]
    have hs := (Lc_mem hB).mp (List.getElem_mem hi)
    generalize (LcC S.1 S.2 n x1)[i] = s at hs f
    have s240 : s < 240 := by omega
    have x0 : ¬ x2 < 0 := by rw [← e]; exact nI_pos (by omega)
    have nm : ¬ nI s = -1 := fun z => by
      have := congrArg Int32.toInt z
      rw [nI_toInt (by omega), tl_m1] at this
      omega
    have ti := hs.2
    unfold itmC at ti
    have ti := of_decide_eq_true ti
    have et : 6 * (s / 6) + s % 6 = s := by omega
    have d := q.2 (s / 6) (s % 6) hs.1 (by omega) ti.1
    rw [et] at d
    rw [if_neg nm, if_neg x0, if_pos (nI_pos' (by omega)), nI_clamp (by omega), ixC (c := 780) 780 rfl (by omega) (by omega)]
    exact (d ti.2.2).symm
  · rw [fnd_none _ _ _ (fun i hi z => c2 ⟨i, hi, z⟩), if_pos rfl]
    by_cases x0 : x2 < 0
    · rw [if_pos x0]
    · rw [if_neg x0, if_neg (by decide)]
/-! statement -/
theorem tj_div {a b : Int64} {p q : Int} (ha : a.toInt = p) (hb : b.toInt = q) (h0 : 0 ≤ p) (h1 : 0 < q) : (a / b).toInt = p / q := by
  rw [Int64.toInt_div_of_ne_right _ _ (by intro z; rw [z] at hb; have : (-1 : Int64).toInt = -1 := by decide
                                          omega), ha, hb, Int.tdiv_eq_ediv_of_nonneg h0]
def stP (S : hS) (a m : Int32) (s : Nat) : Bool := decide (¬ FAC_has S a = 0 ∧ ¬ S.1 12 (s / 6) = 0 ∧ ((s % 6 : Nat) : Int) < (S.1 13 (s / 6)).toInt ∧ S.1 15 s = a ∧ S.1 11 (s / 6) / 30 = m)
theorem posted_C {S : hS} {a m : Int32} {s : Nat} (hs : s < 240) (ha : ¬ FAC_has S a = 0) : FJO_isPostedRowIn S (nI s) a m = 0 ↔ stP S a m s = false := by
  have c1 : (S.1 13 (s / 6) ≤ nI (s % 6)) ↔ ¬ ((s % 6 : Nat) : Int) < (S.1 13 (s / 6)).toInt := by
    rw [Int32.le_iff_toInt_le, nI_toInt (by omega)]
    omega
  unfold stP
  rw [decide_eq_false_iff_not, FJO_isPostedRowIn_e, FJO_isPostedRow_e, nI_m6 (by omega), nI_d6 (by omega), nI_clamp (n := s / 6) (by omega), nI_clamp (n := s) (by omega)]
  by_cases d1 : S.1 11 (s / 6) / 30 = m
  · rw [if_pos d1]
    by_cases d2 : S.1 12 (s / 6) = 0
    · rw [if_pos d2, if_pos rfl]
      exact ⟨fun _ z => z.2.1 d2, fun _ => rfl⟩
    · rw [if_neg d2]
      by_cases d3 : ((s % 6 : Nat) : Int) < (S.1 13 (s / 6)).toInt
      · rw [if_neg (fun z => c1.mp z d3)]
        by_cases d4 : S.1 15 s = a
        · rw [if_pos d4, if_neg (by decide)]
          exact ⟨fun z => absurd z (by decide), fun z => absurd ⟨ha, d2, d3, d4, d1⟩ z⟩
        · rw [if_neg d4, if_pos rfl]
          exact ⟨fun _ z => d4 z.2.2.2.1, fun _ => rfl⟩
      · rw [if_pos (c1.mpr d3), if_pos rfl]
        exact ⟨fun _ z => d3 z.2.2.1, fun _ => rfl⟩
  · rw [if_neg d1]
    exact ⟨fun _ z => d1 z.2.2.2.2, fun _ => rfl⟩
def tl (p : Nat → Bool) (x : Int32) : List Nat → Nat → Int32 ⊕ Nat
  | [], c => .inr c
  | s :: t, c => if p s = true then (if nI c = x then .inl (nI (10 * (s / 6) + s % 6)) else tl p x t (c + 1)) else tl p x t c
theorem tl_c (p : Nat → Bool) (x : Int32) (s : Nat) (t : List Nat) (c : Nat) : tl p x (s :: t) c = if p s = true then (if nI c = x then .inl (nI (10 * (s / 6) + s % 6)) else tl p x t (c + 1)) else tl p x t c := rfl
theorem tl_app (p : Nat → Bool) (x : Int32) : ∀ (l1 l2 : List Nat) (c : Nat), tl p x (l1 ++ l2) c = Sum.elim (fun v => .inl v) (fun c' => tl p x l2 c') (tl p x l1 c)
  | [], l2, c => rfl
  | s :: t, l2, c => by
    rw [List.cons_append, tl_c, tl_c]
    by_cases d : p s = true
    · rw [if_pos d, if_pos d]
      by_cases e : nI c = x
      · rw [if_pos e, if_pos e]
        rfl
      · rw [if_neg e, if_neg e]
        exact tl_app p x t l2 (c + 1)
    · rw [if_neg d, if_neg d]
      exact tl_app p x t l2 c
theorem tl_none (p : Nat → Bool) (x : Int32) : ∀ (l : List Nat) (c : Nat), (∀ s, s ∈ l → p s = false) → tl p x l c = .inr c
  | [], c, _ => rfl
  | s :: t, c, h => by
    unfold tl
    rw [if_neg (by rw [h s List.mem_cons_self]; decide)]
    exact tl_none p x t c (fun y hy => h y (List.mem_cons_of_mem _ hy))
theorem told_C (S : hS) {s : Nat} (hs : s < 240) : FJO_told S (nI s) = nI (10 * (s / 6) + s % 6) := by
  rw [FJO_told_e, nI_m6 (by omega), nI_d6 (by omega)]
  apply Int32.toInt_inj.mp
  rw [ti_add (ti_mul (nI_toInt (by omega)) tl_10 (by omega) (by omega)) (nI_toInt (by omega)) (by omega) (by omega), nI_toInt (by omega)]
  omega
theorem told15 {S : hS} {a m : Int32} (x : Int32) (ha : ¬ FAC_has S a = 0) {N : Nat} (hN : N ≤ 240) : ∀ (k f s c : Nat), s + k = N → k < f → Sum.elim (fun q => q) (fun (qq : Int32 × Int32) => (fun (y9_4 : Int32) (y9_6 : Int32) => (-1)) qq.1 qq.2) (LJO_toldRow_15 f S a m x (nI c) (nI N) (nI s)) = Sum.elim (fun q => q) (fun _ => -1) (tl (stP S a m) x (List.range' s k) c)
  | k, 0, s, c, _, h => absurd h (Nat.not_lt_zero _)
  | 0, f + 1, s, c, hs, _ => by
    rw [LJO_toldRow_15_s, if_pos (nI_le (by omega) (by omega))]
    rfl
  | k + 1, f + 1, s, c, hs, hf => by
    rw [LJO_toldRow_15_s, if_neg (nI_ge (by omega) (by omega)), nI_1, nI_1, List.range'_succ]
    have pc := posted_C (S := S) (a := a) (m := m) (s := s) (by omega) ha
    unfold tl
    by_cases d : FJO_isPostedRowIn S (nI s) a m = 0
    · rw [if_pos d, if_neg (by rw [pc.mp d]; decide)]
      exact told15 x ha hN k f (s + 1) c (by omega) (by omega)
    · have p1 : stP S a m s = true := by
        cases z : stP S a m s with
        | true => rfl
        | false => exact absurd (pc.mpr z) d
      rw [if_neg d, if_pos p1]
      by_cases e : nI c = x
      · rw [if_pos e, if_pos e, told_C S (by omega)]
        rfl
      · rw [if_neg e, if_neg e]
        exact told15 x ha hN k f (s + 1) (c + 1) (by omega) (by omega)
/-- a row of the reference is told where the class's is -/
theorem st_cond {S S' : hS} (hR : Ra S.1 (S.2 50)) {n : Nat} (q : Rk n S.1 S.2 (S.2 50)) (h : S'.2 50 = S.2 50) (a m : Int32) {e r : Nat} (he : e < n) (h6 : r < 6) (hr : (r : Int) < (S.1 13 e).toInt) : stP S a m (6 * e + r) = true ↔ (¬ FMO_isAccount S' a = 0 ∧ ¬ S.2 50 (140 + e) ≤ 0 ∧ S.2 50 (100 + e) / 30 = m.toInt64 ∧ S.2 50 (300 + (6 * e + r)) = a.toInt64) := by
  have re := q.2.1 e he
  have w := q.2.2.2.1 e r he h6 hr
  have so := (st_open re).1
  have e1 : (6 * e + r) / 6 = e := by omega
  have e2 : (6 * e + r) % 6 = r := by omega
  have dd : S.1 11 e / 30 = m ↔ S.2 50 (100 + e) / 30 = m.toInt64 := by
    rw [← Int32.toInt_inj, ← Int64.toInt_inj, l32, ti_div rfl tl_30 re.2.1.1 (by omega), tj_div re.1.symm tq_30 re.2.1.1 (by omega)]
  have aa : S.1 15 (6 * e + r) = a ↔ S.2 50 (300 + (6 * e + r)) = a.toInt64 := by
    rw [← Int32.toInt_inj, ← Int64.toInt_inj, l32, w.1.2.2]
  have pp : ¬ S.1 12 e = 0 ↔ ¬ S.2 50 (140 + e) ≤ 0 := by
    refine not_congr (so.trans ?_)
    rw [Int64.le_iff_toInt_le, Int64.lt_iff_toInt_lt]
    omega
  unfold stP
  rw [decide_eq_true_iff, e1, e2, has_eq (S' := S') hR h a, dd, aa, pp]
  exact ⟨fun z => ⟨z.1, z.2.1, z.2.2.2.2, z.2.2.2.1⟩, fun z => ⟨z.1, z.2.1, hr, z.2.2.2, z.2.2.1⟩⟩
theorem st27 {S S' : hS} (hR : Ra S.1 (S.2 50)) {n : Nat} (q : Rk n S.1 S.2 (S.2 50)) (h : S'.2 50 = S.2 50) (a m x : Int32) {e rc : Nat} (he : e < n) (hrc : (S.1 13 e).toInt = (rc : Int)) : ∀ (k f r c : Nat), r + k = rc → k < f → LMO_statement_27 f S' a m x (nI c) (nI e) (nI r) = Sum.elim (fun v => .inl v) (fun c' => .inr (nI c', nI rc)) (tl (stP S a m) x (List.range' (6 * e + r) k) c)
  | k, 0, r, c, _, h => absurd h (Nat.not_lt_zero _)
  | 0, f + 1, r, c, hr, _ => by
    have re := (q.2.1 e he).2.2.1
    have hn := q.1.2.1
    rw [LMO_statement_27_s, ixC (c := 260) 260 rfl (by omega) (by omega), h, if_pos (by rw [Int64.le_iff_toInt_le, l32, ← re.1, hrc, nI_toInt (by omega)]; omega), show r = rc by omega]
    rfl
  | k + 1, f + 1, r, c, hr, hf => by
    have re := (q.2.1 e he).2.2.1
    have hn := q.1.2.1
    have sc := st_cond hR q h a m he (r := r) (by omega) (by rw [hrc]; omega)
    have i10 : 10 * nI e + nI r = nI (10 * ((6 * e + r) / 6) + (6 * e + r) % 6) := by
      apply Int32.toInt_inj.mp
      rw [ti_add (ti_mul tl_10 (nI_toInt (by omega)) (by omega) (by omega)) (nI_toInt (by omega)) (by omega) (by omega), nI_toInt (by omega)]
      omega
    rw [LMO_statement_27_s, ixC (c := 260) 260 rfl (by omega) (by omega), h, if_neg (by rw [Int64.le_iff_toInt_le, l32, ← re.1, hrc, nI_toInt (by omega)]; omega), ixC (c := 140) 140 rfl (by omega) (by omega), ixC (c := 100) 100 rfl (by omega) (by omega), ix6 (c := 300) 300 rfl (by omega) (by omega) (by omega), nI_0a, nI_1, nI_1, i10, List.range'_succ]
    have sk := st27 hR q h a m x he hrc k f (r + 1) c (by omega) (by omega)
    rw [show 6 * e + (r + 1) = 6 * e + r + 1 by omega] at sk
    unfold tl
    by_cases d1 : FMO_isAccount S' a = 0
    · rw [if_pos d1, if_neg (fun z => (sc.mp z).1 d1)]
      exact sk
    rw [if_neg d1]
    by_cases d2 : S.2 50 (140 + e) ≤ 0
    · rw [if_pos d2, if_neg (fun z => (sc.mp z).2.1 d2)]
      exact sk
    rw [if_neg d2]
    by_cases d3 : S.2 50 (100 + e) / 30 = m.toInt64
    · rw [if_pos d3]
      by_cases d4 : S.2 50 (300 + (6 * e + r)) = a.toInt64
      · rw [if_pos d4, if_pos (sc.mpr ⟨d1, d2, d3, d4⟩)]
        by_cases z : nI c = x
        · rw [if_pos z, if_pos z]
          rfl
        · rw [if_neg z, if_neg z]
          have sk1 := st27 hR q h a m x he hrc k f (r + 1) (c + 1) (by omega) (by omega)
          rw [show 6 * e + (r + 1) = 6 * e + r + 1 by omega] at sk1
          exact sk1
      · rw [if_neg d4, if_neg (fun z => d4 (sc.mp z).2.2.2)]
        exact sk
    · rw [if_neg d3, if_neg (fun z => d3 (sc.mp z).2.2.1)]
      exact sk
theorem st11 {S S' : hS} (hR : Ra S.1 (S.2 50)) {n : Nat} (q : Rk n S.1 S.2 (S.2 50)) (h : S'.2 50 = S.2 50) (a m x : Int32) : ∀ (k f e c : Nat), e + k = n → k < f → LMO_statement_11 f S' a m x (nI c) (nI e) = Sum.elim (fun v => .inl v) (fun c' => .inr (nI c', nI n)) (tl (stP S a m) x (List.range' (6 * e) (6 * k)) c)
  | k, 0, e, c, _, h => absurd h (Nat.not_lt_zero _)
  | 0, f + 1, e, c, he, _ => by
    have hn := q.1.2.1
    rw [LMO_statement_11_s, h, if_pos (by rw [Int64.le_iff_toInt_le, l32, q.1.2.2.1, nI_toInt (by omega)]; omega), show e = n by omega]
    rfl
  | k + 1, f + 1, e, c, he, hf => by
    have hn := q.1.2.1
    have re := (q.2.1 e (by omega)).2.2.1
    have cr := cl_toInt re.2.1
    generalize (S.1 13 e).toNatClampNeg = rc at cr
    have sp : List.range' (6 * e) (6 * (k + 1)) = List.range' (6 * e) rc ++ (List.range' (6 * e + rc) (6 - rc) ++ List.range' (6 * (e + 1)) (6 * k)) := by
      rw [show 6 * (e + 1) = 6 * e + rc + (6 - rc) by omega, List.range'_append_1, List.range'_append_1]
      congr 1
      omega
    have i27 := st27 hR q h a m x (e := e) (rc := rc) (by omega) cr.symm rc 300 0 c (by omega) (by omega)
    rw [nI_0, Nat.add_zero] at i27
    rw [LMO_statement_11_s, h, if_neg (by rw [Int64.le_iff_toInt_le, l32, q.1.2.2.1, nI_toInt (by omega)]; omega), i27, nI_1, sp, tl_app]
    cases tl (stP S a m) x (List.range' (6 * e) rc) c with
    | inl v => rfl
    | inr c' =>
      have z := tl_none (stP S a m) x (List.range' (6 * e + rc) (6 - rc)) c' (fun s hs => by
        have := List.mem_range'_1.mp hs
        unfold stP
        rw [show s / 6 = e by omega]
        exact decide_eq_false (fun y => by
          have := y.2.2.1
          omega))
      show LMO_statement_11 f S' a m x (nI c') (nI (e + 1)) = Sum.elim _ _ (tl (stP S a m) x (List.range' (6 * e + rc) (6 - rc) ++ List.range' (6 * (e + 1)) (6 * k)) c')
      rw [tl_app, z]
      exact st11 hR q h a m x k f (e + 1) c' (by omega) (by omega)
theorem q_statement {S : hS} (hI : I0 S) (hR : Rl S) (hJ : Rj S) (x1 x2 x3 : Int32) : FHL_statement S x1 x2 x3 = (FMO_statement S x1 x2 x3).1 := by
  obtain ⟨n, q⟩ := hJ.1
  have h0 := q.1.1.1
  have hn := q.1.1.2.1
  have m := st11 (S' := sI S 49 4 0) hR.2.1 q.1 rfl x1 x2 x3 n 300 0 0 (by omega) (by omega)
  rw [nI_0, Nat.mul_zero] at m
  have e : (FMO_statement S x1 x2 x3).1 = Sum.elim (fun v => v) (fun _ => -1) (tl (stP S x1 x2) x3 (List.range' 0 (6 * n)) 0) := by
    rw [FMO_statement_e, m]
    cases tl (stP S x1 x2) x3 (List.range' 0 (6 * n)) 0 <;> rfl
  rw [e, FHL_statement_e]
  by_cases c1 : FAC_has S x1 = 0
  · rw [if_pos c1, tl_none _ _ _ _ (fun s _ => by unfold stP; exact decide_eq_false (fun y => y.1 c1))]
    rfl
  rw [if_neg c1]
  by_cases c2 : FHL_isMonth S x2 = 0
  · rw [if_pos c2, tl_none _ _ _ _ (fun s hs => by
      have hs := List.mem_range'_1.mp hs
      have re := (q.1.2.1 (s / 6) (by omega)).2.1
      unfold stP
      refine decide_eq_false (fun y => ?_)
      have y5 := y.2.2.2.2
      have e120 : (120 : Int32).toInt = 120 := by decide
      have d := congrArg Int32.toInt y5
      rw [ti_div rfl tl_30 re.1 (by omega)] at d
      rw [FHL_isMonth_e, if_neg (by rw [Int32.lt_iff_toInt_lt, tl_0]; omega), if_neg (by rw [Int32.le_iff_toInt_le, e120]; omega)] at c2
      exact absurd c2 (by decide))]
    rfl
  rw [if_neg c2, FJO_toldRow_e, h0, nI_x6 (by omega)]
  have t := told15 (S := S) (a := x1) (m := x2) x3 c1 (N := 6 * n) (by omega) (6 * n) 300 0 0 (by omega) (by omega)
  rw [nI_0] at t
  exact t
/-! tax -/
def sF (p : Nat → Bool) (g : Nat → Int64) : List Nat → Int64
  | [] => 0
  | s :: t => (if p s = true then g s else 0) + sF p g t
theorem sF_c (p : Nat → Bool) (g : Nat → Int64) (s : Nat) (t : List Nat) : sF p g (s :: t) = (if p s = true then g s else 0) + sF p g t := rfl
theorem sF_cg {p p' : Nat → Bool} {g g' : Nat → Int64} : ∀ (l : List Nat), (∀ s, s ∈ l → p s = p' s ∧ (p s = true → g s = g' s)) → sF p g l = sF p' g' l
  | [], _ => rfl
  | s :: t, h => by
    obtain ⟨a, b⟩ := h s List.mem_cons_self
    unfold sF
    rw [sF_cg t (fun x hx => h x (List.mem_cons_of_mem _ hx)), ← a]
    by_cases c : p s = true
    · rw [if_pos c, if_pos c, b c]
    · rw [if_neg c, if_neg c]
theorem sF_app (p : Nat → Bool) (g : Nat → Int64) : ∀ (l1 l2 : List Nat), sF p g (l1 ++ l2) = sF p g l1 + sF p g l2
  | [], l2 => (Int64.zero_add _).symm
  | s :: t, l2 => by
    rw [List.cons_append, sF_c, sF_c]
    rw [sF_app p g t l2, Int64.add_assoc]
theorem sF_0 (p : Nat → Bool) (g : Nat → Int64) : ∀ (l : List Nat), (∀ s, s ∈ l → p s = false) → sF p g l = 0
  | [], _ => rfl
  | s :: t, h => by
    unfold sF
    rw [if_neg (by rw [h s List.mem_cons_self]; decide), sF_0 p g t (fun x hx => h x (List.mem_cons_of_mem _ hx))]
    rfl
theorem sF_or {p q r : Nat → Bool} (g : Nat → Int64) : ∀ (l : List Nat), (∀ s, s ∈ l → (r s = true ↔ p s = true ∨ q s = true) ∧ ¬ (p s = true ∧ q s = true)) → sF r g l = sF p g l + sF q g l
  | [], _ => rfl
  | s :: t, h => by
    obtain ⟨a, b⟩ := h s List.mem_cons_self
    have e : (if r s = true then g s else 0) = (if p s = true then g s else 0) + (if q s = true then g s else 0) := by
      by_cases c : p s = true
      · have d : ¬ q s = true := fun z => b ⟨c, z⟩
        rw [if_pos (a.mpr (Or.inl c)), if_pos c, if_neg d, Int64.add_zero]
      · by_cases d : q s = true
        · rw [if_pos (a.mpr (Or.inr d)), if_neg c, if_pos d, Int64.zero_add]
        · rw [if_neg (fun z => by rcases a.mp z with z | z; exact c z; exact d z), if_neg c, if_neg d]
          rfl
    unfold sF
    rw [sF_or g t (fun x hx => h x (List.mem_cons_of_mem _ hx)), e]
    ac_rfl
theorem sF_bd {p : Nat → Bool} {g : Nat → Int64} {B : Int} (hB : 0 ≤ B ∧ B ≤ 1000000000000000) : ∀ (l : List Nat), l.length ≤ 1000 → (∀ s, s ∈ l → p s = true → -B ≤ (g s).toInt ∧ (g s).toInt ≤ B) → -(B * l.length) ≤ (sF p g l).toInt ∧ (sF p g l).toInt ≤ B * l.length
  | [], _, _ => by
    unfold sF
    rw [tq_0]
    simp
  | s :: t, hl, h => by
    have hl' : t.length + 1 ≤ 1000 := by simpa using hl
    have ih := sF_bd hB t (by omega) (fun x hx => h x (List.mem_cons_of_mem _ hx))
    have e : B * ((s :: t).length : Int) = B * (t.length : Int) + B := by
      rw [List.length_cons]
      push_cast
      rw [Int.mul_add, Int.mul_one]
    have b1 : B * (t.length : Int) ≤ 1000000000000000 * 1000 := Int.mul_le_mul hB.2 (by omega) (by omega) (by omega)
    have b2 : 0 ≤ B * (t.length : Int) := Int.mul_nonneg hB.1 (by omega)
    have hd : -B ≤ (if p s = true then g s else 0).toInt ∧ (if p s = true then g s else 0).toInt ≤ B := by
      by_cases c : p s = true
      · rw [if_pos c]
        exact h s List.mem_cons_self c
      · rw [if_neg c, tq_0]
        omega
    unfold sF
    rw [e, tj_add rfl rfl (by omega) (by omega)]
    omega
theorem sumIn14 {S : hS} {a m : Int32} (ha : ¬ FAC_has S a = 0) {N : Nat} (hN : N ≤ 240) : ∀ (k f s : Nat) (acc : Int64), s + k = N → k < f → (LJO_sumIn_14 f S a m acc (nI N) (nI s)).1 = acc + sF (stP S a m) (S.2 16) (List.range' s k)
  | k, 0, s, acc, _, h => absurd h (Nat.not_lt_zero _)
  | 0, f + 1, s, acc, hs, _ => by
    rw [LJO_sumIn_14_s, if_pos (nI_le (by omega) (by omega))]
    exact (Int64.add_zero _).symm
  | k + 1, f + 1, s, acc, hs, hf => by
    have pc := posted_C (S := S) (a := a) (m := m) (s := s) (by omega) ha
    rw [LJO_sumIn_14_s, if_neg (nI_ge (by omega) (by omega)), nI_1, nI_clamp (by omega), List.range'_succ]
    unfold sF
    by_cases d : FJO_isPostedRowIn S (nI s) a m = 0
    · rw [if_pos d, if_neg (by rw [pc.mp d]; decide), Int64.zero_add]
      exact sumIn14 ha hN k f (s + 1) acc (by omega) (by omega)
    · have p1 : stP S a m s = true := by
        cases z : stP S a m s with
        | true => rfl
        | false => exact absurd (pc.mpr z) d
      rw [if_neg d, if_pos p1, sumIn14 ha hN k f (s + 1) _ (by omega) (by omega), Int64.add_assoc]
def taxP (S : hS) (m : Int32) (s : Nat) : Bool := decide (¬ S.1 12 (s / 6) = 0 ∧ ((s % 6 : Nat) : Int) < (S.1 13 (s / 6)).toInt ∧ kdC S.1 s = 2 ∧ S.1 11 (s / 6) / 30 = m)
def taxK (S : hS) (m : Int32) (k : Nat) (s : Nat) : Bool := taxP S m s && decide ((S.1 15 s).toInt < (k : Int))
theorem inc5 {S : hS} (hI : wfC S) {n c : Nat} (q : Rk n S.1 S.2 (S.2 50)) (hc : S.1 2 0 = nI c) (c8 : c ≤ 8) (m : Int32) : ∀ (k f i : Nat), i + k = c → k < f → (LBO_incomeOf_5 f S m (sF (taxK S m i) (S.2 16) (List.range' 0 (6 * n))) (nI i)).1 = sF (taxK S m c) (S.2 16) (List.range' 0 (6 * n))
  | k, 0, i, _, h => absurd h (Nat.not_lt_zero _)
  | 0, f + 1, i, hi, _ => by
    rw [LBO_incomeOf_5_s, hc, if_pos (nI_le (by omega) (by omega)), show i = c by omega]
  | k + 1, f + 1, i, hi, hf => by
    have h0 := q.1.1
    have hn := q.1.2.1
    have ha : ¬ FAC_has S (nI i) = 0 := by
      rw [FAC_has_e, if_neg (nI_pos (by omega)), hc, if_neg (nI_ge (by omega) (by omega))]
      decide
    have si : FJO_sumIn S (nI i) m = sF (stP S (nI i) m) (S.2 16) (List.range' 0 (6 * n)) := by
      have t := sumIn14 (S := S) (a := nI i) (m := m) ha (N := 6 * n) (by omega) (6 * n) 300 0 0 (by omega) (by omega)
      rw [nI_0, Int64.zero_add] at t
      rw [FJO_sumIn_e, h0, nI_x6 (by omega)]
      exact t
    -- what is in reach of row s
    have rows : ∀ s, s ∈ List.range' 0 (6 * n) → ((s % 6 : Nat) : Int) < (S.1 13 (s / 6)).toInt → 0 ≤ (S.1 15 s).toInt := fun s hs hr => by
      have hs := List.mem_range'_1.mp hs
      have w := q.2.2.2.1 (s / 6) (s % 6) (by omega) (by omega) hr
      rw [show 6 * (s / 6) + s % 6 = s by omega] at w
      exact w.1.1
    rw [LBO_incomeOf_5_s, hc, if_neg (nI_ge (by omega) (by omega)), nI_clamp (by omega), nI_1]
    by_cases d : S.1 3 i = 2
    · rw [if_pos d, si, ← sF_or (r := taxK S m (i + 1)) (S.2 16) (List.range' 0 (6 * n)) (fun s hs => ?_)]
      · exact inc5 hI q hc c8 m k f (i + 1) (by omega) (by omega)
      · unfold taxK stP taxP
        rw [Bool.and_eq_true, Bool.and_eq_true, decide_eq_true_iff, decide_eq_true_iff, decide_eq_true_iff, decide_eq_true_iff]
        refine ⟨⟨fun z => ?_, fun z => ?_⟩, fun z => ?_⟩
        · by_cases w : (S.1 15 s).toInt < (i : Int)
          · exact Or.inl ⟨z.1, w⟩
          · have z2 := z.2
            have e : S.1 15 s = nI i := Int32.toInt_inj.mp (by rw [nI_toInt (by omega)]; push_cast at z2; omega)
            exact Or.inr ⟨ha, z.1.1, z.1.2.1, e, z.1.2.2.2⟩
        · rcases z with z | z
          · exact ⟨z.1, by have := z.2; push_cast; omega⟩
          · have e := z.2.2.2.1
            refine ⟨⟨z.2.1, z.2.2.1, ?_, z.2.2.2.2⟩, ?_⟩
            · unfold kdC
              rw [e, nI_clamp (by omega)]
              exact d
            · rw [e, nI_toInt (by omega)]
              push_cast
              omega
        · have e := z.2.2.2.2.1
          have z2 := z.1.2
          rw [e, nI_toInt (by omega)] at z2
          omega
    · rw [if_neg d, sF_cg (p := taxK S m i) (p' := taxK S m (i + 1)) (g' := S.2 16) (List.range' 0 (6 * n)) (fun s hs => ⟨?_, fun _ => rfl⟩)]
      · exact inc5 hI q hc c8 m k f (i + 1) (by omega) (by omega)
      · unfold taxK
        by_cases t : taxP S m s = true
        · rw [t, Bool.true_and, Bool.true_and]
          refine decide_eq_decide.mpr ⟨fun z => by push_cast; omega, fun z => ?_⟩
          have t' := t
          unfold taxP at t'
          have t' := of_decide_eq_true t'
          have a0 := rows s hs t'.2.1
          by_cases w : (S.1 15 s).toInt = (i : Int)
          · have e : S.1 15 s = nI i := Int32.toInt_inj.mp (by rw [nI_toInt (by omega)]; exact w)
            have kd := t'.2.2.1
            unfold kdC at kd
            rw [e, nI_clamp (by omega)] at kd
            exact absurd kd d
          · push_cast at z
            omega
        · have t0 : taxP S m s = false := by
            cases z : taxP S m s with
            | true => exact absurd z t
            | false => rfl
          rw [t0, Bool.false_and, Bool.false_and]
theorem tax26 {S S' : hS} (hR : Ra S.1 (S.2 50)) {n : Nat} (q : Rk n S.1 S.2 (S.2 50)) (h : S'.2 50 = S.2 50) (m : Int32) {e rc : Nat} (he : e < n) (hrc : (S.1 13 e).toInt = (rc : Int)) : ∀ (k f r : Nat) (acc : Int64), r + k = rc → k < f → (LMO_tax_26 f S' m acc (nI e) (nI r)).1 = acc + sF (taxP S m) (S.2 16) (List.range' (6 * e + r) k)
  | k, 0, r, acc, _, h => absurd h (Nat.not_lt_zero _)
  | 0, f + 1, r, acc, hr, _ => by
    have re := (q.2.1 e he).2.2.1
    have hn := q.1.2.1
    rw [LMO_tax_26_s, ixC (c := 260) 260 rfl (by omega) (by omega), h, if_pos (by rw [Int64.le_iff_toInt_le, l32, ← re.1, hrc, nI_toInt (by omega)]; omega)]
    exact (Int64.add_zero _).symm
  | k + 1, f + 1, r, acc, hr, hf => by
    have re' := q.2.1 e he
    have re := re'.2.2.1
    have hn := q.1.2.1
    have hc8 := q.1.2.2.2
    have w := q.2.2.2.1 e r he (by omega) (by rw [hrc]; omega)
    have ek : (S.1 15 (6 * e + r)).toNatClampNeg < 8 := by
      have := cl_toInt w.1.1
      have := w.1.2.1
      omega
    have e32 : (S.2 50 (300 + (6 * e + r))).toInt32 = nI (S.1 15 (6 * e + r)).toNatClampNeg := by
      rw [nI_cl w.1.1]
      apply Int32.toInt_inj.mp
      have := w.1.2.1
      have := w.1.1
      rw [ti_32 w.1.2.2 (by omega) (by omega)]
    have kk := hR.2.2.1 _ ek (by have := cl_toInt w.1.1; have := w.1.2.1; omega)
    have ki : S.2 50 (10 + (S.1 15 (6 * e + r)).toNatClampNeg) = 2 ↔ kdC S.1 (6 * e + r) = 2 := by
      unfold kdC
      rw [← Int64.toInt_inj, ← Int32.toInt_inj, ← kk, tl_2, tq_2]
    have dd : S.1 11 e / 30 = m ↔ S.2 50 (100 + e) / 30 = m.toInt64 := by
      rw [← Int32.toInt_inj, ← Int64.toInt_inj, l32, ti_div rfl tl_30 re'.2.1.1 (by omega), tj_div re'.1.symm tq_30 re'.2.1.1 (by omega)]
    have pp : S.1 12 e = 0 ↔ S.2 50 (140 + e) ≤ 0 := by
      refine (st_open re').1.trans ?_
      rw [Int64.le_iff_toInt_le, Int64.lt_iff_toInt_lt]
      omega
    have tp : taxP S m (6 * e + r) = true ↔ (¬ S.2 50 (140 + e) ≤ 0 ∧ S.2 50 (100 + e) / 30 = m.toInt64 ∧ S.2 50 (10 + (S.1 15 (6 * e + r)).toNatClampNeg) = 2) := by
      unfold taxP
      rw [decide_eq_true_iff, show (6 * e + r) / 6 = e by omega, show (6 * e + r) % 6 = r by omega, pp, dd, ki]
      exact ⟨fun z => ⟨z.1, z.2.2.2, z.2.2.1⟩, fun z => ⟨z.1, by rw [hrc]; omega, z.2.2, z.2.1⟩⟩
    have ih : ∀ acc', (LMO_tax_26 f S' m acc' (nI e) (nI (r + 1))).1 = acc' + sF (taxP S m) (S.2 16) (List.range' (6 * e + r + 1) k) := fun acc' => by
      have := tax26 hR q h m he hrc k f (r + 1) acc' (by omega) (by omega)
      rw [show 6 * e + (r + 1) = 6 * e + r + 1 by omega] at this
      exact this
    rw [LMO_tax_26_s, ixC (c := 260) 260 rfl (by omega) (by omega), h, if_neg (by rw [Int64.le_iff_toInt_le, l32, ← re.1, hrc, nI_toInt (by omega)]; omega), ixC (c := 140) 140 rfl (by omega) (by omega), ixC (c := 100) 100 rfl (by omega) (by omega), ix6' (c := 300) 300 rfl (by omega) (by omega) (by omega), ix6' (c := 540) 540 rfl (by omega) (by omega) (by omega), e32, ixC (c := 10) 10 rfl (by omega) (by omega), Int64.add_zero, nI_1, List.range'_succ, w.2.1.1]
    unfold sF
    by_cases d1 : S.2 50 (140 + e) ≤ 0
    · rw [if_pos d1, if_neg (fun z => (tp.mp z).1 d1), Int64.zero_add]
      exact ih acc
    rw [if_neg d1]
    by_cases d2 : S.2 50 (100 + e) / 30 = m.toInt64
    · rw [if_pos d2]
      by_cases d3 : S.2 50 (10 + (S.1 15 (6 * e + r)).toNatClampNeg) = 2
      · rw [if_pos d3, if_pos (tp.mpr ⟨d1, d2, d3⟩), ih, Int64.add_assoc]
      · rw [if_neg d3, if_neg (fun z => d3 (tp.mp z).2.2), Int64.zero_add]
        exact ih acc
    · rw [if_neg d2, if_neg (fun z => d2 (tp.mp z).2.1), Int64.zero_add]
      exact ih acc
theorem tax10 {S S' : hS} (hR : Ra S.1 (S.2 50)) {n : Nat} (q : Rk n S.1 S.2 (S.2 50)) (h : S'.2 50 = S.2 50) (m : Int32) : ∀ (k f e : Nat) (acc : Int64), e + k = n → k < f → (LMO_tax_10 f S' m acc (nI e)).1 = acc + sF (taxP S m) (S.2 16) (List.range' (6 * e) (6 * k))
  | k, 0, e, acc, _, h => absurd h (Nat.not_lt_zero _)
  | 0, f + 1, e, acc, he, _ => by
    have hn := q.1.2.1
    rw [LMO_tax_10_s, h, if_pos (by rw [Int64.le_iff_toInt_le, l32, q.1.2.2.1, nI_toInt (by omega)]; omega)]
    exact (Int64.add_zero _).symm
  | k + 1, f + 1, e, acc, he, hf => by
    have hn := q.1.2.1
    have re := (q.2.1 e (by omega)).2.2.1
    have cr := cl_toInt re.2.1
    generalize (S.1 13 e).toNatClampNeg = rc at cr
    have sp : List.range' (6 * e) (6 * (k + 1)) = List.range' (6 * e) rc ++ (List.range' (6 * e + rc) (6 - rc) ++ List.range' (6 * (e + 1)) (6 * k)) := by
      rw [show 6 * (e + 1) = 6 * e + rc + (6 - rc) by omega, List.range'_append_1, List.range'_append_1]
      congr 1
      omega
    have i26 := tax26 hR q h m (e := e) (rc := rc) (by omega) cr.symm rc 300 0 acc (by omega) (by omega)
    rw [nI_0, Nat.add_zero] at i26
    have z := sF_0 (taxP S m) (S.2 16) (List.range' (6 * e + rc) (6 - rc)) (fun s hs => by
      have := List.mem_range'_1.mp hs
      unfold taxP
      rw [show s / 6 = e by omega]
      exact decide_eq_false (fun y => by
        have := y.2.1
        omega))
    rw [LMO_tax_10_s, h, if_neg (by rw [Int64.le_iff_toInt_le, l32, q.1.2.2.1, nI_toInt (by omega)]; omega)]
    dsimp only
    rw [i26, nI_1, tax10 hR q h m k f (e + 1) _ (by omega) (by omega), sp, sF_app, sF_app, z, Int64.zero_add, Int64.add_assoc]
theorem q_tax {S : hS} (hI : I0 S) (hR : Rl S) (hJ : Rj S) (x1 : Int32) : FHL_tax S x1 = (FMO_tax S x1).1 := by
  obtain ⟨n, q⟩ := hJ.1
  have hn := q.1.1.2.1
  have hc := hI.1.1
  unfold bt at hc
  have cl := cl_toInt hc.1
  have ec := nI_cl hc.1
  generalize (S.1 2 0).toNatClampNeg = c at cl ec
  have t := tax10 (S' := sI S 49 4 0) hR.2.1 q.1 rfl x1 n 300 0 0 (by omega) (by omega)
  rw [nI_0, Nat.mul_zero, Int64.zero_add] at t
  have inc : FBO_incomeOf S x1 = sF (taxP S x1) (S.2 16) (List.range' 0 (6 * n)) := by
    have i := inc5 hI.1 q.1 ec.symm (by omega) x1 c 300 0 (by omega) (by omega)
    have z : sF (taxK S x1 0) (S.2 16) (List.range' 0 (6 * n)) = 0 := sF_0 _ _ _ (fun s hs => by
      have hs := List.mem_range'_1.mp hs
      unfold taxK
      by_cases t : taxP S x1 s = true
      · rw [t, Bool.true_and]
        unfold taxP at t
        have t := of_decide_eq_true t
        have w := q.1.2.2.2.1 (s / 6) (s % 6) (by omega) (by omega) t.2.1
        rw [show 6 * (s / 6) + s % 6 = s by omega] at w
        exact decide_eq_false (by have := w.1.1; omega)
      · cases z : taxP S x1 s with
        | true => exact absurd z t
        | false => rfl)
    rw [z, nI_0] at i
    rw [FBO_incomeOf_e]
    refine i.trans (sF_cg _ (fun s hs => ⟨?_, fun _ => rfl⟩))
    have hs := List.mem_range'_1.mp hs
    unfold taxK
    by_cases t : taxP S x1 s = true
    · rw [t, Bool.true_and]
      unfold taxP at t
      have t := of_decide_eq_true t
      have w := q.1.2.2.2.1 (s / 6) (s % 6) (by omega) (by omega) t.2.1
      rw [show 6 * (s / 6) + s % 6 = s by omega] at w
      exact decide_eq_true (by have := w.1.2.1; omega)
    · cases z : taxP S x1 s with
      | true => exact absurd z t
      | false => rfl
  have bd := sF_bd (p := taxP S x1) (g := S.2 16) (B := 100000000) ⟨by omega, by omega⟩ (List.range' 0 (6 * n)) (by rw [List.length_range']; omega) (fun s hs hp => by
    have hs := List.mem_range'_1.mp hs
    unfold taxP at hp
    have hp := of_decide_eq_true hp
    have w := q.1.2.2.2.1 (s / 6) (s % 6) (by omega) (by omega) hp.2.1
    rw [show 6 * (s / 6) + s % 6 = s by omega] at w
    exact w.2.1.2.2)
  rw [List.length_range'] at bd
  have e : (FMO_tax S x1).1 = if 0 ≤ sF (taxP S x1) (S.2 16) (List.range' 0 (6 * n)) then 0 else (19 * (-(sF (taxP S x1) (S.2 16) (List.range' 0 (6 * n))))) / 100 := by
    rw [FMO_tax_e]
    dsimp only
    rw [t]
    split <;> rfl
  rw [e, FHL_tax_e, inc]
  have zero : FHL_isMonth S x1 = 0 → sF (taxP S x1) (S.2 16) (List.range' 0 (6 * n)) = 0 := fun c2 => sF_0 _ _ _ (fun s hs => by
    have hs := List.mem_range'_1.mp hs
    have re := (q.1.2.1 (s / 6) (by omega)).2.1
    unfold taxP
    refine decide_eq_false (fun y => ?_)
    have y5 := y.2.2.2
    have e120 : (120 : Int32).toInt = 120 := by decide
    have d := congrArg Int32.toInt y5
    rw [ti_div rfl tl_30 re.1 (by omega)] at d
    rw [FHL_isMonth_e, if_neg (by rw [Int32.lt_iff_toInt_lt, tl_0]; omega), if_neg (by rw [Int32.le_iff_toInt_le, e120]; omega)] at c2
    exact absurd c2 (by decide))
  generalize sF (taxP S x1) (S.2 16) (List.range' 0 (6 * n)) = v at bd zero ⊢
  have nv : (-v).toInt = -v.toInt := by
    rw [show -v = 0 - v by rw [Int64.zero_sub], tj_sub tq_0 rfl (by omega) (by omega)]
    omega
  by_cases c2 : FHL_isMonth S x1 = 0
  · rw [if_pos c2, zero c2, if_pos (by decide)]
  rw [if_neg c2]
  by_cases d : 0 ≤ v
  · rw [if_pos d, if_neg (by rw [Int64.lt_iff_toInt_lt, nv, tq_0]; rw [Int64.le_iff_toInt_le, tq_0] at d; omega)]
  · rw [if_neg d, if_pos (by rw [Int64.lt_iff_toInt_lt, nv, tq_0]; rw [Int64.le_iff_toInt_le, tq_0] at d; omega), Int64.mul_comm]
/-! sums over an account's items, and whether one is late -/
def sumL (g : Nat → Int64) : List Nat → Int64
  | [] => 0
  | s :: t => g s + sumL g t
theorem sumL_c (g : Nat → Int64) (s : Nat) (t : List Nat) : sumL g (s :: t) = g s + sumL g t := rfl
theorem sumL_perm (g : Nat → Int64) {l l' : List Nat} (h : l.Perm l') : sumL g l = sumL g l' := by
  induction h with
  | nil => rfl
  | cons x _ ih => unfold sumL; rw [ih]
  | swap x y l =>
    show g y + (g x + sumL g l) = g x + (g y + sumL g l)
    ac_rfl
  | trans _ _ ih1 ih2 => exact ih1.trans ih2
theorem sumL_cg {g g' : Nat → Int64} : ∀ (l : List Nat), (∀ s, s ∈ l → g s = g' s) → sumL g l = sumL g' l
  | [], _ => rfl
  | s :: t, h => by
    unfold sumL
    rw [h s List.mem_cons_self, sumL_cg t (fun x hx => h x (List.mem_cons_of_mem _ hx))]
theorem sumL_bd {g : Nat → Int64} {B : Int} (hB : 0 ≤ B ∧ B ≤ 1000000000000000) : ∀ (l : List Nat), l.length ≤ 1000 → (∀ s, s ∈ l → 0 ≤ (g s).toInt ∧ (g s).toInt ≤ B) → 0 ≤ (sumL g l).toInt ∧ (sumL g l).toInt ≤ B * l.length
  | [], _, _ => by
    unfold sumL
    rw [tq_0]
    simp
  | s :: t, hl, h => by
    have hl' : t.length + 1 ≤ 1000 := by simpa using hl
    have ih := sumL_bd hB t (by omega) (fun x hx => h x (List.mem_cons_of_mem _ hx))
    have e : B * ((s :: t).length : Int) = B * (t.length : Int) + B := by
      rw [List.length_cons]
      push_cast
      rw [Int.mul_add, Int.mul_one]
    have b1 : B * (t.length : Int) ≤ 1000000000000000 * 1000 := Int.mul_le_mul hB.2 (by omega) (by omega) (by omega)
    have hd := h s List.mem_cons_self
    unfold sumL
    rw [e, tj_add rfl rfl (by omega) (by omega)]
    omega
theorem slt240 {S : hS} (hw : wfC S) {p : Nat} (hp : p < 240) : sltC S.1 p < 240 := by
  have hb := hw.2.2.2.2.2.2.1 (p / 6) (by omega)
  unfold rg at hb
  have hc := cl_toInt hb.1
  unfold sltC byC
  omega
theorem nI_nm {s : Nat} (h : s < 240) : ¬ nI s = -1 := fun z => by
  have := congrArg Int32.toInt z
  rw [nI_toInt (by omega), tl_m1] at this
  omega
theorem due14 {S : hS} (hw : wfC S) (a : Int32) {N : Nat} (hN : N ≤ 240) : ∀ (k f p : Nat) (acc : Int64), p + k = N → k < f → (LJO_dueOf_14 f S a acc (nI N) (nI p)).1 = acc + sumL (S.2 17) ((LpC S.1 p k).filter (itmC S.1 S.2 a))
  | k, 0, p, acc, _, h => absurd h (Nat.not_lt_zero _)
  | 0, f + 1, p, acc, hp, _ => by
    rw [LJO_dueOf_14_s, if_pos (nI_le (by omega) (by omega))]
    exact (Int64.add_zero _).symm
  | k + 1, f + 1, p, acc, hp, hf => by
    have el : LpC S.1 p (k + 1) = sltC S.1 p :: LpC S.1 (p + 1) k := by
      unfold LpC
      rw [List.range'_succ, List.map_cons]
    rw [LJO_dueOf_14_s, if_neg (nI_ge (by omega) (by omega)), itemAt_C hw a (by omega), nI_1, el]
    by_cases d : itmC S.1 S.2 a (sltC S.1 p) = true
    · have s240 := slt240 hw (p := p) (by omega)
      rw [if_pos d, if_neg (nI_nm s240), nI_clamp (by omega), List.filter_cons_of_pos d, due14 hw a hN k f (p + 1) _ (by omega) (by omega)]
      rw [sumL_c, Int64.add_assoc]
    · rw [if_neg d, if_pos rfl, List.filter_cons_of_neg d]
      exact due14 hw a hN k f (p + 1) acc (by omega) (by omega)
/-- how late an item is -/
def ltC (S : hS) (d : Int32) (s : Nat) : Int32 := FJO_daysLate S (nI s) d
theorem cent14 {S : hS} (hw : wfC S) (a d : Int32) {N : Nat} (hN : N ≤ 240) : ∀ (k f p : Nat) (acc : Int64), p + k = N → k < f → (LJO_centDays_14 f S a d acc (nI N) (nI p)).1 = acc + sumL (fun s => S.2 17 s * (ltC S d s).toInt64) ((LpC S.1 p k).filter (itmC S.1 S.2 a))
  | k, 0, p, acc, _, h => absurd h (Nat.not_lt_zero _)
  | 0, f + 1, p, acc, hp, _ => by
    rw [LJO_centDays_14_s, if_pos (nI_le (by omega) (by omega))]
    exact (Int64.add_zero _).symm
  | k + 1, f + 1, p, acc, hp, hf => by
    have el : LpC S.1 p (k + 1) = sltC S.1 p :: LpC S.1 (p + 1) k := by
      unfold LpC
      rw [List.range'_succ, List.map_cons]
    rw [LJO_centDays_14_s, if_neg (nI_ge (by omega) (by omega)), itemAt_C hw a (by omega), nI_1, el]
    by_cases e : itmC S.1 S.2 a (sltC S.1 p) = true
    · have s240 := slt240 hw (p := p) (by omega)
      rw [if_pos e, if_neg (nI_nm s240), nI_clamp (by omega), List.filter_cons_of_pos e, cent14 hw a d hN k f (p + 1) _ (by omega) (by omega)]
      rw [sumL_c, Int64.add_assoc]
      rfl
    · rw [if_neg e, if_pos rfl, List.filter_cons_of_neg e]
      exact cent14 hw a d hN k f (p + 1) acc (by omega) (by omega)
theorem over11 {S : hS} (hw : wfC S) (a d : Int32) {N : Nat} (hN : N ≤ 240) : ∀ (k f p : Nat), p + k = N → k < f → (Sum.elim (fun q => q) (fun (qq : Int32) => (fun (y14_4 : Int32) => 0) qq) (LJO_isOverdue_11 f S a d (nI N) (nI p)) = 0 ↔ ¬ ∃ s, s ∈ (LpC S.1 p k).filter (itmC S.1 S.2 a) ∧ ¬ S.2 17 s ≤ 0 ∧ ¬ ltC S d s ≤ 0)
  | k, 0, p, _, h => absurd h (Nat.not_lt_zero _)
  | 0, f + 1, p, hp, _ => by
    rw [LJO_isOverdue_11_s, if_pos (nI_le (by omega) (by omega))]
    exact ⟨fun _ z => z.elim (fun s hs => absurd hs.1 List.not_mem_nil), fun _ => rfl⟩
  | k + 1, f + 1, p, hp, hf => by
    have el : LpC S.1 p (k + 1) = sltC S.1 p :: LpC S.1 (p + 1) k := by
      unfold LpC
      rw [List.range'_succ, List.map_cons]
    have ih := over11 hw a d hN k f (p + 1) (by omega) (by omega)
    rw [LJO_isOverdue_11_s, if_neg (nI_ge (by omega) (by omega)), itemAt_C hw a (by omega), nI_1, el]
    by_cases e : itmC S.1 S.2 a (sltC S.1 p) = true
    · have s240 := slt240 hw (p := p) (by omega)
      rw [if_pos e, if_neg (nI_nm s240), nI_clamp (by omega), List.filter_cons_of_pos e]
      have sk : (S.2 17 (sltC S.1 p) ≤ 0 ∨ ltC S d (sltC S.1 p) ≤ 0) → ((¬ ∃ s, s ∈ (LpC S.1 (p + 1) k).filter (itmC S.1 S.2 a) ∧ ¬ S.2 17 s ≤ 0 ∧ ¬ ltC S d s ≤ 0) ↔ ¬ ∃ s, s ∈ sltC S.1 p :: (LpC S.1 (p + 1) k).filter (itmC S.1 S.2 a) ∧ ¬ S.2 17 s ≤ 0 ∧ ¬ ltC S d s ≤ 0) := fun z => by
        refine not_congr ⟨fun ⟨s, hs, x⟩ => ⟨s, List.mem_cons_of_mem _ hs, x⟩, fun ⟨s, hs, x, y⟩ => ?_⟩
        rcases List.mem_cons.mp hs with w | w
        · rw [w] at x y
          rcases z with z | z
          · exact absurd z x
          · exact absurd z y
        · exact ⟨s, w, x, y⟩
      by_cases c1 : S.2 17 (sltC S.1 p) ≤ 0
      · rw [if_pos c1]
        exact ih.trans (sk (Or.inl c1))
      · rw [if_neg c1]
        by_cases c2 : FJO_daysLate S (nI (sltC S.1 p)) d ≤ 0
        · rw [if_pos c2]
          exact ih.trans (sk (Or.inr c2))
        · rw [if_neg c2]
          exact ⟨fun z => absurd z (by decide), fun z => absurd ⟨_, List.mem_cons_self, c1, c2⟩ z⟩
    · rw [if_neg e, if_pos rfl, List.filter_cons_of_neg e]
      exact ih
def itB (S : hS) (a : Int32) (s : Nat) : Bool := decide (¬ FMO_isItemOf S (nI s) a = 0)
theorem all5 {S : hS} (a : Int32) : ∀ (k f s : Nat) (acc : Int64), s + k = 240 → k < f → (LMO_allDue_5 f S a acc (nI s)).1 = acc + sumL (fun s => S.2 50 (780 + s)) ((List.range' s k).filter (itB S a))
  | k, 0, s, acc, _, h => absurd h (Nat.not_lt_zero _)
  | 0, f + 1, s, acc, hs, _ => by
    rw [LMO_allDue_5_s, if_pos (by rw [show (240 : Int32) = nI 240 by decide]; exact nI_le (by omega) (by omega))]
    exact (Int64.add_zero _).symm
  | k + 1, f + 1, s, acc, hs, hf => by
    rw [LMO_allDue_5_s, if_neg (by rw [show (240 : Int32) = nI 240 by decide]; exact nI_ge (by omega) (by omega)), nI_1, ixC (c := 780) 780 rfl (by omega) (by omega), Int64.add_zero, List.range'_succ]
    by_cases d : FMO_isItemOf S (nI s) a = 0
    · rw [if_pos d, List.filter_cons_of_neg (by unfold itB; rw [decide_eq_true_iff]; exact fun z => z d)]
      exact all5 a k f (s + 1) acc (by omega) (by omega)
    · rw [if_neg d, List.filter_cons_of_pos (by unfold itB; rw [decide_eq_true_iff]; exact d), all5 a k f (s + 1) _ (by omega) (by omega), sumL_c, Int64.add_assoc]
/-- the reference's items in the order of their rows are the class's in the order of its places -/
theorem it_perm {S' : hS} {n : Nat} {C : Nat → Nat → Int32} {L : Nat → Nat → Int64} (hR : Ra C (S'.2 50)) (h : Rk n C L (S'.2 50)) (a : Int32) : (LcC C L n a).Perm ((List.range' 0 240).filter (itB S' a)) := by
  have p := Lc_perm (L := L) h.1.2.1 h.2.2.2.2 a
  rw [List.range_eq_range'] at p
  have e : (List.range' 0 240).filter (itB S' a) = (List.range' 0 240).filter (fun s => decide (s / 6 < n) && itmC C L a s) := by
    refine List.filter_congr (fun s hs => ?_)
    have hs := List.mem_range'_1.mp hs
    unfold itB
    rw [isItemOf_M hR h a (by omega)]
    by_cases c : (decide (s / 6 < n) && itmC C L a s) = true
    · rw [if_pos c, c]
      decide
    · rw [if_neg c]
      cases z : (decide (s / 6 < n) && itmC C L a s) with
      | true => exact absurd z c
      | false => decide
  rw [e]
  exact p
theorem due_eq {S S' : hS} (hw : wfC S) (hR : Ra S.1 (S.2 50)) {n : Nat} (q : Q n S.1 S.2 (S.2 50)) (h : S'.2 50 = S.2 50) (a : Int32) : FJO_dueOf S a = FMO_allDue S' a := by
  have h0 := q.1.1.1
  have hn := q.1.1.2.1
  have hB := q.1.2.2.2.2
  have c := due14 hw a (N := 6 * n) (by omega) (6 * n) 300 0 0 (by omega) (by omega)
  have m := all5 (S := S') a 240 300 0 0 (by omega) (by omega)
  rw [nI_0, Int64.zero_add] at c m
  rw [FJO_dueOf_e, FMO_allDue_e, h0, nI_x6 (by omega)]
  dsimp only
  rw [c, m, ← sumL_perm _ (it_perm (by rw [h]; exact hR) (by rw [h]; exact q.1) a)]
  refine sumL_cg _ (fun s hs => ?_)
  obtain ⟨tn, ti⟩ := (Lc_mem (n := n) hB).mp hs
  unfold itmC at ti
  have ti := of_decide_eq_true ti
  have d := q.2 (s / 6) (s % 6) tn (by omega) ti.1
  rw [show 6 * (s / 6) + s % 6 = s by omega] at d
  rw [h]
  exact (d ti.2.2).symm
/-! interest's sum, and late items, on both sides -/
theorem lt_eq {S : hS} {n : Nat} (q : Rk n S.1 S.2 (S.2 50)) (x2 : Int64) (hx : 0 ≤ x2.toInt ∧ x2.toInt ≤ 3599) {s : Nat} (hs : s / 6 < n) : (ltC S x2.toInt32 s).toInt = (if 0 < x2.toInt - dyC S.1 (s / 6) - 30 then x2.toInt - dyC S.1 (s / 6) - 30 else 0) ∧ ((x2 - S.2 50 (100 + s / 6)) - 30).toInt = x2.toInt - dyC S.1 (s / 6) - 30 ∧ 0 ≤ dyC S.1 (s / 6) ∧ dyC S.1 (s / 6) ≤ 3599 := by
  have hn := q.1.2.1
  have re := q.2.1 _ hs
  have r1 := re.1
  have r2 := re.2.1
  have t : x2.toInt32.toInt = x2.toInt := ti_32 rfl (by omega) (by omega)
  unfold dyC
  have a : ((x2.toInt32 - S.1 11 (s / 6)) - 30).toInt = x2.toInt - (S.1 11 (s / 6)).toInt - 30 := ti_sub (ti_sub t rfl (by omega) (by omega)) tl_30 (by omega) (by omega)
  refine ⟨?_, ?_, r2⟩
  · unfold ltC
    rw [FJO_daysLate_e, nI_d6 (by omega), nI_clamp (by omega)]
    by_cases c : 0 < x2.toInt - (S.1 11 (s / 6)).toInt - 30
    · rw [if_pos c, if_pos (by rw [Int32.lt_iff_toInt_lt, tl_0, a]; exact c), a]
    · rw [if_neg c, if_neg (by rw [Int32.lt_iff_toInt_lt, tl_0, a]; exact c), tl_0]
  · exact tj_sub (tj_sub rfl r1.symm (by omega) (by omega)) tq_30 (by omega) (by omega)
theorem int41 {S : hS} (a : Int32) (x2 : Int64) (x4 : Int32) : ∀ (k f s : Nat) (acc : Int64), s + k = 240 → k < f → (LMO_interest_41 f S a x2 x4 acc (nI s)).1 = acc + sumL (fun s => if ((x2 - S.2 50 (100 + s / 6)) - 30) ≤ 0 then 0 else ((x2 - S.2 50 (100 + s / 6)) - 30) * S.2 50 (780 + s)) ((List.range' s k).filter (itB S a))
  | k, 0, s, acc, _, h => absurd h (Nat.not_lt_zero _)
  | 0, f + 1, s, acc, hs, _ => by
    rw [LMO_interest_41_s, if_pos (by rw [show (240 : Int32) = nI 240 by decide]; exact nI_le (by omega) (by omega))]
    exact (Int64.add_zero _).symm
  | k + 1, f + 1, s, acc, hs, hf => by
    rw [LMO_interest_41_s, if_neg (by rw [show (240 : Int32) = nI 240 by decide]; exact nI_ge (by omega) (by omega)), nI_1, nI_d6 (by omega), ixC (c := 100) 100 rfl (by omega) (by omega), ixC (c := 780) 780 rfl (by omega) (by omega), Int64.add_zero, List.range'_succ]
    by_cases d : FMO_isItemOf S (nI s) a = 0
    · rw [if_pos d, List.filter_cons_of_neg (by unfold itB; rw [decide_eq_true_iff]; exact fun z => z d)]
      exact int41 a x2 x4 k f (s + 1) acc (by omega) (by omega)
    · rw [if_neg d, List.filter_cons_of_pos (by unfold itB; rw [decide_eq_true_iff]; exact d)]
      by_cases e : ((x2 - S.2 50 (100 + s / 6)) - 30) ≤ 0
      · rw [if_pos e, int41 a x2 x4 k f (s + 1) acc (by omega) (by omega), sumL_c, if_pos e, Int64.zero_add]
      · rw [if_neg e, int41 a x2 x4 k f (s + 1) _ (by omega) (by omega), sumL_c, if_neg e, Int64.add_assoc]
theorem cent_eq {S S' : hS} (hw : wfC S) (hR : Ra S.1 (S.2 50)) {n : Nat} (q : Q n S.1 S.2 (S.2 50)) (h : S'.2 50 = S.2 50) (a : Int32) (x2 : Int64) (hx : 0 ≤ x2.toInt ∧ x2.toInt ≤ 3599) (x4 : Int32) : FJO_centDays S a x2.toInt32 = (LMO_interest_41 300 S' a x2 x4 0 0).1 ∧ 0 ≤ (FJO_centDays S a x2.toInt32).toInt ∧ (FJO_centDays S a x2.toInt32).toInt ≤ 100000000000000 := by
  have h0 := q.1.1.1
  have hn := q.1.1.2.1
  have hB := q.1.2.2.2.2
  have c := cent14 hw a x2.toInt32 (N := 6 * n) (by omega) (6 * n) 300 0 0 (by omega) (by omega)
  have m := int41 (S := S') a x2 x4 240 300 0 0 (by omega) (by omega)
  rw [nI_0, Int64.zero_add] at c m
  have e : FJO_centDays S a x2.toInt32 = sumL (fun s => S.2 17 s * (ltC S x2.toInt32 s).toInt64) (LcC S.1 S.2 n a) := by
    rw [FJO_centDays_e, h0, nI_x6 (by omega)]
    exact c
  have item : ∀ s, s ∈ LcC S.1 S.2 n a → s / 6 < n ∧ S.2 50 (780 + s) = S.2 17 s ∧ 0 ≤ (S.2 17 s).toInt ∧ (S.2 17 s).toInt ≤ 100000000 := fun s hs => by
    obtain ⟨tn, ti⟩ := (Lc_mem (n := n) hB).mp hs
    unfold itmC at ti
    have ti := of_decide_eq_true ti
    have d := q.2 (s / 6) (s % 6) tn (by omega) ti.1
    have w := q.1.2.2.2.1 (s / 6) (s % 6) tn (by omega) ti.1
    rw [show 6 * (s / 6) + s % 6 = s by omega] at d w
    have b := w.2.2.1 ((itP_u w).mpr ti.2.2)
    have c := w.2.1.2.2
    exact ⟨tn, d ti.2.2, b.1, by omega⟩
  have z0 : (0 : Int32).toInt64 = 0 := by decide
  refine ⟨?_, ?_⟩
  · rw [e, m, ← sumL_perm _ (it_perm (by rw [h]; exact hR) (by rw [h]; exact q.1) a)]
    refine sumL_cg _ (fun s hs => ?_)
    obtain ⟨tn, d, _, _⟩ := item s hs
    obtain ⟨l1, l2, l3⟩ := lt_eq q.1 x2 hx tn
    rw [h, d]
    by_cases g : 0 < x2.toInt - dyC S.1 (s / 6) - 30
    · rw [if_neg (by rw [Int64.le_iff_toInt_le, l2, tq_0]; omega), Int64.mul_comm]
      congr 1
      rw [if_pos g] at l1
      exact Int64.toInt_inj.mp (by rw [l32, l1, l2])
    · rw [if_pos (by rw [Int64.le_iff_toInt_le, l2, tq_0]; omega)]
      rw [if_neg g] at l1
      have : ltC S x2.toInt32 s = 0 := Int32.toInt_inj.mp (by rw [l1, tl_0])
      rw [this, z0, Int64.mul_zero]
  · rw [e]
    have b := sumL_bd (g := fun s => S.2 17 s * (ltC S x2.toInt32 s).toInt64) (B := 357000000000) ⟨by omega, by omega⟩ (LcC S.1 S.2 n a) (by have := Lc_len (C := S.1) (L := S.2) hn a; omega) (fun s hs => by
      obtain ⟨tn, _, u0, u1⟩ := item s hs
      obtain ⟨l1, l2, l3⟩ := lt_eq q.1 x2 hx tn
      have lb : 0 ≤ (ltC S x2.toInt32 s).toInt ∧ (ltC S x2.toInt32 s).toInt ≤ 3569 := by
        rw [l1]
        split <;> omega
      have p0 : 0 ≤ (S.2 17 s).toInt * (ltC S x2.toInt32 s).toInt := Int.mul_nonneg u0 lb.1
      have p1 : (S.2 17 s).toInt * (ltC S x2.toInt32 s).toInt ≤ 100000000 * 3569 := Int.mul_le_mul u1 lb.2 lb.1 (by omega)
      show 0 ≤ (S.2 17 s * (ltC S x2.toInt32 s).toInt64).toInt ∧ (S.2 17 s * (ltC S x2.toInt32 s).toInt64).toInt ≤ 357000000000
      rw [tj_mul rfl (l32 _) (by omega) (by omega)]
      omega)
    have len := Lc_len (C := S.1) (L := S.2) hn a
    have : (357000000000 : Int) * ((LcC S.1 S.2 n a).length : Int) ≤ 357000000000 * 240 := Int.mul_le_mul_of_nonneg_left (by omega) (by omega)
    omega
theorem old6 {S : hS} (a : Int32) (x2 : Int64) : ∀ (k f s : Nat) (v : Int32), s + k = 240 → k < f → (v = 0 ∨ v = 1) → ((LMO_hasOld_6 f S a x2 v (nI s)).1 = 0 ↔ v = 0 ∧ ¬ ∃ i, i ∈ (List.range' s k).filter (itB S a) ∧ ¬ x2 < S.2 50 (100 + i / 6) + 31 ∧ ¬ S.2 50 (780 + i) ≤ 0)
  | k, 0, s, v, _, h, _ => absurd h (Nat.not_lt_zero _)
  | 0, f + 1, s, v, hs, _, _ => by
    rw [LMO_hasOld_6_s, if_pos (by rw [show (240 : Int32) = nI 240 by decide]; exact nI_le (by omega) (by omega))]
    exact ⟨fun z => ⟨z, fun ⟨i, hi, _⟩ => by cases hi⟩, fun z => z.1⟩
  | k + 1, f + 1, s, v, hs, hf, hv => by
    rw [LMO_hasOld_6_s, if_neg (by rw [show (240 : Int32) = nI 240 by decide]; exact nI_ge (by omega) (by omega)), nI_1, nI_d6 (by omega), ixC (c := 100) 100 rfl (by omega) (by omega), ixC (c := 780) 780 rfl (by omega) (by omega), List.range'_succ]
    have i0 := old6 (S := S) a x2 k f (s + 1) 0 (by omega) (by omega) (Or.inl rfl)
    have i1 := old6 (S := S) a x2 k f (s + 1) 1 (by omega) (by omega) (Or.inr rfl)
    by_cases c : v = 0
    · rw [if_pos c]
      by_cases d : FMO_isItemOf S (nI s) a = 0
      · rw [if_pos d, i0, List.filter_cons_of_neg (by unfold itB; rw [decide_eq_true_iff]; exact fun z => z d)]
        exact ⟨fun z => ⟨c, z.2⟩, fun z => ⟨rfl, z.2⟩⟩
      · rw [if_neg d, List.filter_cons_of_pos (by unfold itB; rw [decide_eq_true_iff]; exact d)]
        have sk : (x2 < S.2 50 (100 + s / 6) + 31 ∨ S.2 50 (780 + s) ≤ 0) → ((LMO_hasOld_6 f S a x2 0 (nI (s + 1))).1 = 0 ↔ v = 0 ∧ ¬ ∃ i, i ∈ s :: (List.range' (s + 1) k).filter (itB S a) ∧ ¬ x2 < S.2 50 (100 + i / 6) + 31 ∧ ¬ S.2 50 (780 + i) ≤ 0) := fun z => by
          rw [i0]
          refine ⟨fun w => ⟨c, fun ⟨i, hi, x, y⟩ => ?_⟩, fun w => ⟨rfl, fun ⟨i, hi, x⟩ => w.2 ⟨i, List.mem_cons_of_mem _ hi, x⟩⟩⟩
          rcases List.mem_cons.mp hi with u | u
          · rw [u] at x y
            rcases z with z | z
            · exact x z
            · exact y z
          · exact w.2 ⟨i, u, x, y⟩
        by_cases e : x2 < S.2 50 (100 + s / 6) + 31
        · rw [if_pos e]
          exact sk (Or.inl e)
        · rw [if_neg e]
          by_cases g : S.2 50 (780 + s) ≤ 0
          · rw [if_pos g]
            exact sk (Or.inr g)
          · rw [if_neg g, i1]
            exact ⟨fun z => absurd z.1 (by decide), fun z => absurd ⟨s, List.mem_cons_self, e, g⟩ z.2⟩
    · rw [if_neg c, i1]
      exact ⟨fun z => absurd z.1 (by decide), fun z => absurd z.1 c⟩
theorem old_eq {S S' : hS} (hw : wfC S) (hR : Ra S.1 (S.2 50)) {n : Nat} (q : Q n S.1 S.2 (S.2 50)) (h : S'.2 50 = S.2 50) (a : Int32) (x2 : Int64) (hx : 0 ≤ x2.toInt ∧ x2.toInt ≤ 3599) : FJO_isOverdue S a x2.toInt32 = 0 ↔ FMO_hasOld S' a x2 = 0 := by
  have h0 := q.1.1.1
  have hn := q.1.1.2.1
  have hB := q.1.2.2.2.2
  have c := over11 hw a x2.toInt32 (N := 6 * n) (by omega) (6 * n) 300 0 (by omega) (by omega)
  have m := old6 (S := S') a x2 240 300 0 0 (by omega) (by omega) (Or.inl rfl)
  rw [nI_0] at c m
  have c' : FJO_isOverdue S a x2.toInt32 = 0 ↔ ¬ ∃ s, s ∈ LcC S.1 S.2 n a ∧ ¬ S.2 17 s ≤ 0 ∧ ¬ ltC S x2.toInt32 s ≤ 0 := by
    rw [FJO_isOverdue_e, h0, nI_x6 (by omega)]
    exact c
  have m' : FMO_hasOld S' a x2 = 0 ↔ ¬ ∃ i, i ∈ (List.range' 0 240).filter (itB S' a) ∧ ¬ x2 < S'.2 50 (100 + i / 6) + 31 ∧ ¬ S'.2 50 (780 + i) ≤ 0 := by
    rw [FMO_hasOld_e]
    exact m.trans ⟨fun z => z.2, fun z => ⟨rfl, z⟩⟩
  rw [c', m']
  have mem : ∀ s, s ∈ (List.range' 0 240).filter (itB S' a) ↔ s ∈ LcC S.1 S.2 n a := fun s => (it_perm (by rw [h]; exact hR) (by rw [h]; exact q.1) a).mem_iff.symm
  have each : ∀ s, s ∈ LcC S.1 S.2 n a → ((¬ S.2 17 s ≤ 0 ∧ ¬ ltC S x2.toInt32 s ≤ 0) ↔ (¬ x2 < S'.2 50 (100 + s / 6) + 31 ∧ ¬ S'.2 50 (780 + s) ≤ 0)) := fun s hs => by
    obtain ⟨tn, ti⟩ := (Lc_mem (n := n) hB).mp hs
    unfold itmC at ti
    have ti := of_decide_eq_true ti
    have d := q.2 (s / 6) (s % 6) tn (by omega) ti.1
    rw [show 6 * (s / 6) + s % 6 = s by omega] at d
    obtain ⟨l1, l2, l3⟩ := lt_eq q.1 x2 hx tn
    have r1 := (q.1.2.1 _ tn).1
    have e31 : (31 : Int64).toInt = 31 := by decide
    rw [h, d ti.2.2, Int32.le_iff_toInt_le, l1, tl_0, Int64.lt_iff_toInt_lt, tj_add r1.symm e31 (by unfold dyC at l3; omega) (by unfold dyC at l3; omega)]
    unfold dyC
    refine ⟨fun z => ⟨?_, z.1⟩, fun z => ⟨z.2, ?_⟩⟩
    · have z2 := z.2
      split at z2 <;> omega
    · have z1 := z.1
      split <;> omega
  refine not_congr ⟨fun ⟨s, hs, x⟩ => ⟨s, (mem s).mpr hs, (each s hs).mp x⟩, fun ⟨s, hs, x⟩ => ⟨s, (mem s).mp hs, (each s ((mem s).mp hs)).mpr x⟩⟩

