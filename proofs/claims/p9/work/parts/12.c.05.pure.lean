/-! gifts: the class's loop -/
theorem pay15g (a x1 : Int32) (x3 : Int64) (g : Nat → Nat) (it : Nat → Bool) {m : Nat} (hm : m ≤ 240) : ∀ (k f p : Nat) (S : hS) (r : Int64) (gc : Nat), p + k = m → k < f → wfC S → sltC S.1 = g → itmC S.1 S.2 a = it → S.1 10 8 = nI gc → gc + (giv (((List.range' p k).map g).filter it) r (S.2 17)).length ≤ 280 → (LJO_payItems_15 f S x1 a x3 r (nI m) (nI p)).2.2.1 10 8 = nI (gc + (giv (((List.range' p k).map g).filter it) r (S.2 17)).length) ∧ (∀ i, i < gc → (LJO_payItems_15 f S x1 a x3 r (nI m) (nI p)).2.2.1 18 i = S.1 18 i ∧ (LJO_payItems_15 f S x1 a x3 r (nI m) (nI p)).2.2.1 19 i = S.1 19 i) ∧ ∀ i s, (giv (((List.range' p k).map g).filter it) r (S.2 17))[i]? = some s → (LJO_payItems_15 f S x1 a x3 r (nI m) (nI p)).2.2.1 18 (gc + i) = x1 ∧ (LJO_payItems_15 f S x1 a x3 r (nI m) (nI p)).2.2.1 19 (gc + i) = nI s
  | 0, 0, p, S, r, gc, _, h, _, _, _, _, _ => absurd h (Nat.not_lt_zero _)
  | 0, f + 1, p, S, r, gc, hp, _, _, _, _, h8, _ => by
    have en : giv (((List.range' p 0).map g).filter it) r (S.2 17) = [] := rfl
    rw [LJO_payItems_15_s, if_pos (nI_le (by omega) (by omega)), en]
    exact ⟨h8, fun i _ => ⟨rfl, rfl⟩, fun i s z => by simp at z⟩
  | k + 1, 0, p, S, r, gc, _, h, _, _, _, _, _ => absurd h (Nat.not_lt_zero _)
  | k + 1, f + 1, p, S, r, gc, hp, hf, hw, hg, hi, h8, hl => by
    rw [LJO_payItems_15_s, if_neg (nI_ge (by omega) (by omega))]
    by_cases c0 : r ≤ 0
    · have nr : ¬ 0 < r := by
        rw [Int64.le_iff_toInt_le] at c0
        rw [Int64.lt_iff_toInt_lt]
        omega
      rw [if_pos c0, giv_0 _ _ _ nr]
      exact ⟨h8, fun i _ => ⟨rfl, rfl⟩, fun i s z => by simp at z⟩
    have r0 : 0 < r := by
      rw [Int64.le_iff_toInt_le] at c0
      rw [Int64.lt_iff_toInt_lt]
      omega
    rw [List.range'_succ, List.map_cons] at hl ⊢
    rw [if_neg c0, itemAt_C hw a (by omega), nI_1, hg, hi]
    by_cases d : it (g p) = true
    · have g240 : g p < 240 := by
        have hb := hw.2.2.2.2.2.2.1 (p / 6) (by omega)
        unfold rg at hb
        have hc := cl_toInt hb.1
        rw [← hg]
        unfold sltC byC
        omega
      have nm : ¬ nI (g p) = -1 := fun z => by
        have := congrArg Int32.toInt z
        rw [nI_toInt (by omega), tl_m1] at this
        omega
      rw [List.filter_cons_of_pos d, giv_c] at hl ⊢
      rw [if_pos d, if_neg nm, nI_clamp (n := g p) (by omega)]
      by_cases e : S.2 17 (g p) ≤ 0
      · have ne : ¬ (0 < r ∧ 0 < S.2 17 (g p)) := fun z => by
          have z2 := z.2
          rw [Int64.le_iff_toInt_le] at e
          rw [Int64.lt_iff_toInt_lt] at z2
          omega
        rw [if_neg ne] at hl ⊢
        rw [if_pos e]
        exact pay15g a x1 x3 g it hm k f (p + 1) S r gc (by omega) (by omega) hw hg hi h8 hl
      · have u0 : 0 < S.2 17 (g p) := by
          rw [Int64.le_iff_toInt_le] at e
          rw [Int64.lt_iff_toInt_lt]
          omega
        have ye : 0 < r ∧ 0 < S.2 17 (g p) := ⟨r0, u0⟩
        rw [if_pos ye] at hl ⊢
        rw [if_neg e]
        have b := mn_bd r0 u0
        have hl' := hl
        rw [List.length_cons] at hl'
        have kg := kg_f (sL S 17 (g p) (S.2 17 (g p) - mnL r (S.2 17 (g p)))) x1 (nI (g p))
        have ek : FJO_keepGift (sL S 17 (g p) (S.2 17 (g p) - mnL r (S.2 17 (g p)))) x1 (nI (g p)) = sI (sI (sI (sL S 17 (g p) (S.2 17 (g p) - mnL r (S.2 17 (g p)))) 18 gc x1) 19 gc (nI (g p))) 10 8 (nI (gc + 1)) := by
          rw [FJO_keepGift_e, sL_1, h8, if_neg (by rw [show (280 : Int32) = nI 280 by decide]; exact nI_ge (by omega) (by omega)), nI_clamp (n := gc) (by omega), nI_1]
        have e17 : (FJO_keepGift (sL S 17 (g p) (S.2 17 (g p) - mnL r (S.2 17 (g p)))) x1 (nI (g p))).2 17 = fun j => if j = g p then S.2 17 (g p) - mnL r (S.2 17 (g p)) else S.2 17 j := by
          rw [kg.1]
          funext i
          rw [sL_2]
          by_cases q : i = g p
          · rw [if_pos ⟨rfl, q⟩, if_pos q]
          · rw [if_neg (fun z => q z.2), if_neg q]
        have k8 : (FJO_keepGift (sL S 17 (g p) (S.2 17 (g p) - mnL r (S.2 17 (g p)))) x1 (nI (g p))).1 10 8 = nI (gc + 1) := by
          rw [ek, sI_1, if_pos ⟨rfl, rfl⟩]
        have k18 : ∀ i, (FJO_keepGift (sL S 17 (g p) (S.2 17 (g p) - mnL r (S.2 17 (g p)))) x1 (nI (g p))).1 18 i = if i = gc then x1 else S.1 18 i := fun i => by
          rw [ek, sI_1, if_neg (by omega), sI_1, if_neg (by omega), sI_1, sL_1]
          by_cases q : i = gc
          · rw [if_pos ⟨rfl, q⟩, if_pos q]
          · rw [if_neg (fun z => q z.2), if_neg q]
        have k19 : ∀ i, (FJO_keepGift (sL S 17 (g p) (S.2 17 (g p) - mnL r (S.2 17 (g p)))) x1 (nI (g p))).1 19 i = if i = gc then nI (g p) else S.1 19 i := fun i => by
          rw [ek, sI_1, if_neg (by omega), sI_1]
          by_cases q : i = gc
          · rw [if_pos ⟨rfl, q⟩, if_pos q]
          · rw [if_neg (fun z => q z.2), if_neg q, sI_1, if_neg (by omega), sL_1]
        have ih := pay15g a x1 x3 g it hm k f (p + 1) (FJO_keepGift (sL S 17 (g p) (S.2 17 (g p) - mnL r (S.2 17 (g p)))) x1 (nI (g p))) (r - mnL r (S.2 17 (g p))) (gc + 1) (by omega) (by omega) (wf_keepGift (wfC_L hw (by decide)) _ _) ((slt_cg (kg.2 14 (by decide) (by decide) (by decide))).trans hg) ((itm_cg (kg.2 13 (by decide) (by decide) (by decide)) (kg.2 15 (by decide) (by decide) (by decide)) (fun s => by
          rw [e17]
          dsimp only
          by_cases q : s = g p
          · rw [if_pos q, q]
            exact ⟨fun z => absurd z (not_m1 b.1), fun z => absurd z (not_m1 (by omega))⟩
          · rw [if_neg q])).trans hi) k8 (by rw [e17]; omega)
        rw [e17] at ih
        obtain ⟨i1, i2, i3⟩ := ih
        refine ⟨i1.trans (by rw [List.length_cons]; congr 1; omega), fun i hi' => ?_, fun i s z => ?_⟩
        · have w := i2 i (by omega)
          rw [k18, k19, if_neg (by omega), if_neg (by omega)] at w
          exact w
        · cases i with
          | zero =>
            have w := i2 gc (by omega)
            rw [k18, k19, if_pos rfl, if_pos rfl] at w
            rw [List.getElem?_cons_zero] at z
            cases z
            exact w
          | succ i =>
            rw [List.getElem?_cons_succ] at z
            have w := i3 i s z
            rw [show gc + 1 + i = gc + (i + 1) by omega] at w
            exact w
    · rw [List.filter_cons_of_neg d] at hl ⊢
      rw [if_neg d, if_pos rfl]
      exact pay15g a x1 x3 g it hm k f (p + 1) S r gc (by omega) (by omega) hw hg hi h8 hl
theorem payItems_G {S : hS} (hw : wfC S) (x1 a : Int32) (x3 : Int64) {n gc : Nat} (hn : S.1 10 0 = nI n) (h40 : n ≤ 40) (h8 : S.1 10 8 = nI gc) (hl : gc + (giv (LcC S.1 S.2 n a) x3 (S.2 17)).length ≤ 280) : (FJO_payItems S x1 a x3).1 10 8 = nI (gc + (giv (LcC S.1 S.2 n a) x3 (S.2 17)).length) ∧ (∀ i, i < gc → (FJO_payItems S x1 a x3).1 18 i = S.1 18 i ∧ (FJO_payItems S x1 a x3).1 19 i = S.1 19 i) ∧ ∀ i s, (giv (LcC S.1 S.2 n a) x3 (S.2 17))[i]? = some s → (FJO_payItems S x1 a x3).1 18 (gc + i) = x1 ∧ (FJO_payItems S x1 a x3).1 19 (gc + i) = nI s := by
  have h := pay15g a x1 x3 (sltC S.1) (itmC S.1 S.2 a) (m := 6 * n) (by omega) (6 * n) 300 0 S x3 gc (by omega) (by omega) hw rfl rfl h8 hl
  rw [FJO_payItems_e, hn, nI_x6 (by omega)]
  rw [nI_0] at h
  exact h
/-! gifts: the reference's loop -/
theorem pay185g (a : Int32) (x2 x4 : Int64) (cash : Int32) {e : Nat} (he : e < 40) (l : List Nat) (hl : l.length ≤ 240) (hm : ∀ s, s ∈ l → s < 240) (M0 : Nat → Int64) (HI : ∀ S : hS, (∀ j, j < 780 → S.2 50 j = M0 j) → ∀ x, FMO_itemAt S a x = fnd l 0 x) : ∀ (t f k : Nat) (S : hS) (r : Int64), k + t = l.length → t < f → (∀ j, j < 780 → S.2 50 j = M0 j) → ∀ e' s, e' < 40 → s < 240 → (bW ((LMO_payment_185 f S a x2 x4 cash (nI e) r (nI k)).2.2.2 50 (1020 + (4 * e' + s / 60))) (s % 60) = true ↔ (bW (S.2 50 (1020 + (4 * e' + s / 60))) (s % 60) = true ∨ (e' = e ∧ s ∈ giv (l.drop k) r (fun s => S.2 50 (780 + s)))))
  | t, 0, k, S, r, _, h, _, _, _, _, _ => absurd h (Nat.not_lt_zero _)
  | 0, f + 1, k, S, r, hk, _, h0, e', s, he', hs => by
    have fl := (fnd_lt (k := k) hl hm).resolve_right (fun z => z (by omega))
    rw [LMO_payment_185_s, HI S h0, if_pos (fl.mpr (by omega)), List.drop_eq_nil_of_le (by omega)]
    exact ⟨fun z => Or.inl z, fun z => z.elim (fun z => z) (fun z => absurd z.2 List.not_mem_nil)⟩
  | t + 1, f + 1, k, S, r, hk, hf, h0, e', s, he', hs => by
    have kl : k < l.length := by omega
    have fl := (fnd_lt (k := k) hl hm).resolve_right (fun z => z (by omega))
    have fs := fnd_some l 0 k kl (by omega)
    rw [Nat.zero_add] at fs
    have s240 := hm _ (List.getElem_mem kl)
    have i780 : (780 + nI l[k]).toNatClampNeg = 780 + l[k] := ixC (c := 780) 780 rfl (by omega) (by omega)
    have i1020 := ix20 he s240
    have m60 := nI_m60 s240
    have dr : l.drop k = l[k] :: l.drop (k + 1) := List.drop_eq_getElem_cons kl
    rw [LMO_payment_185_s, HI S h0, fs, if_neg (nI_pos (by omega)), i780, i1020, m60, nI_1, dr, giv_c]
    have skip : ¬ (0 < r ∧ 0 < S.2 50 (780 + l[k])) → (bW ((LMO_payment_185 f S a x2 x4 cash (nI e) r (nI (k + 1))).2.2.2 50 (1020 + (4 * e' + s / 60))) (s % 60) = true ↔ (bW (S.2 50 (1020 + (4 * e' + s / 60))) (s % 60) = true ∨ (e' = e ∧ s ∈ (if 0 < r ∧ 0 < S.2 50 (780 + l[k]) then l[k] :: giv (l.drop (k + 1)) (r - mnL r (S.2 50 (780 + l[k]))) (fun j => if j = l[k] then S.2 50 (780 + l[k]) - mnL r (S.2 50 (780 + l[k])) else S.2 50 (780 + j)) else giv (l.drop (k + 1)) r (fun s => S.2 50 (780 + s)))))) := fun c => by
      rw [if_neg c]
      exact pay185g a x2 x4 cash he l hl hm M0 HI t f (k + 1) S r (by omega) (by omega) h0 e' s he' hs
    have pay : ∀ g : Int64, 0 < r ∧ 0 < S.2 50 (780 + l[k]) → g = mnL r (S.2 50 (780 + l[k])) → (bW ((LMO_payment_185 f (sL (sL S 50 (780 + l[k]) (S.2 50 (780 + l[k]) - g)) 50 (1020 + (4 * e + l[k] / 60)) ((sL S 50 (780 + l[k]) (S.2 50 (780 + l[k]) - g)).2 50 (1020 + (4 * e + l[k] / 60)) ||| (1 <<< ((nI (l[k] % 60)).toInt64 &&& 63)))) a x2 x4 cash (nI e) (r - g) (nI (k + 1))).2.2.2 50 (1020 + (4 * e' + s / 60))) (s % 60) = true ↔ (bW (S.2 50 (1020 + (4 * e' + s / 60))) (s % 60) = true ∨ (e' = e ∧ s ∈ (if 0 < r ∧ 0 < S.2 50 (780 + l[k]) then l[k] :: giv (l.drop (k + 1)) (r - mnL r (S.2 50 (780 + l[k]))) (fun j => if j = l[k] then S.2 50 (780 + l[k]) - mnL r (S.2 50 (780 + l[k])) else S.2 50 (780 + j)) else giv (l.drop (k + 1)) r (fun s => S.2 50 (780 + s)))))) := fun g c hg => by
      have ih := pay185g a x2 x4 cash he l hl hm M0 HI t f (k + 1) (sL (sL S 50 (780 + l[k]) (S.2 50 (780 + l[k]) - g)) 50 (1020 + (4 * e + l[k] / 60)) ((sL S 50 (780 + l[k]) (S.2 50 (780 + l[k]) - g)).2 50 (1020 + (4 * e + l[k] / 60)) ||| (1 <<< ((nI (l[k] % 60)).toInt64 &&& 63)))) (r - g) (by omega) (by omega) (fun j hj => by
        rw [sL50, sL50, up5_n (by omega), up5_n (by omega)]
        exact h0 j hj) e' s he' hs
      refine ih.trans ?_
      have gg : giv (l.drop (k + 1)) (r - g) (fun s => (sL (sL S 50 (780 + l[k]) (S.2 50 (780 + l[k]) - g)) 50 (1020 + (4 * e + l[k] / 60)) ((sL S 50 (780 + l[k]) (S.2 50 (780 + l[k]) - g)).2 50 (1020 + (4 * e + l[k] / 60)) ||| (1 <<< ((nI (l[k] % 60)).toInt64 &&& 63)))).2 50 (780 + s)) = giv (l.drop (k + 1)) (r - g) (fun j => if j = l[k] then S.2 50 (780 + l[k]) - g else S.2 50 (780 + j)) := giv_cg _ _ _ _ (fun x hx => by
        have x240 := hm x (List.mem_of_mem_drop hx)
        rw [sL50, sL50, up5_n (by omega)]
        unfold up5
        by_cases q : x = l[k]
        · rw [if_pos (by omega), if_pos q]
        · rw [if_neg (by omega), if_neg q])
      have bb : bW ((sL (sL S 50 (780 + l[k]) (S.2 50 (780 + l[k]) - g)) 50 (1020 + (4 * e + l[k] / 60)) ((sL S 50 (780 + l[k]) (S.2 50 (780 + l[k]) - g)).2 50 (1020 + (4 * e + l[k] / 60)) ||| (1 <<< ((nI (l[k] % 60)).toInt64 &&& 63)))).2 50 (1020 + (4 * e' + s / 60))) (s % 60) = true ↔ (bW (S.2 50 (1020 + (4 * e' + s / 60))) (s % 60) = true ∨ (e' = e ∧ s = l[k])) := by
        rw [sL50, sL50, up5_n (show 1020 + (4 * e + l[k] / 60) ≠ 780 + l[k] by omega)]
        by_cases w : 1020 + (4 * e' + s / 60) = 1020 + (4 * e + l[k] / 60)
        · have ee : e' = e := by omega
          have ss : s / 60 = l[k] / 60 := by omega
          rw [w, up5_e, setW _ (by omega) (by omega), Bool.or_eq_true, decide_eq_true_iff]
          exact ⟨fun z => z.elim (fun z => Or.inl z) (fun z => Or.inr ⟨ee, by omega⟩), fun z => z.elim (fun z => Or.inl z) (fun z => Or.inr (by rw [z.2]))⟩
        · rw [up5_n w, up5_n (by omega)]
          exact ⟨fun z => Or.inl z, fun z => z.elim (fun z => z) (fun z => absurd (by rw [z.1, z.2]) w)⟩
      rw [gg, bb, if_pos c, ← hg, List.mem_cons]
      constructor
      · rintro ((z | z) | z)
        · exact Or.inl z
        · exact Or.inr ⟨z.1, Or.inl z.2⟩
        · exact Or.inr ⟨z.1, Or.inr z.2⟩
      · rintro (z | ⟨z, w | w⟩)
        · exact Or.inl (Or.inl z)
        · exact Or.inl (Or.inr ⟨z, w⟩)
        · exact Or.inr ⟨z, w⟩
    have z0 : (0 : Int64).toInt = 0 := by decide
    by_cases d : S.2 50 (780 + l[k]) ≤ r
    · rw [if_pos d]
      by_cases g : S.2 50 (780 + l[k]) ≤ 0
      · rw [if_pos g]
        exact skip (fun z => by
          have z2 := z.2
          rw [Int64.le_iff_toInt_le] at g
          rw [Int64.lt_iff_toInt_lt] at z2
          omega)
      · rw [if_neg g]
        rw [Int64.le_iff_toInt_le] at d g
        refine pay _ ⟨by rw [Int64.lt_iff_toInt_lt]; omega, by rw [Int64.lt_iff_toInt_lt]; omega⟩ ?_
        unfold mnL
        by_cases q : S.2 50 (780 + l[k]) < r
        · rw [if_pos q]
        · rw [if_neg q]
          rw [Int64.lt_iff_toInt_lt] at q
          exact Int64.toInt_inj.mp (by omega)
    · rw [if_neg d]
      by_cases g : r ≤ 0
      · rw [if_pos g]
        exact skip (fun z => by
          have z1 := z.1
          rw [Int64.le_iff_toInt_le] at g
          rw [Int64.lt_iff_toInt_lt] at z1
          omega)
      · rw [if_neg g]
        rw [Int64.le_iff_toInt_le] at d g
        refine pay _ ⟨by rw [Int64.lt_iff_toInt_lt]; omega, by rw [Int64.lt_iff_toInt_lt]; omega⟩ ?_
        unfold mnL
        rw [if_neg (by rw [Int64.lt_iff_toInt_lt]; omega)]
theorem Xg_payment {S : hS} (hI : I0 S) (hR : Rl S) (hJ : Rj S) (hX : R2 Xg S) (x1 : Int32) (x2 x4 : Int64) : R2 Xg (FMO_payment (FHL_payment S x1 x2 x4).2 x1 x2 x4).2 := by
  obtain ⟨n, q⟩ := hJ.1
  have h0 := q.1.1.1
  have hn := q.1.1.2.1
  have h1 := q.1.1.2.2.1
  have f40 := full_eq h0 hn
  have m40 := full_M h1 hn
  have no : FHL_payment S x1 x2 x4 = (-1, S) → FMO_payment S x1 x2 x4 = (-1, sI S 49 4 0) → R2 Xg (FMO_payment (FHL_payment S x1 x2 x4).2 x1 x2 x4).2 := fun a b => by
    rw [a]
    dsimp only
    rw [b]
    exact R2_fault Xg_p hX
  have e8 : (100000000 : Int64).toInt = 100000000 := by decide
  by_cases c1 : x2 < 1
  · exact no (by rw [FHL_payment_e, if_pos c1]) (pay_no (Or.inl (by rw [FMO_isIn_e, if_pos c1])))
  by_cases c2 : 100000000 < x2
  · exact no (by rw [FHL_payment_e, if_neg c1, if_pos c2]) (pay_no (Or.inl (by rw [FMO_isIn_e, if_neg c1, if_pos c2])))
  have hx2 : 1 ≤ x2.toInt ∧ x2.toInt ≤ 100000000 := by
    rw [Int64.lt_iff_toInt_lt, tq_1] at c1
    rw [Int64.lt_iff_toInt_lt, e8] at c2
    omega
  have isn : ∀ T : hS, ¬ FMO_isIn T x2 1 100000000 = 0 := fun T => by
    rw [FMO_isIn_e, if_neg c1, if_neg c2]
    decide
  have late := late_eq (S' := sI S 49 4 0) hR.2.1 rfl x4
  by_cases c3 : FMO_isDay (sI S 49 4 0) x4 = 0
  · exact no (by rw [FHL_payment_e, if_neg c1, if_neg c2, late, if_pos c3, if_pos rfl]) (pay_no (Or.inr (Or.inl c3)))
  rw [if_neg c3] at late
  by_cases c4 : FMO_isLate (sI S 49 4 0) x4 = 0
  · rw [if_pos c4] at late
    have uc : ¬ FBO_isUnclosedDay S x4 = 0 := by rw [late]; decide
    have dr := isDay_r (S := S) (d := x4) (by rw [isDay_eq S (sI S 49 4 0) x4]; exact c3)
    rcases cash_eq (S' := sI S 49 4 0) hI.1 hR.2.1 rfl x1 x2 x4 with ⟨a, b⟩ | ⟨cash, a, b, cn, c8⟩
    · exact no (by rw [FHL_payment_e, if_neg c1, if_neg c2, if_neg uc, if_pos a]) (pay_no (Or.inr (Or.inr (Or.inr (Or.inl b)))))
    have ca : ¬ FAC_firstCash S = -1 := by
      rw [a]
      intro z
      have := congrArg Int32.toInt z
      rw [nI_toInt (by omega), tl_m1] at this
      omega
    by_cases c5 : n < 40
    · have nf := f40.mpr c5
      have n40 : ¬ S.2 50 1 = 40 := fun z => m40.mp z c5
      have ia : ∀ T : hS, T.2 50 = S.2 50 → ¬ FMO_isAccount T (nI cash) = 0 := fun T h => by
        rw [← has_eq (S' := T) hR.2.1 h (nI cash), FAC_has_e, if_neg (nI_pos (by omega)), if_neg (by rw [Int32.le_iff_toInt_le, nI_toInt (by omega)]; omega)]
        decide
      have cM : ∀ T : hS, T.2 50 = S.2 50 → LMO_payment_8 300 T x1 x2 x4 0 = nI cash := fun T h => by
        rcases cash_eq (S' := T) hI.1 hR.2.1 h x1 x2 x4 with ⟨a', _⟩ | ⟨j, a', b', _, j8⟩
        · exact absurd a' ca
        · rw [b', ← a', a]
      have hh := fun (T : hS) (h : T.2 50 = S.2 50) => hh_eq (S' := T) hI.1 hR.2.1 h x1
      by_cases c6 : FAC_hasHousehold S x1 = 0
      · -- found money
        have e1 : FHL_payment S x1 x2 x4 = (-1, FBO_keepFound S x2) := by
          rw [FHL_payment_e, if_neg c1, if_neg c2, if_neg uc, if_neg ca, if_pos nf, if_pos c6]
        have fk : Same [1, 24] S (FBO_keepFound S x2) := by
          rw [FBO_keepFound_e]
          split
          · exact Same.rf
          · exact Same.i (Same.l Same.rf (by decide)) (by decide)
        rw [e1]
        dsimp only
        generalize FBO_keepFound S x2 = T at fk ⊢
        have t50 : T.2 50 = S.2 50 := (fk 50 (by decide)).2
        have hb := hI.2.2.1.2.2.2.1
        have e32 := t32 hb.1 hb.2 (by omega)
        have r : ∀ j, 1020 ≤ j → j < 1180 → (FMO_payment T x1 x2 x4).2.2 50 j = T.2 50 j := fun j ju jv => by
          rw [FMO_payment_e]
          dsimp only
          rw [cM _ (show (sI T 49 4 0).2 50 = S.2 50 from t50), if_neg (isn _), dayM (sI T 49 4 0) (sI S 49 4 0), if_neg c3, lateM (S := sI S 49 4 0) (S' := sI T 49 4 0) t50, if_pos c4, if_neg (ia (sI T 49 4 0) t50), t50, if_neg n40, ← hh (sI T 49 4 0) t50, if_pos c6]
          have o := offI (c := 1200) (w := (S.2 50 4).toInt32) (p := 1200) (by decide) (by rw [e32]; omega) (by rw [e32]; omega) (by omega) (by omega)
          by_cases z : 20 ≤ S.2 50 4
          · rw [if_pos z]
            exact congrFun t50 j
          · rw [if_neg z]
            dsimp only
            rw [sL_2, if_neg (by omega), sL_2, if_neg (by omega)]
            exact congrFun t50 j
        exact Xg_other hX fk (by decide) (fr_FMO_payment T x1 x2 x4) (by decide) (fq_FMO_payment T x1 x2 x4) r
      · -- a payment
        obtain ⟨k8, kn, ke⟩ := has_lt hI.1 (hh_has c6)
        obtain ⟨y, T1, eT, hy, f1, t10, t8, t11, t12, t13, tB⟩ := add_eff hI.1 x4.toInt32 2 h0 c5
        obtain ⟨T2, e2, f2, u13, u15, u16, u17⟩ := addRow_eff (S := T1) (n := n + 1) (e := n) (r := 0) t10 (by omega) (by omega) (by rw [t13, if_pos rfl, nI_0]) (by omega) (nI cash) x2
        have t10' : T2.1 10 0 = nI (n + 1) := by rw [congrFun (f2 10 (by decide)).1 0]; exact t10
        obtain ⟨T3, e3, f3, v13, v15, v16, v17⟩ := addRow_eff (S := T2) (n := n + 1) (e := n) (r := 1) t10' (by omega) (by omega) (by rw [u13, if_pos rfl]) (by omega) x1 (-x2)
        rw [Nat.add_zero] at u15 u16 u17
        have t10'' : T3.1 10 0 = nI (n + 1) := by rw [congrFun (f3 10 (by decide)).1 0]; exact t10'
        have w1 : wfC T1 := by have := (wf_add hI.1 x4.toInt32 2).1; rw [eT] at this; exact this
        have w2 : wfC T2 := by have := wf_addRow w1 (nI n) (nI cash) x2; rw [e2] at this; exact this
        have w3 : wfC T3 := by have := wf_addRow w2 (nI n) x1 (-x2); rw [e3] at this; exact this
        have e1 : FHL_payment S x1 x2 x4 = (nI n, FJO_payItems T3 (nI n) x1 x2) := by
          rw [FHL_payment_e, if_neg c1, if_neg c2, if_neg uc, if_neg ca, if_pos nf, if_neg c6, eT]
          dsimp only
          rw [a, e2]
          dsimp only
          rw [e3]
        have fP := fr_FHL_payment S x1 x2 x4
        have p17 := payItems_C w3 (nI n) x1 x2 t10'' (by omega)
        have pf := payItems_f T3 (nI n) x1 x2
        have f4 := fr_FJO_payItems T3 (nI n) x1 x2
        obtain ⟨m, gc, ⟨x10, x40⟩, x8, xg, xo, xb, xc⟩ := hX.1
        have emn : m = n := (nI_eq (by omega) (by omega)).mp (x10.symm.trans h0)
        subst emn
        have t38 : T3.1 10 8 = nI gc := by rw [congrFun (f3 10 (by decide)).1 8, congrFun (f2 10 (by decide)).1 8, t8]; exact x8
        have s13 : ∀ j, T3.1 13 j = if j = m then nI 2 else S.1 13 j := fun j => by
          rw [v13, u13, t13]
          by_cases w : j = m
          · rw [if_pos w, if_pos w]
          · rw [if_neg w, if_neg w, if_neg w, if_neg w]
        have s17 : ∀ j, j ≠ 6 * m → j ≠ 6 * m + 1 → T3.2 17 j = S.2 17 j := fun j w1 w2 => by rw [v17, if_neg w2, u17, if_neg w1, congrFun (f1 17 (by decide)).2 j]
        have s12 : ∀ j, T3.1 12 j = if j = m then 2 else S.1 12 j := fun j => by rw [congrFun (f3 12 (by decide)).1 j, congrFun (f2 12 (by decide)).1 j, t12]
        have s11 : ∀ j, T3.1 11 j = if j = m then x4.toInt32 else S.1 11 j := fun j => by rw [congrFun (f3 11 (by decide)).1 j, congrFun (f2 11 (by decide)).1 j, t11]
        have tB3 : BD T3.1 (m + 1) := BD_of (by omega) (fun k _ => by rw [congrFun (f3 11 (by decide)).1 k, congrFun (f2 11 (by decide)).1 k]) (fun k _ => by rw [congrFun (f3 14 (by decide)).1 k, congrFun (f2 14 (by decide)).1 k]) (tB q.1.2.2.2.2)
        have lm : ∀ s, s ∈ LcC T3.1 T3.2 (m + 1) x1 → s < 240 ∧ usC T3.1 (m + 1) s = true := fun s hs => by
          obtain ⟨w1, w2⟩ := (Lc_mem tB3).mp hs
          unfold itmC at w2
          have w3 := of_decide_eq_true w2
          exact ⟨by omega, decide_eq_true ⟨w1, w3.1⟩⟩
        have cp := cnt_pay (u := usC T3.1 (m + 1)) (LcC T3.1 T3.2 (m + 1) x1) x2 (T3.2 17) lm
        rw [if_pos (show 0 < x2 by rw [Int64.lt_iff_toInt_lt, tq_0]; omega)] at cp
        have zl := zN_le (u := usC S.1 m) (u' := usC T3.1 (m + 1)) (d := S.2 17) (d' := T3.2 17) (fun s _ w1 w2 => by
          have w3 := of_decide_eq_true (show decide (s / 6 < m ∧ ((s % 6 : Nat) : Int) < (S.1 13 (s / 6)).toInt) = true from w1)
          refine ⟨decide_eq_true ⟨by omega, by rw [s13, if_neg (by omega)]; exact w3.2⟩, ?_⟩
          rw [s17 s (by omega) (by omega)]
          exact w2)
        have pl := pN_lt (C := S.1) (C' := T3.1) c5 (fun e he w => by rw [s12, if_neg (by omega)]; exact w) (by rw [s12, if_pos rfl])
        have g280 : gc + (giv (LcC T3.1 T3.2 (m + 1) x1) x2 (T3.2 17)).length ≤ 280 := by
          have := zN_240 (usC T3.1 (m + 1)) (payL (LcC T3.1 T3.2 (m + 1) x1) x2 (T3.2 17))
          have := pN_40 T3.1 (m + 1)
          omega
        have pg := payItems_G w3 (nI m) x1 x2 t10'' (by omega) t38 g280
        rw [e1] at fP ⊢
        dsimp only at fP ⊢
        generalize FJO_payItems T3 (nI m) x1 x2 = T4 at fP p17 pf f4 pg ⊢
        have t50 : T4.2 50 = S.2 50 := (fP 50 (by decide)).2
        have hz := q.1.2.2.1 m (Nat.le_refl _) c5
        -- the reference's array ahead of its loop
        have a1 := addEntry_M (S := sI T4 49 4 0) (n := m) (by rw [sI_2, t50]; exact h1) c5 x4 1
        have a1' : FMO_addEntry (sI T4 49 4 0) x4 1 = (nI m, (FMO_addEntry (sI T4 49 4 0) x4 1).2) := by rw [← a1.1]
        have a1M := a1.2
        rw [sI_2, t50] at a1M
        generalize (FMO_addEntry (sI T4 49 4 0) x4 1).2 = U1 at a1' a1M
        have b260 : U1.2 50 (260 + m) = 0 := by rw [a1M, up5_n (by omega), up5_n (by omega), up5_n (by omega)]; exact hz.2.2
        have a2 := addRow_M (S := U1) (e := m) (r := 0) (by omega) (by rw [b260]; decide) (by omega) (nI cash) x2
        generalize hU2 : FMO_addRow U1 (nI m) (nI cash) x2 = U2 at a2
        have b260' : U2.2 50 (260 + m) = 1 := by rw [a2, up5_e, b260]; decide
        have a3 := addRow_M (S := U2) (e := m) (r := 1) (by omega) (by rw [b260']; decide) (by omega) x1 (-x2)
        generalize hU3 : FMO_addRow U2 (nI m) x1 (-x2) = U3 at a3
        have M4 := sL50 U3 (140 + m) 1
        generalize hU4 : sL U3 50 (140 + m) 1 = U4 at M4
        have fM := fr_FMO_payment T4 x1 x2 x4
        have qM := fq_FMO_payment T4 x1 x2 x4
        have i140 : (140 + nI m).toNatClampNeg = 140 + m := ixC (c := 140) 140 rfl (by omega) (by omega)
        have eM : FMO_payment T4 x1 x2 x4 = (nI m, (LMO_payment_185 300 U4 x1 x2 x4 (nI cash) (nI m) x2 0).2.2) := by
          rw [FMO_payment_e]
          dsimp only
          rw [cM _ (show (sI T4 49 4 0).2 50 = S.2 50 from t50), if_neg (isn _), dayM (sI T4 49 4 0) (sI S 49 4 0), if_neg c3, lateM (S := sI S 49 4 0) (S' := sI T4 49 4 0) t50, if_pos c4, if_neg (ia (sI T4 49 4 0) t50), t50, if_neg n40, ← hh (sI T4 49 4 0) t50, if_neg c6, a1']
          dsimp only
          rw [hU2, hU3, i140, hU4]
        have m3 : ∀ j, U4.2 50 j = up5 (up5 (up5 (up5 (U2.2 50) (300 + (6 * m + 1)) x1.toInt64) (540 + (6 * m + 1)) (-x2)) (260 + m) (U2.2 50 (260 + m) + 1)) (140 + m) 1 j := fun j => by rw [M4, a3]
        have m2 : ∀ j, j ≠ 140 + m → j ≠ 260 + m → j ≠ 300 + (6 * m + 1) → j ≠ 540 + (6 * m + 1) → U4.2 50 j = up5 (up5 (U1.2 50) (300 + 6 * m) (nI cash).toInt64) (540 + 6 * m) x2 j := fun j b1 b2 b3 b4 => by
          rw [m3, up5_n b1, up5_n b2, up5_n b4, up5_n b3, a2, up5_n b2]
          rw [Nat.add_zero]
        have q3 : Q (m + 1) T3.1 T3.2 (U4.2 50) := by
          refine Q_payment hI hR q c5 x1 x2 x4 hx2 dr (cash := cash) ⟨cn, c8⟩ ⟨by omega, by omega⟩ f1 t10 t11 t12 t13 (tB q.1.2.2.2.2) f2 u13 u15 u16 u17 f3 v13 v15 v16 v17 ?_ ?_ ?_ ?_ ?_ ?_ ?_ ?_ ?_ ?_ (fun j d1 d2 d3 d4 d5 d6 d7 d8 d9 => ?_)
          · rw [m2 1 (by omega) (by omega) (by omega) (by omega), up5_n (by omega), up5_n (by omega), a1M, up5_e, tj_add rfl tq_1 (by omega) (by omega), h1]
          · rw [m2 _ (by omega) (by omega) (by omega) (by omega), up5_n (by omega), up5_n (by omega), a1M, up5_n (by omega), up5_n (by omega), up5_e]
          · rw [m3, up5_e]
          · rw [m2 _ (by omega) (by omega) (by omega) (by omega), up5_n (by omega), up5_n (by omega), a1M, up5_n (by omega), up5_e]
            decide
          · rw [m2 _ (by omega) (by omega) (by omega) (by omega), up5_n (by omega), up5_n (by omega), a1M, up5_n (by omega), up5_n (by omega), up5_n (by omega)]
            exact hz.2.1
          · rw [m3, up5_n (by omega), up5_e, b260']
            decide
          · rw [m2 _ (by omega) (by omega) (by omega) (by omega), up5_n (by omega), up5_e, l32, nI_toInt (by omega)]
          · rw [m3, up5_n (by omega), up5_n (by omega), up5_n (by omega), up5_e]
          · rw [m2 _ (by omega) (by omega) (by omega) (by omega), up5_e]
          · rw [m3, up5_n (by omega), up5_n (by omega), up5_e]
          · rw [m2 _ d3 d5 d7 d9, up5_n d8, up5_n d6, a1M, up5_n d1, up5_n d4, up5_n d2]
        -- dues behind the class's loop
        have g : ∀ a, a ∉ [10, 17, 18, 19] → T4.1 a = T3.1 a := fun a ha => (f4 a ha).1
        have kR3 : Rk (m + 1) T3.1 T4.2 (U4.2 50) := Rk_pay q3.1 (fun s => congrFun (pf.1 16 (by decide)) s) (fun s => by
          rw [p17]
          rcases payL_bd (LcC T3.1 T3.2 (m + 1) x1) x2 (T3.2 17) s with h | h
          · exact Or.inl h
          · exact Or.inr h.2)
        have kR4 : Rk (m + 1) T4.1 T4.2 (U4.2 50) := Rk_pt (congrFun (g 2 (by decide)) 0) pf.2 (fun j _ => congrFun (g 3 (by decide)) j) (fun j _ => congrFun (g 11 (by decide)) j) (fun j _ => congrFun (g 12 (by decide)) j) (fun j _ => congrFun (g 13 (by decide)) j) (fun j _ => congrFun (g 14 (by decide)) j) (fun j _ => congrFun (g 15 (by decide)) j) (fun _ _ => rfl) (fun _ _ => rfl) (fun _ _ => rfl) kR3
        have m17 : ∀ s, (T4.2 17 s = -1 ↔ T3.2 17 s = -1) := fun s => by
          rw [p17]
          exact pay_m1
        have lc : LcC T4.1 T4.2 (m + 1) x1 = LcC T3.1 T3.2 (m + 1) x1 := Lc_cg (g 14 (by decide)) (g 13 (by decide)) (g 15 (by decide)) m17
        have raM : ∀ S' : hS, (∀ j, j < 780 → S'.2 50 j = U4.2 50 j) → Ra T4.1 (S'.2 50) := fun S' h => by
          refine Ra_of (congrFun (fP 2 (by decide)).1 0) ?_ (fun k _ => congrFun (fP 3 (by decide)).1 k) (fun k _ => congrFun (fP 8 (by decide)).1 k) (fun k _ => congrFun (fP 9 (by decide)).1 k) (fun j hj => ?_) hR.2.1
          · rw [congrFun (g 1 (by decide)) 5, congrFun (f3 1 (by decide)).1 5, congrFun (f2 1 (by decide)).1 5, congrFun (f1 1 (by decide)).1 5]
          · have := Pm_lt hj
            rw [h j (by omega), m2 j (by omega) (by omega) (by omega) (by omega), up5_n (by omega), up5_n (by omega), a1M, up5_n (by omega), up5_n (by omega), up5_n (by omega)]
        have hB3 := q3.1.2.2.2.2
        have p185 := pay185 x1 x2 x4 (nI cash) (e := m) (by omega) (LcC T3.1 T3.2 (m + 1) x1) (Lc_len (by omega) x1) (fun s hs => by
          have := ((Lc_mem hB3).mp hs).1
          omega) (List.Pairwise.filter _ (pw_nodup (Lp_pw hB3))) (U4.2 50) (fun S' h x => by
          rw [← lc]
          exact itemAt_M (raM S' h) (Rk_M h kR4) x1 x) (LcC T3.1 T3.2 (m + 1) x1).length 300 0 U4 x2 (by omega) (by have := Lc_len (C := T3.1) (L := T3.2) (n := m + 1) (by omega) x1; omega) (fun _ _ => rfl)
        rw [nI_0, List.drop_zero] at p185
        have p185g := pay185g x1 x2 x4 (nI cash) (e := m) (by omega) (LcC T3.1 T3.2 (m + 1) x1) (Lc_len (by omega) x1) (fun s hs => (lm s hs).1) (U4.2 50) (fun S' h x => by
          rw [← lc]
          exact itemAt_M (raM S' h) (Rk_M h kR4) x1 x) (LcC T3.1 T3.2 (m + 1) x1).length 300 0 U4 x2 (by omega) (by have := Lc_len (C := T3.1) (L := T3.2) (n := m + 1) (by omega) x1; omega) (fun _ _ => rfl)
        rw [nI_0, List.drop_zero] at p185g
        have gG : giv (LcC T3.1 T3.2 (m + 1) x1) x2 (fun s => U4.2 50 (780 + s)) = giv (LcC T3.1 T3.2 (m + 1) x1) x2 (T3.2 17) := giv_cg _ _ _ _ (fun t ht => by
          obtain ⟨tn, ti⟩ := (Lc_mem hB3).mp ht
          unfold itmC at ti
          have ti := of_decide_eq_true ti
          have et : 6 * (t / 6) + t % 6 = t := by omega
          have := q3.2 (t / 6) (t % 6) tn (by omega) ti.1
          rw [et] at this
          exact this ti.2.2)
        rw [gG] at p185g
        have u4 : ∀ j, 1020 ≤ j → U4.2 50 j = S.2 50 j := fun j hj => by
          rw [m2 j (by omega) (by omega) (by omega) (by omega), up5_n (by omega), up5_n (by omega), a1M, up5_n (by omega), up5_n (by omega), up5_n (by omega)]
        rw [eM] at fM qM ⊢
        dsimp only at fM qM ⊢
        generalize (LMO_payment_185 300 U4 x1 x2 x4 (nI cash) (nI m) x2 0).2.2 = U5 at p185g fM qM ⊢
        refine R2_step Xg_p hX fP (by decide) fM (by decide) qM ?_
        have k4 : ∀ a, a ∉ [49, 50] → U5.1 a = T4.1 a ∧ U5.2 a = T4.2 a := fun a ha => fM a ha
        have k11 : ∀ j, j ≠ m → U5.1 11 j = S.1 11 j := fun j w => by rw [(k4 11 (by decide)).1, (f4 11 (by decide)).1, s11, if_neg w]
        have sub := giv_sub (LcC T3.1 T3.2 (m + 1) x1) x2 (T3.2 17)
        generalize giv (LcC T3.1 T3.2 (m + 1) x1) x2 (T3.2 17) = G at pg p185g cp sub g280
        obtain ⟨g8, gold, gnew⟩ := pg
        have gm : ∀ i s, G[i]? = some s → s < 6 * (m + 1) := fun i s w => by
          have w1 := sub.subset (List.mem_of_getElem? w)
          have := ((Lc_mem hB3).mp w1).1
          omega
        refine ⟨m + 1, gc + G.length, ⟨?_, by omega⟩, ?_, fun g hg => ?_, fun g h gh hh2 ee => ?_, fun e' s he' hs => ?_, ?_⟩
        · rw [(k4 10 (by decide)).1]
          exact pf.2.trans t10''
        · rw [(k4 10 (by decide)).1]
          exact g8
        · rw [(k4 18 (by decide)).1, (k4 19 (by decide)).1]
          by_cases w : g < gc
          · have o := gold g w
            rw [o.1, o.2, congrFun (f3 18 (by decide)).1 g, congrFun (f2 18 (by decide)).1 g, congrFun (f1 18 (by decide)).1 g, congrFun (f3 19 (by decide)).1 g, congrFun (f2 19 (by decide)).1 g, congrFun (f1 19 (by decide)).1 g]
            obtain ⟨⟨e1', e2', e3'⟩, s1', s2', s3'⟩ := xg g w
            exact ⟨⟨e1', by omega, e3'⟩, s1', by omega, s3'⟩
          · have gi : g - gc < G.length := by omega
            have w1 := List.getElem?_eq_getElem gi
            have w2 := gnew _ _ w1
            rw [show gc + (g - gc) = g by omega] at w2
            exact ⟨⟨m, by omega, w2.1⟩, _, gm _ _ w1, w2.2⟩
        · have old : ∀ i, i < gc → U5.1 18 i = S.1 18 i ∧ U5.1 19 i = S.1 19 i := fun i w => by
            rw [(k4 18 (by decide)).1, (k4 19 (by decide)).1]
            have o := gold i w
            rw [o.1, o.2, congrFun (f3 18 (by decide)).1 i, congrFun (f2 18 (by decide)).1 i, congrFun (f1 18 (by decide)).1 i, congrFun (f3 19 (by decide)).1 i, congrFun (f2 19 (by decide)).1 i, congrFun (f1 19 (by decide)).1 i]
            exact ⟨rfl, rfl⟩
          by_cases w : h < gc
          · have o1 := old g (by omega)
            have o2 := old h w
            rw [o1.1, o2.1] at ee
            have y := xo g h gh w ee
            obtain ⟨_, s1', s2', s3'⟩ := xg g (by omega)
            obtain ⟨_, s4', s5', s6'⟩ := xg h w
            have z1 : gsC U5.1 g = s1' := by unfold gsC; rw [o1.2, s3', nI_clamp (by omega)]
            have z2 : gsC U5.1 h = s4' := by unfold gsC; rw [o2.2, s6', nI_clamp (by omega)]
            have z3 : gsC S.1 g = s1' := by unfold gsC; rw [s3', nI_clamp (by omega)]
            have z4 : gsC S.1 h = s4' := by unfold gsC; rw [s6', nI_clamp (by omega)]
            rw [z3, z4] at y
            rw [z1, z2]
            unfold keyC dyC at y ⊢
            rw [k11 _ (by omega), k11 _ (by omega)]
            exact y
          · have hi : h - gc < G.length := by omega
            have w1 := List.getElem?_eq_getElem hi
            have w2 := gnew _ _ w1
            rw [show gc + (h - gc) = h by omega] at w2
            by_cases v : g < gc
            · obtain ⟨⟨e1', e2', e3'⟩, _⟩ := xg g v
              rw [(old g v).1, e3', (k4 18 (by decide)).1, w2.1] at ee
              have := (nI_eq (by omega) (by omega)).mp ee
              omega
            · have hj : g - gc < G.length := by omega
              have w3 := List.getElem?_eq_getElem hj
              have w4 := gnew _ _ w3
              rw [show gc + (g - gc) = g by omega] at w4
              have z1 : gsC U5.1 g = G[g - gc] := by unfold gsC; rw [(k4 19 (by decide)).1, w4.2, nI_clamp (by have := gm _ _ w3; omega)]
              have z2 : gsC U5.1 h = G[h - gc] := by unfold gsC; rw [(k4 19 (by decide)).1, w2.2, nI_clamp (by have := gm _ _ w1; omega)]
              have pw : G.Pairwise (fun a b => keyC T3.1 a < keyC T3.1 b) := List.Pairwise.sublist sub (List.Pairwise.filter _ (Lp_pw hB3))
              have y := List.pairwise_iff_getElem.mp pw (g - gc) (h - gc) hj hi (by omega)
              rw [z1, z2]
              unfold keyC dyC at y ⊢
              rw [(k4 11 (by decide)).1, (f4 11 (by decide)).1]
              exact y
        · rw [p185g e' s he' hs, u4 _ (by omega), xb e' s he' hs, (k4 18 (by decide)).1, (k4 19 (by decide)).1]
          constructor
          · rintro (⟨g, w1, w2, w3⟩ | ⟨w1, w2⟩)
            · have o := gold g w1
              refine ⟨g, by omega, ?_, ?_⟩
              · rw [o.1, congrFun (f3 18 (by decide)).1 g, congrFun (f2 18 (by decide)).1 g, congrFun (f1 18 (by decide)).1 g]
                exact w2
              · rw [o.2, congrFun (f3 19 (by decide)).1 g, congrFun (f2 19 (by decide)).1 g, congrFun (f1 19 (by decide)).1 g]
                exact w3
            · obtain ⟨i, hi, w3⟩ := List.getElem_of_mem w2
              have w4 := gnew i s (by rw [List.getElem?_eq_getElem hi, w3])
              exact ⟨gc + i, by omega, by rw [w1]; exact w4.1, w4.2⟩
          · rintro ⟨g, w1, w2, w3⟩
            by_cases w : g < gc
            · have o := gold g w
              rw [o.1, congrFun (f3 18 (by decide)).1 g, congrFun (f2 18 (by decide)).1 g, congrFun (f1 18 (by decide)).1 g] at w2
              rw [o.2, congrFun (f3 19 (by decide)).1 g, congrFun (f2 19 (by decide)).1 g, congrFun (f1 19 (by decide)).1 g] at w3
              exact Or.inl ⟨g, w, w2, w3⟩
            · have gi : g - gc < G.length := by omega
              have y1 := List.getElem?_eq_getElem gi
              have y2 := gnew _ _ y1
              rw [show gc + (g - gc) = g by omega] at y2
              rw [y2.1] at w2
              rw [y2.2] at w3
              have y3 := gm _ _ y1
              refine Or.inr ⟨((nI_eq (by omega) (by omega)).mp w2).symm, ?_⟩
              rw [← (nI_eq (by omega) (by omega)).mp w3]
              exact List.getElem_mem gi
        · have zz1 : zN (usC U5.1 (m + 1)) (U5.2 17) = zN (usC T3.1 (m + 1)) (payL (LcC T3.1 T3.2 (m + 1) x1) x2 (T3.2 17)) := by
            have e1' : usC U5.1 (m + 1) = usC T3.1 (m + 1) := by
              funext s
              unfold usC
              rw [(k4 13 (by decide)).1, (f4 13 (by decide)).1]
            have e2' : U5.2 17 = payL (LcC T3.1 T3.2 (m + 1) x1) x2 (T3.2 17) := by
              rw [(k4 17 (by decide)).2]
              funext s
              exact p17 s
            rw [e1', e2']
          have pp1 : pN U5.1 (m + 1) = pN T3.1 (m + 1) := by
            unfold pN
            rw [(k4 12 (by decide)).1, (f4 12 (by decide)).1]
          rw [zz1, pp1]
          omega
    · exact no (by rw [FHL_payment_e, if_neg c1, if_neg c2, if_neg uc, if_neg ca, if_neg (fun z => c5 (f40.mp z))]) (pay_no (Or.inr (Or.inr (Or.inr (Or.inr (m40.mpr c5))))))
  · rw [if_neg c4] at late
    exact no (by rw [FHL_payment_e, if_neg c1, if_neg c2, if_pos late]) (pay_no (Or.inr (Or.inr (Or.inl c4))))
/-! opened -/
def ftd : List Nat → Nat → Int32 → Int32
  | [], _, _ => -1
  | s :: t, c, x => if nI c = x then nI (10 * (s / 6) + s % 6) else ftd t (c + 1) x
theorem ftd_c (s : Nat) (t : List Nat) (c : Nat) (x : Int32) : ftd (s :: t) c x = if nI c = x then nI (10 * (s / 6) + s % 6) else ftd t (c + 1) x := rfl
theorem ftd_none : ∀ (l : List Nat) (c : Nat) (x : Int32), (∀ i, i < l.length → ¬ nI (c + i) = x) → ftd l c x = -1
  | [], _, _, _ => rfl
  | s :: t, c, x, h => by
    have h0 := h 0 (by simp)
    rw [Nat.add_zero] at h0
    rw [ftd_c, if_neg h0]
    refine ftd_none t (c + 1) x (fun i hi => ?_)
    have := h (i + 1) (by simp; omega)
    rw [show c + (i + 1) = c + 1 + i by omega] at this
    exact this
theorem ftd_some : ∀ (l : List Nat) (c : Nat) (i : Nat) (h : i < l.length), c + l.length < 1000 → ftd l c (nI (c + i)) = nI (10 * (l[i] / 6) + l[i] % 6)
  | [], _, i, h, _ => absurd h (Nat.not_lt_zero _)
  | s :: t, c, 0, _, _ => by
    rw [ftd_c, Nat.add_zero, if_pos rfl, List.getElem_cons_zero]
  | s :: t, c, i + 1, h, hc => by
    have hi : i < t.length := by simpa using h
    have hc' : c + (t.length + 1) < 1000 := by simpa using hc
    rw [ftd_c, if_neg (fun z => by have := (nI_eq (by omega) (by omega)).mp z; omega), show c + (i + 1) = c + 1 + i by omega, ftd_some t (c + 1) i hi (by omega), List.getElem_cons_succ]
theorem tg5 {S : hS} (x1 x : Int32) {gc : Nat} (g280 : gc ≤ 280) (h8 : S.1 10 8 = nI gc) (hg : ∀ g, g < gc → ∃ s : Nat, s < 240 ∧ S.1 19 g = nI s) : ∀ (k f c i : Nat), i + k = gc → k < f → Sum.elim (fun q => q) (fun (qq : Int32 × Int32) => (fun (y10_3 : Int32) (y10_4 : Int32) => (-1)) qq.1 qq.2) (LJO_toldGift_5 f S x1 x (nI c) (nI i)) = ftd (((List.range' i k).filter (fun g => decide (S.1 18 g = x1))).map (gsC S.1)) c x
  | k, 0, c, i, _, h => absurd h (Nat.not_lt_zero _)
  | 0, f + 1, c, i, hi, _ => by
    rw [LJO_toldGift_5_s, h8, if_pos (nI_le (by omega) (by omega))]
    rfl
  | k + 1, f + 1, c, i, hi, hf => by
    rw [LJO_toldGift_5_s, h8, if_neg (nI_ge (by omega) (by omega)), nI_clamp (n := i) (by omega), nI_1, nI_1, List.range'_succ]
    by_cases d : S.1 18 i = x1
    · obtain ⟨s, hs, e⟩ := hg i (by omega)
      have es : gsC S.1 i = s := by unfold gsC; rw [e, nI_clamp (by omega)]
      rw [if_pos d, List.filter_cons_of_pos (p := fun g => decide (S.1 18 g = x1)) (decide_eq_true d), List.map_cons, ftd_c, es, e, told_C S hs]
      by_cases w : nI c = x
      · rw [if_pos w, if_pos w]
        rfl
      · rw [if_neg w, if_neg w]
        exact tg5 x1 x g280 h8 hg k f (c + 1) (i + 1) (by omega) (by omega)
    · rw [if_neg d, List.filter_cons_of_neg (p := fun g => decide (S.1 18 g = x1)) (by rw [decide_eq_true_iff]; exact d)]
      exact tg5 x1 x g280 h8 hg k f c (i + 1) (by omega) (by omega)
theorem cnt37_L {S : hS} (a x : Int32) (s : Nat) : ∀ (k f c o : Nat), o + k = 240 → k < f → (LMO_opened_37 f S a x (nI s) (nI c) (nI o)).1 = nI (c + (List.range' o k).countP (fun o => decide (¬ FMO_gave S a (nI o) = 0 ∧ ¬ FMO_isBefore S (nI o) (nI s) = 0)))
  | 0, 0, c, o, _, h => absurd h (Nat.not_lt_zero _)
  | 0, f + 1, c, o, ho, _ => by
    rw [LMO_opened_37_s, if_pos (by rw [show (240 : Int32) = nI 240 by decide]; exact nI_le (by omega) (by omega))]
    rfl
  | k + 1, 0, c, o, _, h => absurd h (Nat.not_lt_zero _)
  | k + 1, f + 1, c, o, ho, hf => by
    rw [LMO_opened_37_s, if_neg (by rw [show (240 : Int32) = nI 240 by decide]; exact nI_ge (by omega) (by omega)), nI_1, nI_1, nI_0a, List.range'_succ, List.countP_cons]
    by_cases d : FMO_gave S a (nI o) = 0
    · rw [if_pos d, cnt37_L a x s k f c (o + 1) (by omega) (by omega), if_neg (by rw [decide_eq_true_iff]; exact fun z => z.1 d)]
      rfl
    · rw [if_neg d]
      by_cases e : FMO_isBefore S (nI o) (nI s) = 0
      · rw [if_pos e, cnt37_L a x s k f c (o + 1) (by omega) (by omega), if_neg (by rw [decide_eq_true_iff]; exact fun z => z.2 e)]
        rfl
      · rw [if_neg e, cnt37_L a x s k f (c + 1) (o + 1) (by omega) (by omega), if_pos (by rw [decide_eq_true_iff]; exact ⟨d, e⟩)]
        congr 1
        omega
theorem op7_L {S : hS} (a x : Int32) (ha : ¬ FMO_isEntry S a = 0) : ∀ (k f s : Nat), s + k = 240 → k < f → Sum.elim (fun q => q) (fun (qq : Int32) => (fun (y25_3 : Int32) => (-1)) qq) (LMO_opened_7 f S a x (nI s)) = (match (List.range' s k).find? (fun s => decide (¬ FMO_gave S a (nI s) = 0 ∧ (LMO_opened_37 300 S a x (nI s) 0 0).1 = x)) with | some s => nI (10 * (s / 6) + s % 6) | none => -1)
  | 0, 0, s, _, h => absurd h (Nat.not_lt_zero _)
  | 0, f + 1, s, hs, _ => by
    rw [LMO_opened_7_s, if_pos (by rw [show (240 : Int32) = nI 240 by decide]; exact nI_le (by omega) (by omega))]
    rfl
  | k + 1, 0, s, _, h => absurd h (Nat.not_lt_zero _)
  | k + 1, f + 1, s, hs, hf => by
    rw [LMO_opened_7_s, if_neg (by rw [show (240 : Int32) = nI 240 by decide]; exact nI_ge (by omega) (by omega)), if_neg ha, nI_1, List.range'_succ]
    by_cases d : FMO_gave S a (nI s) = 0
    · rw [if_pos d, op7_L a x ha k f (s + 1) (by omega) (by omega), List.find?_cons_of_neg (by rw [decide_eq_true_iff]; exact fun z => z.1 d)]
    · rw [if_neg d]
      dsimp only
      by_cases e : (LMO_opened_37 300 S a x (nI s) 0 0).1 = x
      · rw [if_pos e, List.find?_cons_of_pos (by rw [decide_eq_true_iff]; exact ⟨d, e⟩)]
        have t := told_C S (s := s) (by omega)
        rw [FJO_told_e] at t
        show 10 * (nI s / 6) + (nI s - nI s / 6 * 6) = nI (10 * (s / 6) + s % 6)
        rw [← t, Int32.mul_comm]
      · rw [if_neg e, op7_L a x ha k f (s + 1) (by omega) (by omega), List.find?_cons_of_neg (by rw [decide_eq_true_iff]; exact fun z => e z.2)]
theorem q_opened {S : hS} (hJ : Rj S) (hX : R2 Xg S) (x1 x2 : Int32) : FHL_opened S x1 x2 = (FMO_opened S x1 x2).1 := by
  obtain ⟨n, q⟩ := hJ.1
  have h0 := q.1.1.1
  have hn := q.1.1.2.1
  have h1 := q.1.1.2.2.1
  obtain ⟨m, gc, ⟨x10, x40⟩, x8, xg, xo, xb, xc⟩ := hX.1
  have emn : m = n := (nI_eq (by omega) (by omega)).mp (x10.symm.trans h0)
  subst emn
  have g280 : gc ≤ 280 := by
    have := zN_240 (usC S.1 m) (S.2 17)
    have := pN_40 S.1 m
    omega
  have cls := tg5 (S := S) x1 x2 g280 x8 (fun g hg => by
    obtain ⟨_, s, hs, e⟩ := xg g hg
    exact ⟨s, by omega, e⟩) gc 300 0 0 (by omega) (by omega)
  rw [nI_0] at cls
  have ec : FHL_opened S x1 x2 = ftd (((List.range' 0 gc).filter (fun g => decide (S.1 18 g = x1))).map (gsC S.1)) 0 x2 := by
    rw [FHL_opened_e, FJO_toldGift_e]
    exact cls
  have er : (FMO_opened S x1 x2).1 = Sum.elim (fun q => q) (fun (qq : Int32) => (fun (y25_3 : Int32) => (-1)) qq) (LMO_opened_7 300 (sI S 49 4 0) x1 x2 0) := by
    rw [FMO_opened_e]
    cases LMO_opened_7 300 (sI S 49 4 0) x1 x2 0 with
    | inl v => rfl
    | inr v => rfl
  rw [ec, er]
  rcases ent_or (S' := sI S 49 4 0) h0 h1 hn x1 with ⟨a, b⟩ | ⟨a, e, he, rfl⟩
  · have nil : (List.range' 0 gc).filter (fun g => decide (S.1 18 g = x1)) = [] := by
      refine List.filter_eq_nil_iff.mpr (fun g hg z => ?_)
      have g1 := List.mem_range'_1.mp hg
      obtain ⟨⟨e, he, e1⟩, _⟩ := xg g (by omega)
      have z1 := of_decide_eq_true z
      rw [e1] at z1
      rcases b with b | b
      · rw [← z1] at b
        exact absurd b (nI_pos (by omega))
      · have b2 := b.2
        rw [← z1, h0] at b2
        exact absurd b2 (nI_ge he (by omega))
    rw [nil, List.map_nil, LMO_opened_7_s, if_neg (by decide), if_pos a]
    rfl
  · have ne : ¬ FMO_isEntry (sI S 49 4 0) (nI e) = 0 := by rw [a]; decide
    have hE := xb e
    have mem : ∀ s, s ∈ ((List.range' 0 gc).filter (fun g => decide (S.1 18 g = nI e))).map (gsC S.1) ↔ s < 240 ∧ bW (S.2 50 (1020 + (4 * e + s / 60))) (s % 60) = true := fun s => by
      rw [List.mem_map]
      constructor
      · rintro ⟨g, hg, rfl⟩
        obtain ⟨g1, g2⟩ := List.mem_filter.mp hg
        have g1' := List.mem_range'_1.mp g1
        obtain ⟨_, s, hs, e2⟩ := xg g (by omega)
        have es : gsC S.1 g = s := by unfold gsC; rw [e2, nI_clamp (by omega)]
        rw [es]
        exact ⟨by omega, (xb e s (by omega) (by omega)).mpr ⟨g, by omega, of_decide_eq_true g2, e2⟩⟩
      · rintro ⟨hs, hb⟩
        obtain ⟨g, g1, g2, g3⟩ := (xb e s (by omega) hs).mp hb
        exact ⟨g, List.mem_filter.mpr ⟨List.mem_range'_1.mpr ⟨Nat.zero_le _, by omega⟩, decide_eq_true g2⟩, by unfold gsC; rw [g3, nI_clamp (by omega)]⟩
    have pw : (((List.range' 0 gc).filter (fun g => decide (S.1 18 g = nI e))).map (gsC S.1)).Pairwise (fun a b => keyC S.1 a < keyC S.1 b) := by
      rw [List.pairwise_map]
      refine List.Pairwise.imp_of_mem ?_ (List.Pairwise.filter _ (List.pairwise_lt_range' (s := 0) (n := gc)))
      intro g h hg hh gh
      obtain ⟨g1, g2⟩ := List.mem_filter.mp hg
      obtain ⟨h1', h2⟩ := List.mem_filter.mp hh
      have h3 := List.mem_range'_1.mp h1'
      exact xo g h gh (by omega) ((of_decide_eq_true g2).trans (of_decide_eq_true h2).symm)
    have len : (((List.range' 0 gc).filter (fun g => decide (S.1 18 g = nI e))).map (gsC S.1)).length ≤ 280 := by
      rw [List.length_map]
      refine Nat.le_trans (List.length_filter_le _ _) ?_
      rw [List.length_range']
      exact g280
    have slot : ∀ s, s ∈ ((List.range' 0 gc).filter (fun g => decide (S.1 18 g = nI e))).map (gsC S.1) → s / 6 < m := fun s hs => by
      rw [List.mem_map] at hs
      obtain ⟨g, hg, es⟩ := hs
      have g1' := List.mem_range'_1.mp (List.mem_filter.mp hg).1
      obtain ⟨_, s', hs', e2⟩ := xg g (by omega)
      have : gsC S.1 g = s' := by unfold gsC; rw [e2, nI_clamp (by omega)]
      omega
    generalize ((List.range' 0 gc).filter (fun g => decide (S.1 18 g = nI e))).map (gsC S.1) = l at mem pw len slot ⊢
    have nd : l.Nodup := pw_nodup pw
    have gv : ∀ s, s < 240 → (¬ FMO_gave (sI S 49 4 0) (nI e) (nI s) = 0 ↔ s ∈ l) := fun s hs => by
      rw [gave_M (by omega) hs, mem, Classical.not_not]
      exact ⟨fun z => ⟨hs, z⟩, fun z => z.2⟩
    have perm : l.Perm ((List.range 240).filter (fun s => decide (s ∈ l))) := by
      refine (List.perm_ext_iff_of_nodup nd (List.Pairwise.filter _ List.nodup_range)).mpr (fun s => ?_)
      rw [List.mem_filter, List.mem_range, decide_eq_true_iff]
      exact ⟨fun z => ⟨((mem s).mp z).1, z⟩, fun z => z.2⟩
    have cn : ∀ s, s < 240 → ¬ FMO_gave (sI S 49 4 0) (nI e) (nI s) = 0 → ∃ i, ∃ hi : i < l.length, l[i] = s ∧ (LMO_opened_37 300 (sI S 49 4 0) (nI e) x2 (nI s) 0 0).1 = nI i := fun s hs hi => by
      have sl := (gv s hs).mp hi
      have sn := slot s sl
      have qq := cnt37_L (S := sI S 49 4 0) (nI e) x2 s 240 300 0 0 (by omega) (by omega)
      rw [nI_0, Nat.zero_add, ← List.range_eq_range'] at qq
      have ee : (List.range 240).countP (fun o => decide (¬ FMO_gave (sI S 49 4 0) (nI e) (nI o) = 0 ∧ ¬ FMO_isBefore (sI S 49 4 0) (nI o) (nI s) = 0)) = (List.range 240).countP (fun o => decide (o ∈ l) && decide (keyC S.1 o < keyC S.1 s)) := by
        refine List.countP_congr (fun o ho => ?_)
        have ho' := List.mem_range.mp ho
        rw [decide_eq_true_iff, Bool.and_eq_true, decide_eq_true_iff, decide_eq_true_iff, gv o ho']
        constructor
        · rintro ⟨u, v⟩
          refine ⟨u, ?_⟩
          rw [isBefore_M (S' := sI S 49 4 0) q.1 (slot o u) sn] at v
          exact Classical.byContradiction (fun z => v (if_neg z))
        · rintro ⟨u, v⟩
          refine ⟨u, ?_⟩
          rw [isBefore_M (S' := sI S 49 4 0) q.1 (slot o u) sn, if_pos v]
          decide
      rw [ee] at qq
      have rk := (rank_perm (it := fun o => decide (o ∈ l)) (R := fun a b => decide (keyC S.1 a < keyC S.1 b)) (fun a => decide_eq_false (Int.lt_irrefl _)) (fun a b hab => decide_eq_false (by have := of_decide_eq_true hab; omega)) perm (List.Pairwise.imp (fun {_ _} hab => decide_eq_true hab) pw) hs (decide_eq_true sl) (k := (List.range 240).countP (fun o => decide (o ∈ l) && decide (keyC S.1 o < keyC S.1 s)))).mp rfl
      obtain ⟨hi1, hi2⟩ := List.getElem?_eq_some_iff.mp rk
      exact ⟨_, hi1, hi2, qq⟩
    have r := op7_L (S := sI S 49 4 0) (nI e) x2 ne 240 300 0 (by omega) (by omega)
    rw [nI_0] at r
    refine Eq.trans ?_ r.symm
    cases hf : (List.range' 0 240).find? (fun s => decide (¬ FMO_gave (sI S 49 4 0) (nI e) (nI s) = 0 ∧ (LMO_opened_37 300 (sI S 49 4 0) (nI e) x2 (nI s) 0 0).1 = x2)) with
    | some s =>
      have hp0 := List.find?_some hf
      have hp := of_decide_eq_true hp0
      have hs := List.mem_range'_1.mp (List.mem_of_find?_eq_some hf)
      obtain ⟨i, hi, e1, e2⟩ := cn s (by omega) hp.1
      have := ftd_some l 0 i hi (by omega)
      rw [Nat.zero_add, ← e2, hp.2, e1] at this
      exact this
    | none =>
      refine ftd_none _ _ _ (fun i hi z => ?_)
      have hnone := List.find?_eq_none.mp hf
      have hm' := (mem _).mp (List.getElem_mem hi)
      have ii := (gv _ hm'.1).mpr (List.getElem_mem hi)
      obtain ⟨j, hj, f1, f2⟩ := cn _ hm'.1 ii
      have ij : j = i := (List.getElem_inj nd).mp f1
      refine hnone _ (List.mem_range'_1.mpr ⟨Nat.zero_le _, by omega⟩) (decide_eq_true ⟨ii, ?_⟩)
      rw [f2, ij, ← z, Nat.zero_add]

