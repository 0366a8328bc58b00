/-! batches, for any relation that looks at copied cells alone -/
def okI (a j : Nat) : Prop := (a = 2 ∧ j = 0) ∨ (a = 1 ∧ j = 4) ∨ (a = 1 ∧ j = 5) ∨ (a = 10 ∧ j = 0) ∨ (a = 10 ∧ j = 8) ∨ (a = 20 ∧ j = 0) ∨ (a = 3 ∧ j < 8) ∨ (a = 4 ∧ j < 8) ∨ (a = 5 ∧ j < 8) ∨ (a = 8 ∧ j < 8) ∨ (a = 9 ∧ j < 8) ∨ (a = 11 ∧ j < 40) ∨ (a = 12 ∧ j < 40) ∨ (a = 13 ∧ j < 40) ∨ (a = 14 ∧ j < 40) ∨ (a = 15 ∧ j < 240) ∨ (a = 18 ∧ j < 280) ∨ (a = 19 ∧ j < 280) ∨ (a = 21 ∧ j < 10)
def okL (a j : Nat) : Prop := (a = 1 ∧ j = 6) ∨ (a = 1 ∧ j = 7) ∨ (a = 6 ∧ j < 8) ∨ (a = 7 ∧ j < 8) ∨ (a = 16 ∧ j < 240) ∨ (a = 17 ∧ j < 240) ∨ (a = 22 ∧ j < 10) ∨ (a = 23 ∧ j < 10) ∨ (a = 24 ∧ j < 20)
theorem okBI (S : hS) {a j : Nat} (h : okI a j) : (FBO_copyFrom_25_1 S).1 (a + 24) j = S.1 a j := by
  rcases h with ⟨rfl, rfl⟩ | ⟨rfl, rfl⟩ | ⟨rfl, rfl⟩ | ⟨rfl, rfl⟩ | ⟨rfl, rfl⟩ | ⟨rfl, rfl⟩ | ⟨rfl, h⟩ | ⟨rfl, h⟩ | ⟨rfl, h⟩ | ⟨rfl, h⟩ | ⟨rfl, h⟩ | ⟨rfl, h⟩ | ⟨rfl, h⟩ | ⟨rfl, h⟩ | ⟨rfl, h⟩ | ⟨rfl, h⟩ | ⟨rfl, h⟩ | ⟨rfl, h⟩ | ⟨rfl, h⟩
  · exact cB_2_0 S
  · exact cB_1_4 S
  · exact cB_1_5 S
  · exact cB_10_0 S
  · exact cB_10_8 S
  · exact cB_20_0 S
  · exact cB_3 S h
  · exact cB_4 S h
  · exact cB_5 S h
  · exact cB_8 S h
  · exact cB_9 S h
  · exact cB_11 S h
  · exact cB_12 S h
  · exact cB_13 S h
  · exact cB_14 S h
  · exact cB_15 S h
  · exact cB_18 S h
  · exact cB_19 S h
  · exact cB_21 S h
theorem okBL (S : hS) {a j : Nat} (h : okL a j) : (FBO_copyFrom_25_1 S).2 (a + 24) j = S.2 a j := by
  rcases h with ⟨rfl, rfl⟩ | ⟨rfl, rfl⟩ | ⟨rfl, h⟩ | ⟨rfl, h⟩ | ⟨rfl, h⟩ | ⟨rfl, h⟩ | ⟨rfl, h⟩ | ⟨rfl, h⟩ | ⟨rfl, h⟩
  · exact cB_1_6 S
  · exact cB_1_7 S
  · exact cB_6 S h
  · exact cB_7 S h
  · exact cB_16 S h
  · exact cB_17 S h
  · exact cB_22 S h
  · exact cB_23 S h
  · exact cB_24 S h
theorem okEI (S : hS) {a j : Nat} (h : okI a j) : (FBO_copyFrom_1_25 S).1 a j = S.1 (a + 24) j := by
  rcases h with ⟨rfl, rfl⟩ | ⟨rfl, rfl⟩ | ⟨rfl, rfl⟩ | ⟨rfl, rfl⟩ | ⟨rfl, rfl⟩ | ⟨rfl, rfl⟩ | ⟨rfl, h⟩ | ⟨rfl, h⟩ | ⟨rfl, h⟩ | ⟨rfl, h⟩ | ⟨rfl, h⟩ | ⟨rfl, h⟩ | ⟨rfl, h⟩ | ⟨rfl, h⟩ | ⟨rfl, h⟩ | ⟨rfl, h⟩ | ⟨rfl, h⟩ | ⟨rfl, h⟩ | ⟨rfl, h⟩
  · exact cE_2_0 S
  · exact cE_1_4 S
  · exact cE_1_5 S
  · exact cE_10_0 S
  · exact cE_10_8 S
  · exact cE_20_0 S
  · exact cE_3 S h
  · exact cE_4 S h
  · exact cE_5 S h
  · exact cE_8 S h
  · exact cE_9 S h
  · exact cE_11 S h
  · exact cE_12 S h
  · exact cE_13 S h
  · exact cE_14 S h
  · exact cE_15 S h
  · exact cE_18 S h
  · exact cE_19 S h
  · exact cE_21 S h
theorem okEL (S : hS) {a j : Nat} (h : okL a j) : (FBO_copyFrom_1_25 S).2 a j = S.2 (a + 24) j := by
  rcases h with ⟨rfl, rfl⟩ | ⟨rfl, rfl⟩ | ⟨rfl, h⟩ | ⟨rfl, h⟩ | ⟨rfl, h⟩ | ⟨rfl, h⟩ | ⟨rfl, h⟩ | ⟨rfl, h⟩ | ⟨rfl, h⟩
  · exact cE_1_6 S
  · exact cE_1_7 S
  · exact cE_6 S h
  · exact cE_7 S h
  · exact cE_16 S h
  · exact cE_17 S h
  · exact cE_22 S h
  · exact cE_23 S h
  · exact cE_24 S h
theorem ok_rg {a j : Nat} (h : okI a j ∨ okL a j) : 1 ≤ a ∧ a ≤ 24 := by
  unfold okI okL at h
  omega
/-- X looks at copied cells alone -/
def Xp (X : (Nat → Nat → Int32) → (Nat → Nat → Int64) → (Nat → Int64) → Prop) : Prop := ∀ C C' L L' M M', (∀ a j, okI a j → C' a j = C a j) → (∀ a j, okL a j → L' a j = L a j) → (∀ j, j < 1220 → M' j = M j) → X C L M → X C' L' M'
def R2 (X : (Nat → Nat → Int32) → (Nat → Nat → Int64) → (Nat → Int64) → Prop) (S : hS) : Prop := X S.1 S.2 (S.2 50) ∧ (¬ S.1 49 2 = 0 → X (kp S).1 (kp S).2 (S.2 51))
theorem R2_fault {X : (Nat → Nat → Int32) → (Nat → Nat → Int64) → (Nat → Int64) → Prop} (hX : Xp X) {S : hS} (h : R2 X S) : R2 X (sI S 49 4 0) := by
  have k : ∀ a j, a ≠ 49 → (sI S 49 4 0).1 a j = S.1 a j := fun a j ha => by rw [sI_1, if_neg (fun z => ha z.1)]
  refine ⟨hX _ _ _ _ _ _ (fun a j ha => k a j (by have := ok_rg (Or.inl ha); omega)) (fun a j _ => rfl) (fun j _ => rfl) h.1, fun c => ?_⟩
  have c' : ¬ S.1 49 2 = 0 := by rw [sI_1, if_neg (by omega)] at c; exact c
  exact hX (kp S).1 _ (kp S).2 _ _ _ (fun a j ha => k (a + 24) j (by have := ok_rg (Or.inl ha); omega)) (fun a j _ => rfl) (fun j _ => rfl) (h.2 c')
theorem cellsF {ks : List Nat} {S T : hS} (h : Same ks S T) (hd : ∀ k, k ∈ ks → k = 0 ∨ 25 ≤ k) {a : Nat} (ha : 1 ≤ a ∧ a ≤ 24) : T.1 a = S.1 a ∧ T.2 a = S.2 a := h a (fun z => by have := hd a z; omega)
theorem cellsK {ks : List Nat} {S T : hS} (h : Same ks S T) (hd : ∀ k, k ∈ ks → k ≤ 24 ∨ 49 ≤ k) {a : Nat} (ha : 1 ≤ a ∧ a ≤ 24) : T.1 (a + 24) = S.1 (a + 24) ∧ T.2 (a + 24) = S.2 (a + 24) := h (a + 24) (fun z => by have := hd (a + 24) z; omega)
theorem R2_batch {X : (Nat → Nat → Int32) → (Nat → Nat → Int64) → (Nat → Int64) → Prop} (hX : Xp X) {S : hS} (hR : Rb S) (h : R2 X S) : R2 X (FMO_batch (FHL_batch S).2).2 := by
  have hf := fr_FHL_batch S
  have hm := fr_FMO_batch (FHL_batch S).2
  have f : ∀ a, 1 ≤ a ∧ a ≤ 24 → (FMO_batch (FHL_batch S).2).2.1 a = S.1 a ∧ (FMO_batch (FHL_batch S).2).2.2 a = S.2 a := fun a ha => by
    have x := cellsF hm (by decide) ha
    have y := cellsF hf (by decide) ha
    exact ⟨x.1.trans y.1, x.2.trans y.2⟩
  have f50 : (FMO_batch (FHL_batch S).2).2.2 50 = S.2 50 := (hm 50 (by decide)).2.trans (hf 50 (by decide)).2
  refine ⟨hX _ _ _ _ _ _ (fun a j ha => congrFun (f a (ok_rg (Or.inl ha))).1 j) (fun a j ha => congrFun (f a (ok_rg (Or.inr ha))).2 j) (fun j _ => congrFun f50 j) h.1, ?_⟩
  by_cases c : S.1 0 2 = 0
  · intro _
    have hd : (FHL_batch S).2 = sI (sI (FBO_copyFrom_25_1 S) 0 2 1) 0 3 ((FBO_copyFrom_25_1 S).1 0 3 + 1) := by rw [FHL_batch_e, if_pos c]
    have e51 := fun j hj => (bat_k hR c).2 j hj
    refine hX _ _ _ _ _ _ (fun a j ha => ?_) (fun a j ha => ?_) (fun j hj => e51 j hj) h.1
    · have r := ok_rg (Or.inl ha)
      refine Eq.trans ?_ (okBI S ha)
      show (FMO_batch (FHL_batch S).2).2.1 (a + 24) j = _
      rw [(cellsK hm (by decide) r).1, hd, sI_1, if_neg (by omega), sI_1, if_neg (by omega)]
    · have r := ok_rg (Or.inr ha)
      refine Eq.trans ?_ (okBL S ha)
      show (FMO_batch (FHL_batch S).2).2.2 (a + 24) j = _
      rw [(cellsK hm (by decide) r).2, hd]
      rfl
  · have e : FHL_batch S = (-1, S) := by rw [FHL_batch_e, if_neg c]
    rw [e]
    dsimp only
    have g : FMO_batch S = (-1, sI S 49 4 0) := by rw [FMO_batch_e, if_neg (by rw [← hR.1]; exact c)]
    rw [g]
    exact (R2_fault hX h).2
theorem R2_endBatch {X : (Nat → Nat → Int32) → (Nat → Nat → Int64) → (Nat → Int64) → Prop} (hX : Xp X) {S : hS} (hR : Rb S) (h : R2 X S) (x1 : Int32) : R2 X (FMO_endBatch (FHL_endBatch S x1).2 x1).2 := by
  have h49 := congrFun (fr_FHL_endBatch S x1 49 (by decide)).1 2
  by_cases c : S.1 0 2 = 0
  · have e : FHL_endBatch S x1 = (0, S) := by rw [FHL_endBatch_e, if_pos c]
    rw [e]
    dsimp only
    have f : FMO_endBatch S x1 = (0, sI S 49 4 0) := by rw [FMO_endBatch_e, if_pos (by rw [← hR.1]; exact c)]
    rw [f]
    exact R2_fault hX h
  · have c9 : ¬ (FHL_endBatch S x1).2.1 49 2 = 0 := by rw [h49, ← hR.1]; exact c
    have hz : (FMO_endBatch (FHL_endBatch S x1).2 x1).2.1 49 2 = 0 := by
      generalize (FHL_endBatch S x1).2 = S1 at c9 ⊢
      rw [FMO_endBatch_e, if_neg c9]
      have h9 := congrFun (end9 1300 (sI (sI S1 49 4 0) 49 2 0) x1 0) 2
      generalize LMO_endBatch_21 1300 (sI (sI S1 49 4 0) 49 2 0) x1 0 = q at h9 ⊢
      exact h9.trans (by rw [sI_1, if_pos ⟨rfl, rfl⟩])
    refine ⟨?_, fun y => absurd hz y⟩
    have hm := fr_FMO_endBatch (FHL_endBatch S x1).2 x1
    have h50 := (fr_FHL_endBatch S x1 50 (by decide)).2
    have h51 := (fr_FHL_endBatch S x1 51 (by decide)).2
    have mm : ∀ a, 1 ≤ a ∧ a ≤ 24 → (FMO_endBatch (FHL_endBatch S x1).2 x1).2.1 a = (FHL_endBatch S x1).2.1 a ∧ (FMO_endBatch (FHL_endBatch S x1).2 x1).2.2 a = (FHL_endBatch S x1).2.2 a := fun a ha => cellsF hm (by decide) ha
    by_cases d : x1 = 0
    · have hd : (FHL_endBatch S x1).2 = sI (FBO_copyFrom_1_25 S) 0 2 0 := by rw [FHL_endBatch_e, if_neg c, if_pos d]
      have e50 : ∀ j, j < 1220 → (FMO_endBatch (FHL_endBatch S x1).2 x1).2.2 50 j = S.2 51 j := by
        intro j hj
        generalize (FHL_endBatch S x1).2 = S1 at h51 c9 ⊢
        rw [FMO_endBatch_e, if_neg c9, d]
        have h := end21 1300 (sI (sI S1 49 4 0) 49 2 0) 0 (by omega) (by omega) j
        rw [nI_0] at h
        rw [if_pos ⟨Nat.zero_le _, hj⟩, sI_2, sI_2, h51] at h
        generalize LMO_endBatch_21 1300 (sI (sI S1 49 4 0) 49 2 0) 0 0 = q at h ⊢
        exact h
      refine hX (kp S).1 _ (kp S).2 _ (S.2 51) _ (fun a j ha => ?_) (fun a j ha => ?_) e50 (h.2 (by rw [← hR.1]; exact c))
      · have r := ok_rg (Or.inl ha)
        refine Eq.trans ?_ (okEI S ha)
        rw [(mm a r).1, hd, sI_1, if_neg (by omega)]
      · have r := ok_rg (Or.inr ha)
        refine Eq.trans ?_ (okEL S ha)
        rw [(mm a r).2, hd]
        rfl
    · have hd : (FHL_endBatch S x1).2 = sI S 0 2 0 := by rw [FHL_endBatch_e, if_neg c, if_neg d]
      have e50 : (FMO_endBatch (FHL_endBatch S x1).2 x1).2.2 50 = S.2 50 := by
        generalize (FHL_endBatch S x1).2 = S1 at h50 c9 ⊢
        rw [FMO_endBatch_e, if_neg c9]
        have h := end21_k (n := 1299) (S := sI (sI S1 49 4 0) 49 2 0) d 0
        generalize LMO_endBatch_21 1300 (sI (sI S1 49 4 0) 49 2 0) x1 0 = q at h ⊢
        dsimp only
        rw [h]
        exact h50
      refine hX S.1 _ S.2 _ (S.2 50) _ (fun a j ha => ?_) (fun a j ha => ?_) (fun j _ => congrFun e50 j) h.1
      · have r := ok_rg (Or.inl ha)
        rw [(mm a r).1, hd, sI_1, if_neg (by omega)]
      · have r := ok_rg (Or.inr ha)
        rw [(mm a r).2, hd]
        rfl
/-- the kept half over two calls -/
theorem R2_step {X : (Nat → Nat → Int32) → (Nat → Nat → Int64) → (Nat → Int64) → Prop} (hX : Xp X) {ks ks' : List Nat} {S S1 S2 : hS} (h : R2 X S) (h1 : Same ks S S1) (d1 : (∀ k, k ∈ ks → k ≤ 24 ∨ 52 ≤ k)) (h2 : Same ks' S1 S2) (d2 : ∀ k, k ∈ ks' → k ≤ 24 ∨ k = 49 ∨ k = 50) (hq : Sm S1 S2) (hn : X S2.1 S2.2 (S2.2 50)) : R2 X S2 := by
  refine ⟨hn, fun y => ?_⟩
  have h0 : ¬ S.1 49 2 = 0 := by rw [hq.1, (h1 49 (fun z => by have := d1 _ z; omega)).1] at y; exact y
  have k : ∀ a, 1 ≤ a ∧ a ≤ 24 → S2.1 (a + 24) = S.1 (a + 24) ∧ S2.2 (a + 24) = S.2 (a + 24) := fun a ha => by
    have x := h2 (a + 24) (fun z => by have := d2 _ z; omega)
    have w := h1 (a + 24) (fun z => by have := d1 _ z; omega)
    exact ⟨x.1.trans w.1, x.2.trans w.2⟩
  refine hX (kp S).1 _ (kp S).2 _ (S.2 51) _ (fun a j ha => congrFun (k a (ok_rg (Or.inl ha))).1 j) (fun a j ha => congrFun (k a (ok_rg (Or.inr ha))).2 j) (fun j _ => ?_) (h.2 h0)
  exact congrFun ((h2 51 (fun z => by have := d2 _ z; omega)).2.trans (h1 51 (fun z => by have := d1 _ z; omega)).2) j
def Ph (j : Nat) : Prop := j ≠ 1 ∧ (j < 100 ∨ 1180 ≤ j)
def Mh (S S' : hS) : Prop := ∀ j, Ph j → S'.2 50 j = S.2 50 j
theorem Mh.rf {S : hS} : Mh S S := fun _ _ => rfl
theorem Mh.tr {S S' S'' : hS} (h : Mh S S') (h' : Mh S' S'') : Mh S S'' := fun j hj => (h' j hj).trans (h j hj)
theorem Mh.i {S S' : hS} {k j : Nat} {x : Int32} (h : Mh S S') : Mh S (sI S' k j x) := h
theorem Mh.l {S S' : hS} {j : Nat} {v : Int64} (h : Mh S S') (hj : j = 1 ∨ (100 ≤ j ∧ j < 1180)) : Mh S (sL S' 50 j v) := fun i hi => by
  unfold Ph at hi
  rw [sL_2, if_neg (by omega)]
  exact h i hi
theorem hi_at2 {c w : Int32} {p : Int} (hc : c.toInt = p) (h0 : 0 ≤ w.toInt) (h1 : w.toInt ≤ 1000) (hp : 100 ≤ p ∧ p + w.toInt < 1180) : 100 ≤ (c + w).toNatClampNeg ∧ (c + w).toNatClampNeg < 1180 := by
  have e : (c + w).toInt = p + w.toInt := ti_add hc rfl (by omega) (by omega)
  have e2 : (c + w).toNatClampNeg = (c + w).toInt.toNat := rfl
  omega
theorem Mh_hi {S S' : hS} {c w : Int32} {v : Int64} (p : Int) (h : Mh S S') (hc : c.toInt = p) (h0 : 0 ≤ w.toInt) (h1 : w.toInt ≤ 1000) (hp : 100 ≤ p ∧ p + w.toInt < 1180) : Mh S (sL S' 50 (c + w).toNatClampNeg v) := h.l (Or.inr (hi_at2 hc h0 h1 hp))
theorem Mh_addEntry {S : hS} (hw : wfM S) (x1 : Int64) (x3 : Int32) : Mh S (FMO_addEntry S x1 x3).2 := by
  rw [FMO_addEntry_e]
  have hb := hw.2.1
  have e32 := t32 hb.1 hb.2 (by omega)
  exact ((Mh_hi 180 (Mh_hi 100 Mh.rf (by decide) (by rw [e32]; omega) (by rw [e32]; omega) (by omega)) (by decide) (by rw [e32]; omega) (by rw [e32]; omega) (by omega)).l (by omega))
theorem Mh_addRow {S : hS} (hw : wfM S) (x1 x2 : Int32) (x3 : Int64) (hx : rg x1 40) : Mh S (FMO_addRow S x1 x2 x3) := by
  rw [FMO_addRow_e]
  have r := wfM_r hw hx
  have t : ((S.2 50 (260 + x1).toNatClampNeg).toInt32).toInt = (S.2 50 (260 + x1).toNatClampNeg).toInt := ti_32 rfl (by omega) (by omega)
  unfold rg at hx
  have t6 : ((6 * x1) + ((S.2 50 ((260 + x1).toNatClampNeg)).toInt32)).toInt = 6 * x1.toInt + (S.2 50 (260 + x1).toNatClampNeg).toInt := ti_add (ti_mul tl_6 rfl (by omega) (by omega)) t (by omega) (by omega)
  exact Mh_hi 260 (Mh_hi 540 (Mh_hi 300 Mh.rf (by decide) (by omega) (by omega) (by omega)) (by decide) (by omega) (by omega) (by omega)) (by decide) hx.1 (by omega) (by omega)
theorem Mh_entry {S : hS} (hw : wfM S) (x1 : Int64) : Mh S (FMO_entry S x1).2 := by
  rw [FMO_entry_e]
  repeat' split
  all_goals dsimp only
  all_goals first | with_reducible exact Mh.rf.i | exact Mh.tr (S' := sI S 49 4 0) Mh.rf (Mh_addEntry (wfM_I hw) _ _)
theorem Mh_row {S : hS} (hw : wfM S) (x1 x2 : Int32) (x3 : Int64) : Mh S (FMO_row S x1 x2 x3).2 := by
  rw [FMO_row_e]
  by_cases c1 : FMO_isEntry (sI S 49 4 0) x1 = 0
  · rw [if_pos c1]; exact Mh.rf.i
  rw [if_neg c1]
  repeat' split
  all_goals dsimp only
  all_goals first | with_reducible exact Mh.rf.i | exact Mh.tr (S' := sI S 49 4 0) Mh.rf (Mh_addRow (wfM_I hw) _ _ _ (enM (wfM_I hw) c1))
theorem Mh_close120 : ∀ (n : Nat) (S : hS) (x1 : Int32) (x2 : Int64) (x4 : Int32), wfM S ∧ bt x4 6 ∧ rg x1 40 → Mh S (LMO_close_120 n S x1 x2 x4).2
  | 0, S, x1, x2, x4, hJ => Mh.rf
  | n + 1, S, x1, x2, x4, hJ => by
    rw [LMO_close_120_s]
    by_cases c : (S.2 50 ((260 + x1).toNatClampNeg)) ≤ x4.toInt64
    · rw [if_pos c]; exact Mh.rf
    · rw [if_neg c]
      have h2 := hJ.2.1
      have h3 := hJ.2.2
      unfold bt at h2
      unfold rg at h3
      have t6 : ((6 * x1) + x4).toInt = 6 * x1.toInt + x4.toInt := ti_add (ti_mul tl_6 rfl (by omega) (by omega)) rfl (by omega) (by omega)
      by_cases d : (FMO_isItem S x1 x4) = 0
      · rw [if_pos d]; exact Mh.tr (Mh_hi 780 Mh.rf (by decide) (by omega) (by omega) (by omega)) (Mh_close120 n _ _ _ _ (vc_FMO_close_inv120_23 S x1 x2 x4 hJ c d))
      · rw [if_neg d]; exact Mh.tr (Mh_hi 780 Mh.rf (by decide) (by omega) (by omega) (by omega)) (Mh_close120 n _ _ _ _ (vc_FMO_close_inv120_27 S x1 x2 x4 hJ c d))
theorem Mh_close {S : hS} (hw : wfM S) (x1 : Int32) : Mh S (FMO_close S x1).2 := by
  rw [FMO_close_e]
  by_cases c2 : FMO_isEntry (sI S 49 4 0) x1 = 0
  · rw [if_pos c2]; exact Mh.rf.i
  rw [if_neg c2]
  by_cases c4 : 0 < S.2 50 ((140 + x1).toNatClampNeg)
  · rw [if_pos c4]; exact Mh.rf.i
  rw [if_neg c4]
  by_cases c7 : FMO_isLate (sI S 49 4 0) (S.2 50 ((100 + x1).toNatClampNeg)) = 0
  · rw [if_pos c7]
    dsimp only
    by_cases c16 : (LMO_close_51 300 (sI S 49 4 0) x1 0 0).1 = 0
    · rw [if_pos c16]
      have hx := enM (wfM_I hw) c2
      unfold rg at hx
      have h9 := Mh_close120 300 _ x1 (LMO_close_51 300 (sI S 49 4 0) x1 0 0).1 0 (vc_FMO_close_inv0120_30 S x1 hw c2 c4 c7 (LMO_close_51 300 (sI S 49 4 0) x1 0 0).1 (LMO_close_51 300 (sI S 49 4 0) x1 0 0).2 rfl c16)
      generalize LMO_close_120 300 _ _ _ _ = q at h9 ⊢
      exact Mh.tr (Mh_hi 140 Mh.rf (by decide) hx.1 (by omega) (by omega)) h9
    · rw [if_neg c16]; exact Mh.rf.i
  · rw [if_neg c7]; exact Mh.rf.i
theorem Mh_pay185 : ∀ (n : Nat) (S : hS) (x1 : Int32) (x2 x4 : Int64) (x6 x7 : Int32) (x8 : Int64) (x10 : Int32), wfM S ∧ bt x10 241 ∧ rg x7 40 → Mh S (LMO_payment_185 n S x1 x2 x4 x6 x7 x8 x10).2.2
  | 0, S, x1, x2, x4, x6, x7, x8, x10, hJ => Mh.rf
  | n + 1, S, x1, x2, x4, x6, x7, x8, x10, hJ => by
    rw [LMO_payment_185_s]
    by_cases c : (FMO_itemAt S x1 x10) < 0
    · rw [if_pos c]; exact Mh.rf
    rw [if_neg c]
    have r := (itM hJ.1 c).1
    have h7 := hJ.2.2
    unfold rg at r h7
    have q60 : ((FMO_itemAt S x1 x10) / 60).toInt = (FMO_itemAt S x1 x10).toInt / 60 := ti_div rfl (by decide) r.1 (by omega)
    have t4 : (1020 + (4 * x7)).toInt = 1020 + 4 * x7.toInt := ti_add (by decide) (ti_mul (by decide) rfl (by omega) (by omega)) (by omega) (by omega)
    have i1 : 100 ≤ (780 + (FMO_itemAt S x1 x10)).toNatClampNeg ∧ (780 + (FMO_itemAt S x1 x10)).toNatClampNeg < 1180 := hi_at2 (p := 780) (by decide) r.1 (by omega) (by omega)
    have i2 : 100 ≤ ((1020 + (4 * x7)) + ((FMO_itemAt S x1 x10) / 60)).toNatClampNeg ∧ ((1020 + (4 * x7)) + ((FMO_itemAt S x1 x10) / 60)).toNatClampNeg < 1180 := hi_at2 t4 (by omega) (by omega) (by omega)
    by_cases d : (S.2 50 ((780 + (FMO_itemAt S x1 x10)).toNatClampNeg)) ≤ x8
    · rw [if_pos d]
      by_cases f : (S.2 50 ((780 + (FMO_itemAt S x1 x10)).toNatClampNeg)) ≤ 0
      · rw [if_pos f]; exact Mh_pay185 n _ _ _ _ _ _ _ _ (vc_FMO_payment_inv185_32 S x1 x2 x4 x6 x7 x8 x10 hJ c d f)
      · rw [if_neg f]; exact Mh.tr ((Mh.rf.l (Or.inr i1)).l (Or.inr i2)) (Mh_pay185 n _ _ _ _ _ _ _ _ (vc_FMO_payment_inv185_38 S x1 x2 x4 x6 x7 x8 x10 hJ c d f))
    · rw [if_neg d]
      by_cases f : x8 ≤ 0
      · rw [if_pos f]; exact Mh_pay185 n _ _ _ _ _ _ _ _ (vc_FMO_payment_inv185_41 S x1 x2 x4 x6 x7 x8 x10 hJ c d f)
      · rw [if_neg f]; exact Mh.tr ((Mh.rf.l (Or.inr i1)).l (Or.inr i2)) (Mh_pay185 n _ _ _ _ _ _ _ _ (vc_FMO_payment_inv185_47 S x1 x2 x4 x6 x7 x8 x10 hJ c d f))
theorem Mh_payment {S : hS} (hw : wfM S) (x1 : Int32) (x2 x4 : Int64) (hh : ¬ FMO_isHousehold (sI S 49 4 0) x1 = 0) : Mh S (FMO_payment S x1 x2 x4).2 := by
  rw [FMO_payment_e]
  generalize hy : LMO_payment_8 300 (sI S 49 4 0) x1 x2 x4 0 = y
  have hE := Mh_addEntry (S := sI S 49 4 0) (wfM_I hw) x4 1
  generalize hq : FMO_addEntry (sI S 49 4 0) x4 1 = q at hE ⊢
  obtain ⟨v, S1⟩ := q
  dsimp only at hE ⊢
  by_cases c10 : FMO_isIn (sI S 49 4 0) x2 1 100000000 = 0
  · rw [if_pos c10]; exact Mh.rf.i
  rw [if_neg c10]
  by_cases c11 : FMO_isDay (sI S 49 4 0) x4 = 0
  · rw [if_pos c11]; exact Mh.rf.i
  rw [if_neg c11]
  by_cases c13 : FMO_isLate (sI S 49 4 0) x4 = 0
  · rw [if_pos c13]
    by_cases c15 : FMO_isAccount (sI S 49 4 0) y = 0
    · rw [if_pos c15]; exact Mh.rf.i
    rw [if_neg c15]
    by_cases c17 : S.2 50 1 = 40
    · rw [if_pos c17]; exact Mh.rf.i
    rw [if_neg c17]
    by_cases c19 : FMO_isHousehold (sI S 49 4 0) x1 = 0
    · exact absurd c19 hh
    · rw [if_neg c19]
      have hJ := vc_FMO_payment_inv0185_50 S x1 x2 x4 hw y hy c10 c11 c13 c15 c17 c19 v S1 hq
      have h9 := Mh_pay185 300 _ x1 x2 x4 y v x2 0 hJ
      dsimp only
      have e40 : (40 : Int64).toInt = 40 := by decide
      have hlt := ne_lt c17 (by rw [e40]; exact hw.2.1.2)
      rw [e40] at hlt
      have hp := payM (wfM_I hw) hlt hq (c := x2) (acM (wfM_I hw) c15) (hhM (wfM_I hw) c19)
      have hv := hJ.2.2
      have a1 := Mh_addRow hp.1.1 v y x2 hv
      have a2 := Mh_addRow hp.2.1.1 v x1 (-x2) hv
      unfold rg at hv
      exact Mh.tr (Mh.tr (Mh.tr (Mh.tr (S' := sI S 49 4 0) Mh.rf hE) a1) (Mh_hi 140 a2 (by decide) hv.1 (by omega) (by omega))) h9
  · rw [if_neg c13]; exact Mh.rf.i
theorem Mh_rev99 : ∀ (n : Nat) (S : hS) (x1 : Int32) (x2 : Int64) (x4 x5 : Int32), wfM S ∧ bt x5 6 ∧ rg x1 40 ∧ rg x4 40 ∧ ¬ x1 = x4 ∧ (S.2 50 (260 + x4).toNatClampNeg).toInt = x5.toInt ∧ x4.toInt < (S.2 50 1).toInt → Mh S (LMO_reverse_99 n S x1 x2 x4 x5).2
  | 0, S, x1, x2, x4, x5, hJ => Mh.rf
  | n + 1, S, x1, x2, x4, x5, hJ => by
    rw [LMO_reverse_99_s]
    by_cases c : (S.2 50 ((260 + x1).toNatClampNeg)) ≤ x5.toInt64
    · rw [if_pos c]; exact Mh.rf
    · rw [if_neg c]
      have a := Mh_addRow hJ.1 x4 ((S.2 50 (((300 + (6 * x1)) + x5).toNatClampNeg)).toInt32) (-(S.2 50 (((540 + (6 * x1)) + x5).toNatClampNeg))) hJ.2.2.2.1
      have h2 := hJ.2.1
      have h3 := hJ.2.2.1
      unfold bt at h2
      unfold rg at h3
      have t7 : (780 + (6 * x1)).toInt = 780 + 6 * x1.toInt := ti_add (by decide) (ti_mul tl_6 rfl (by omega) (by omega)) (by omega) (by omega)
      exact Mh.tr (Mh_hi _ a t7 h2.1 (by omega) (by omega)) (Mh_rev99 n _ _ _ _ _ (vc_FMO_reverse_inv99_22 S x1 x2 x4 x5 hJ c))
theorem Mh_reverse {S : hS} (hw : wfM S) (x1 : Int32) (x2 : Int64) : Mh S (FMO_reverse S x1 x2).2 := by
  rw [FMO_reverse_e]
  have hE := Mh_addEntry (S := sI S 49 4 0) (wfM_I hw) x2 2
  by_cases a1 : FMO_isEntry (sI S 49 4 0) x1 = 0
  · rw [if_pos a1]; exact Mh.rf.i
  rw [if_neg a1]
  by_cases a2 : S.2 50 ((140 + x1).toNatClampNeg) = 0
  · rw [if_pos a2]; exact Mh.rf.i
  rw [if_neg a2]
  by_cases a3 : 0 < S.2 50 ((220 + x1).toNatClampNeg)
  · rw [if_pos a3]; exact Mh.rf.i
  rw [if_neg a3]
  by_cases a4 : 0 < S.2 50 ((180 + x1).toNatClampNeg)
  · rw [if_pos a4]; exact Mh.rf.i
  rw [if_neg a4]
  by_cases a5 : FMO_isPaid (sI S 49 4 0) x1 = 0
  · rw [if_pos a5]
    by_cases a6 : FMO_isDay (sI S 49 4 0) x2 = 0
    · rw [if_pos a6]; exact Mh.rf.i
    rw [if_neg a6]
    by_cases a7 : S.2 50 1 = 40
    · rw [if_pos a7]; exact Mh.rf.i
    rw [if_neg a7]
    have hJ := vc_FMO_reverse_inv099_25 S x1 x2 hw a1 a2 a3 a4 a5 a6 a7 (FMO_addEntry (sI S 49 4 0) x2 2).1 (FMO_addEntry (sI S 49 4 0) x2 2).2 rfl
    generalize FMO_addEntry (sI S 49 4 0) x2 2 = q at hE hJ ⊢
    obtain ⟨v, S1⟩ := q
    dsimp only at hE hJ ⊢
    have h9 := Mh_rev99 300 S1 x1 x2 v 0 hJ
    generalize LMO_reverse_99 300 S1 x1 x2 v 0 = q at h9 ⊢
    have hv := hJ.2.2.2.1
    have hx := hJ.2.2.1
    unfold rg at hv hx
    try dsimp only
    exact Mh_hi 220 (Mh_hi 140 (Mh.tr (Mh.tr (S' := sI S 49 4 0) Mh.rf hE) h9) (by decide) hv.1 (by omega) (by omega)) (by decide) hx.1 (by omega) (by omega)
  · rw [if_neg a5]; exact Mh.rf.i
/-- payment leaves steps, hardship, plans, rates alone -/
def Pg (j : Nat) : Prop := j ≠ 1 ∧ j ≠ 4 ∧ (j < 100 ∨ (1180 ≤ j ∧ j < 1200))
theorem Mg_payment {S : hS} (hw : wfM S) (x1 : Int32) (x2 x4 : Int64) (j : Nat) (hj : Pg j) : (FMO_payment S x1 x2 x4).2.2 50 j = S.2 50 j := by
  unfold Pg at hj
  by_cases hh : FMO_isHousehold (sI S 49 4 0) x1 = 0
  · have hb := hw.2.2.2.1
    have e32 := t32 hb.1 hb.2 (by omega)
    have o := offI (c := 1200) (w := (S.2 50 4).toInt32) (p := 1200) (by decide) (by rw [e32]; omega) (by rw [e32]; omega) (by omega) (by omega)
    rw [FMO_payment_e]
    dsimp only
    generalize LMO_payment_8 300 (sI S 49 4 0) x1 x2 x4 0 = y
    rw [if_pos hh]
    repeat' split
    all_goals dsimp only
    all_goals first | rfl | (rw [sL_2, if_neg (by omega), sL_2, if_neg (by omega)]; rfl)
  · exact Mh_payment hw x1 x2 x4 hh j ⟨hj.1, by omega⟩
/-- places that a call may write -/
def Mn (P : Nat → Prop) (S S' : hS) : Prop := ∀ j, ¬ P j → S'.2 50 j = S.2 50 j
theorem Mn.rf {P : Nat → Prop} {S : hS} : Mn P S S := fun _ _ => rfl
theorem Mn.i {P : Nat → Prop} {S S' : hS} {k j : Nat} {x : Int32} (h : Mn P S S') : Mn P S (sI S' k j x) := h
theorem Mn.l {P : Nat → Prop} {S S' : hS} {j : Nat} {v : Int64} (h : Mn P S S') (hj : P j) : Mn P S (sL S' 50 j v) := fun i hi => by
  rw [sL_2, if_neg (fun z => hi (by rw [z.2]; exact hj))]
  exact h i hi
theorem Mn_at {P : Nat → Prop} {S S' : hS} {c w : Int32} {v : Int64} (p : Int) (h : Mn P S S') (hc : c.toInt = p) (h0 : 0 ≤ w.toInt) (h1 : w.toInt < 10) (hp : 0 ≤ p ∧ p ≤ 1300) (hP : ∀ j : Nat, p ≤ (j : Int) → (j : Int) < p + 10 → P j) : Mn P S (sL S' 50 (c + w).toNatClampNeg v) := h.l (by
  rw [offI hc h0 (by omega) (by omega) (by omega)]
  exact hP _ (by omega) (by omega))
theorem Mn_dun {S : hS} (hw : wfM S) (x1 : Int32) (x2 : Int64) : Mn (fun j => 20 ≤ j ∧ j < 40) S (FMO_dun S x1 x2).2 := by
  rw [FMO_dun_e]
  by_cases c : FMO_isHousehold (sI S 49 4 0) x1 = 0
  · rw [if_pos c]; exact Mn.rf.i
  rw [if_neg c]
  have r := hhM (wfM_I hw) c
  unfold rg at r
  repeat' split
  all_goals dsimp only
  all_goals first | with_reducible exact Mn.rf.i | exact Mn_at 20 Mn.rf.i (by decide) r.1 (by omega) (by omega) (fun j _ _ => by omega) | exact Mn_at 30 (Mn_at 20 Mn.rf.i (by decide) r.1 (by omega) (by omega) (fun j _ _ => by omega)) (by decide) r.1 (by omega) (by omega) (fun j _ _ => by omega)
theorem Mn_hardship {S : hS} (hw : wfM S) (x1 : Int32) (x2 x4 : Int64) : Mn (fun j => 40 ≤ j ∧ j < 70) S (FMO_hardship S x1 x2 x4).2 := by
  rw [FMO_hardship_e]
  by_cases c : FMO_isHousehold (sI S 49 4 0) x1 = 0
  · rw [if_pos c]; exact Mn.rf.i
  rw [if_neg c]
  have r := hhM (wfM_I hw) c
  unfold rg at r
  split
  · exact Mn_at 60 (Mn_at 50 (Mn_at 40 Mn.rf.i (by decide) r.1 (by omega) (by omega) (fun j _ _ => by omega)) (by decide) r.1 (by omega) (by omega) (fun j _ _ => by omega)) (by decide) r.1 (by omega) (by omega) (fun j _ _ => by omega)
  · exact Mn.rf.i
theorem Mn_instal {S : hS} (hw : wfM S) (x1 x2 : Int32) : Mn (fun j => j = 3 ∨ (1180 ≤ j ∧ j < 1200)) S (FMO_instal S x1 x2).2 := by
  rw [FMO_instal_e]
  by_cases c : S.2 50 3 = 10
  · repeat' split
    all_goals dsimp only
    all_goals first | with_reducible exact Mn.rf.i | contradiction
  have hb := hw.2.2.1
  have e32 := t32 hb.1 hb.2 (by omega)
  have hlt := ne_lt c (by rw [tq_10]; exact hb.2)
  rw [tq_10] at hlt
  repeat' split
  all_goals dsimp only
  all_goals first | with_reducible exact Mn.rf.i | exact (Mn_at 1190 (Mn_at 1180 Mn.rf.i (by decide) (by rw [e32]; omega) (by rw [e32]; omega) (by omega) (fun j _ _ => by omega)) (by decide) (by rw [e32]; omega) (by rw [e32]; omega) (by omega) (fun j _ _ => by omega)).l (Or.inl rfl)
theorem Mn_rate {S : hS} (x1 x3 : Int64) : Mn (fun j => j = 5 ∨ j = 6) S (FMO_rate S x1 x3).2 := by
  rw [FMO_rate_e]
  repeat' split
  all_goals dsimp only
  all_goals first | with_reducible exact Mn.rf.i | exact ((Mn.rf.i).l (Or.inl rfl)).l (Or.inr rfl)
theorem Mn_move {S : hS} (hw : wfM S) (x1 x2 : Int32) (x3 : Int64) : Mn (fun j => 70 ≤ j ∧ j < 90) S (FMO_move S x1 x2 x3).2 := by
  rw [FMO_move_e]
  by_cases c : FMO_isHousehold (sI S 49 4 0) x1 = 0
  · rw [if_pos c]; exact Mn.rf.i
  rw [if_neg c]
  by_cases d : FMO_isHousehold (sI S 49 4 0) x2 = 0
  · rw [if_pos d]; exact Mn.rf.i
  rw [if_neg d]
  have r1 := hhM (wfM_I hw) c
  have r2 := hhM (wfM_I hw) d
  unfold rg at r1 r2
  repeat' split
  all_goals dsimp only
  all_goals first | with_reducible exact Mn.rf.i | exact Mn_at 80 (Mn_at 70 Mn.rf.i (by decide) r1.1 (by omega) (by omega) (fun j _ _ => by omega)) (by decide) r2.1 (by omega) (by omega) (fun j _ _ => by omega)
theorem Mn_closeMonth {S : hS} (x1 : Int32) : Mn (fun j => j = 2) S (FMO_closeMonth S x1).2 := by
  rw [FMO_closeMonth_e]
  repeat' split
  all_goals dsimp only
  all_goals first | with_reducible exact Mn.rf.i | exact (Mn.rf.i).l rfl
theorem Mn_account {S : hS} (hw : wfM S) (x1 : Int32) : Mn (fun j => j = 0 ∨ (10 ≤ j ∧ j < 20)) S (FMO_account S x1).2 := by
  rw [FMO_account_e]
  have hb := hw.1
  have e32 := t32 hb.1 hb.2 (by omega)
  repeat' split
  all_goals dsimp only
  all_goals first | with_reducible exact Mn.rf.i | exact (Mn_at 10 Mn.rf.i (by decide) (by rw [e32]; omega) (by rw [e32]; omega) (by omega) (fun j _ _ => by omega)).l (Or.inl rfl)
def Pq (j : Nat) : Prop := 1020 ≤ j ∧ j < 1180
def Mq (S S' : hS) : Prop := ∀ j, Pq j → S'.2 50 j = S.2 50 j
theorem Mq.rf {S : hS} : Mq S S := fun _ _ => rfl
theorem Mq.tr {S S' S'' : hS} (h : Mq S S') (h' : Mq S' S'') : Mq S S'' := fun j hj => (h' j hj).trans (h j hj)
theorem Mq.i {S S' : hS} {k j : Nat} {x : Int32} (h : Mq S S') : Mq S (sI S' k j x) := h
theorem Mq.l {S S' : hS} {j : Nat} {v : Int64} (h : Mq S S') (hj : j < 1020) : Mq S (sL S' 50 j v) := fun i hi => by
  unfold Pq at hi
  rw [sL_2, if_neg (by omega)]
  exact h i hi
theorem Mq_hi {S S' : hS} {c w : Int32} {v : Int64} (p : Int) (h : Mq S S') (hc : c.toInt = p) (h0 : 0 ≤ w.toInt) (h1 : w.toInt ≤ 1000) (hp : 100 ≤ p ∧ p + w.toInt < 1020) : Mq S (sL S' 50 (c + w).toNatClampNeg v) := h.l (by
  have e : (c + w).toInt = p + w.toInt := ti_add hc rfl (by omega) (by omega)
  have e2 : (c + w).toNatClampNeg = (c + w).toInt.toNat := rfl
  omega)
theorem Mq_addEntry {S : hS} (hw : wfM S) (x1 : Int64) (x3 : Int32) : Mq S (FMO_addEntry S x1 x3).2 := by
  rw [FMO_addEntry_e]
  have hb := hw.2.1
  have e32 := t32 hb.1 hb.2 (by omega)
  exact ((Mq_hi 180 (Mq_hi 100 Mq.rf (by decide) (by rw [e32]; omega) (by rw [e32]; omega) (by omega)) (by decide) (by rw [e32]; omega) (by rw [e32]; omega) (by omega)).l (by omega))
theorem Mq_addRow {S : hS} (hw : wfM S) (x1 x2 : Int32) (x3 : Int64) (hx : rg x1 40) : Mq S (FMO_addRow S x1 x2 x3) := by
  rw [FMO_addRow_e]
  have r := wfM_r hw hx
  have t : ((S.2 50 (260 + x1).toNatClampNeg).toInt32).toInt = (S.2 50 (260 + x1).toNatClampNeg).toInt := ti_32 rfl (by omega) (by omega)
  unfold rg at hx
  have t6 : ((6 * x1) + ((S.2 50 ((260 + x1).toNatClampNeg)).toInt32)).toInt = 6 * x1.toInt + (S.2 50 (260 + x1).toNatClampNeg).toInt := ti_add (ti_mul tl_6 rfl (by omega) (by omega)) t (by omega) (by omega)
  exact Mq_hi 260 (Mq_hi 540 (Mq_hi 300 Mq.rf (by decide) (by omega) (by omega) (by omega)) (by decide) (by omega) (by omega) (by omega)) (by decide) hx.1 (by omega) (by omega)
theorem Mq_entry {S : hS} (hw : wfM S) (x1 : Int64) : Mq S (FMO_entry S x1).2 := by
  rw [FMO_entry_e]
  repeat' split
  all_goals dsimp only
  all_goals first | with_reducible exact Mq.rf.i | exact Mq.tr (S' := sI S 49 4 0) Mq.rf (Mq_addEntry (wfM_I hw) _ _)
theorem Mq_row {S : hS} (hw : wfM S) (x1 x2 : Int32) (x3 : Int64) : Mq S (FMO_row S x1 x2 x3).2 := by
  rw [FMO_row_e]
  by_cases c1 : FMO_isEntry (sI S 49 4 0) x1 = 0
  · rw [if_pos c1]; exact Mq.rf.i
  rw [if_neg c1]
  repeat' split
  all_goals dsimp only
  all_goals first | with_reducible exact Mq.rf.i | exact Mq.tr (S' := sI S 49 4 0) Mq.rf (Mq_addRow (wfM_I hw) _ _ _ (enM (wfM_I hw) c1))
theorem Mq_close120 : ∀ (n : Nat) (S : hS) (x1 : Int32) (x2 : Int64) (x4 : Int32), wfM S ∧ bt x4 6 ∧ rg x1 40 → Mq S (LMO_close_120 n S x1 x2 x4).2
  | 0, S, x1, x2, x4, hJ => Mq.rf
  | n + 1, S, x1, x2, x4, hJ => by
    rw [LMO_close_120_s]
    by_cases c : (S.2 50 ((260 + x1).toNatClampNeg)) ≤ x4.toInt64
    · rw [if_pos c]; exact Mq.rf
    · rw [if_neg c]
      have rr := wfM_r hJ.1 hJ.2.2
      have c' := c
      rw [Int64.le_iff_toInt_le, l32] at c'
      have h2 := hJ.2.1
      have h3 := hJ.2.2
      unfold bt at h2
      unfold rg at h3
      have t6 : ((6 * x1) + x4).toInt = 6 * x1.toInt + x4.toInt := ti_add (ti_mul tl_6 rfl (by omega) (by omega)) rfl (by omega) (by omega)
      by_cases d : (FMO_isItem S x1 x4) = 0
      · rw [if_pos d]; exact Mq.tr (Mq_hi 780 Mq.rf (by decide) (by omega) (by omega) (by omega)) (Mq_close120 n _ _ _ _ (vc_FMO_close_inv120_23 S x1 x2 x4 hJ c d))
      · rw [if_neg d]; exact Mq.tr (Mq_hi 780 Mq.rf (by decide) (by omega) (by omega) (by omega)) (Mq_close120 n _ _ _ _ (vc_FMO_close_inv120_27 S x1 x2 x4 hJ c d))
theorem Mq_close {S : hS} (hw : wfM S) (x1 : Int32) : Mq S (FMO_close S x1).2 := by
  rw [FMO_close_e]
  by_cases c2 : FMO_isEntry (sI S 49 4 0) x1 = 0
  · rw [if_pos c2]; exact Mq.rf.i
  rw [if_neg c2]
  by_cases c4 : 0 < S.2 50 ((140 + x1).toNatClampNeg)
  · rw [if_pos c4]; exact Mq.rf.i
  rw [if_neg c4]
  by_cases c7 : FMO_isLate (sI S 49 4 0) (S.2 50 ((100 + x1).toNatClampNeg)) = 0
  · rw [if_pos c7]
    dsimp only
    by_cases c16 : (LMO_close_51 300 (sI S 49 4 0) x1 0 0).1 = 0
    · rw [if_pos c16]
      have hx := enM (wfM_I hw) c2
      unfold rg at hx
      have h9 := Mq_close120 300 _ x1 (LMO_close_51 300 (sI S 49 4 0) x1 0 0).1 0 (vc_FMO_close_inv0120_30 S x1 hw c2 c4 c7 (LMO_close_51 300 (sI S 49 4 0) x1 0 0).1 (LMO_close_51 300 (sI S 49 4 0) x1 0 0).2 rfl c16)
      generalize LMO_close_120 300 _ _ _ _ = q at h9 ⊢
      exact Mq.tr (Mq_hi 140 Mq.rf (by decide) hx.1 (by omega) (by omega)) h9
    · rw [if_neg c16]; exact Mq.rf.i
  · rw [if_neg c7]; exact Mq.rf.i
theorem Mq_rev99 : ∀ (n : Nat) (S : hS) (x1 : Int32) (x2 : Int64) (x4 x5 : Int32), wfM S ∧ bt x5 6 ∧ rg x1 40 ∧ rg x4 40 ∧ ¬ x1 = x4 ∧ (S.2 50 (260 + x4).toNatClampNeg).toInt = x5.toInt ∧ x4.toInt < (S.2 50 1).toInt → Mq S (LMO_reverse_99 n S x1 x2 x4 x5).2
  | 0, S, x1, x2, x4, x5, hJ => Mq.rf
  | n + 1, S, x1, x2, x4, x5, hJ => by
    rw [LMO_reverse_99_s]
    by_cases c : (S.2 50 ((260 + x1).toNatClampNeg)) ≤ x5.toInt64
    · rw [if_pos c]; exact Mq.rf
    · rw [if_neg c]
      have rr := wfM_r hJ.1 hJ.2.2.1
      have c' := c
      rw [Int64.le_iff_toInt_le, l32] at c'
      have a := Mq_addRow hJ.1 x4 ((S.2 50 (((300 + (6 * x1)) + x5).toNatClampNeg)).toInt32) (-(S.2 50 (((540 + (6 * x1)) + x5).toNatClampNeg))) hJ.2.2.2.1
      have h2 := hJ.2.1
      have h3 := hJ.2.2.1
      unfold bt at h2
      unfold rg at h3
      have t7 : (780 + (6 * x1)).toInt = 780 + 6 * x1.toInt := ti_add (by decide) (ti_mul tl_6 rfl (by omega) (by omega)) (by omega) (by omega)
      exact Mq.tr (Mq_hi _ a t7 h2.1 (by omega) (by omega)) (Mq_rev99 n _ _ _ _ _ (vc_FMO_reverse_inv99_22 S x1 x2 x4 x5 hJ c))
theorem Mq_reverse {S : hS} (hw : wfM S) (x1 : Int32) (x2 : Int64) : Mq S (FMO_reverse S x1 x2).2 := by
  rw [FMO_reverse_e]
  have hE := Mq_addEntry (S := sI S 49 4 0) (wfM_I hw) x2 2
  by_cases a1 : FMO_isEntry (sI S 49 4 0) x1 = 0
  · rw [if_pos a1]; exact Mq.rf.i
  rw [if_neg a1]
  by_cases a2 : S.2 50 ((140 + x1).toNatClampNeg) = 0
  · rw [if_pos a2]; exact Mq.rf.i
  rw [if_neg a2]
  by_cases a3 : 0 < S.2 50 ((220 + x1).toNatClampNeg)
  · rw [if_pos a3]; exact Mq.rf.i
  rw [if_neg a3]
  by_cases a4 : 0 < S.2 50 ((180 + x1).toNatClampNeg)
  · rw [if_pos a4]; exact Mq.rf.i
  rw [if_neg a4]
  by_cases a5 : FMO_isPaid (sI S 49 4 0) x1 = 0
  · rw [if_pos a5]
    by_cases a6 : FMO_isDay (sI S 49 4 0) x2 = 0
    · rw [if_pos a6]; exact Mq.rf.i
    rw [if_neg a6]
    by_cases a7 : S.2 50 1 = 40
    · rw [if_pos a7]; exact Mq.rf.i
    rw [if_neg a7]
    have hJ := vc_FMO_reverse_inv099_25 S x1 x2 hw a1 a2 a3 a4 a5 a6 a7 (FMO_addEntry (sI S 49 4 0) x2 2).1 (FMO_addEntry (sI S 49 4 0) x2 2).2 rfl
    generalize FMO_addEntry (sI S 49 4 0) x2 2 = q at hE hJ ⊢
    obtain ⟨v, S1⟩ := q
    dsimp only at hE hJ ⊢
    have h9 := Mq_rev99 300 S1 x1 x2 v 0 hJ
    generalize LMO_reverse_99 300 S1 x1 x2 v 0 = q at h9 ⊢
    have hv := hJ.2.2.2.1
    have hx := hJ.2.2.1
    unfold rg at hv hx
    try dsimp only
    exact Mq_hi 220 (Mq_hi 140 (Mq.tr (Mq.tr (S' := sI S 49 4 0) Mq.rf hE) h9) (by decide) hv.1 (by omega) (by omega)) (by decide) hx.1 (by omega) (by omega)
  · rw [if_neg a5]; exact Mq.rf.i

