/-! gifts: bits -/
def bW (W : Int64) (i : Nat) : Bool := W.toBitVec.getLsbD i
theorem sh60 : ∀ i : Fin 60, ((nI i.1).toInt64 &&& 63) = Int64.ofNat i.1 := by decide +kernel
theorem sm60 : ∀ i : Fin 60, ((Int64.ofNat i.1).toBitVec.smod 64).toNat = i.1 := by decide +kernel
theorem one60 : ∀ k i : Fin 60, ((1 : Int64) <<< (Int64.ofNat k.1)).toBitVec.getLsbD i.1 = decide (i.1 = k.1) := by decide +kernel
theorem and1 (Z : BitVec 64) : (Z &&& 1#64) = 1#64 ↔ Z.getLsbD 0 = true := by
  constructor
  · intro h
    have e := congrArg (fun v => BitVec.getLsbD v 0) h
    simpa using e
  · intro h
    refine BitVec.eq_of_getLsbD_eq (fun i hi => ?_)
    rw [BitVec.getLsbD_and]
    by_cases c : i = 0
    · rw [c, h, Bool.true_and]
    · have z : (1#64).getLsbD i = false := by simp [BitVec.getLsbD_one, c]
      rw [z, Bool.and_false]
theorem gaveW (W : Int64) {i : Nat} (h : i < 60) : ((W >>> ((nI i).toInt64 &&& 63)) &&& 1 = 1) ↔ bW W i = true := by
  have e := sh60 ⟨i, h⟩
  dsimp only at e
  rw [e, ← Int64.toBitVec_inj, Int64.toBitVec_and, Int64.toBitVec_shiftRight]
  refine (and1 _).trans ?_
  unfold bW
  have e2 := sm60 ⟨i, h⟩
  dsimp only at e2
  rw [BitVec.sshiftRight', e2, BitVec.getLsbD_sshiftRight]
  simp
  omega
theorem setW (W : Int64) {k i : Nat} (hk : k < 60) (hi : i < 60) : bW (W ||| (1 <<< ((nI k).toInt64 &&& 63))) i = (bW W i || decide (i = k)) := by
  unfold bW
  have e := sh60 ⟨k, hk⟩
  dsimp only at e
  rw [e, Int64.toBitVec_or, BitVec.getLsbD_or, one60 ⟨k, hk⟩ ⟨i, hi⟩]
theorem nI_d60 {s : Nat} (h : s < 240) : nI s / 60 = nI (s / 60) := by
  apply Int32.toInt_inj.mp
  rw [ti_div (nI_toInt (by omega)) tl_60 (by omega) (by omega), nI_toInt (by omega)]
  omega
theorem nI_m60 {s : Nat} (h : s < 240) : nI s - nI s / 60 * 60 = nI (s % 60) := by
  apply Int32.toInt_inj.mp
  rw [nI_d60 h, ti_sub (nI_toInt (by omega)) (ti_mul (nI_toInt (by omega)) tl_60 (by omega) (by omega)) (by omega) (by omega), nI_toInt (by omega)]
  omega
theorem ix20 {e s : Nat} (he : e < 40) (hs : s < 240) : ((1020 + (4 * nI e)) + nI s / 60).toNatClampNeg = 1020 + (4 * e + s / 60) := by
  have e4 : 4 * nI e = nI (4 * e) := by
    apply Int32.toInt_inj.mp
    rw [ti_mul tl_4 (nI_toInt (by omega)) (by omega) (by omega), nI_toInt (by omega)]
    omega
  rw [nI_d60 hs, e4, show (1020 : Int32) = nI 1020 by decide, nI_add, nI_add, nI_clamp (by omega)]
  omega
theorem gave_M {S : hS} {e s : Nat} (he : e < 40) (hs : s < 240) : FMO_gave S (nI e) (nI s) = 0 ↔ ¬ bW (S.2 50 (1020 + (4 * e + s / 60))) (s % 60) = true := by
  rw [FMO_gave_e, ix20 he hs, nI_m60 hs]
  have g := gaveW (S.2 50 (1020 + (4 * e + s / 60))) (i := s % 60) (by omega)
  by_cases c : bW (S.2 50 (1020 + (4 * e + s / 60))) (s % 60) = true
  · rw [if_pos (g.mpr c)]
    exact ⟨fun z => absurd z (by decide), fun z => absurd c z⟩
  · rw [if_neg (fun z => c (g.mp z))]
    exact ⟨fun _ => c, fun _ => rfl⟩
/-! which items a payment gives to -/
def giv : List Nat → Int64 → (Nat → Int64) → List Nat
  | [], _, _ => []
  | s :: t, r, d => if 0 < r ∧ 0 < d s then s :: giv t (r - mnL r (d s)) (fun j => if j = s then d s - mnL r (d s) else d j) else giv t r d
theorem giv_c (s : Nat) (t : List Nat) (r : Int64) (d : Nat → Int64) : giv (s :: t) r d = if 0 < r ∧ 0 < d s then s :: giv t (r - mnL r (d s)) (fun j => if j = s then d s - mnL r (d s) else d j) else giv t r d := rfl
theorem payL_c (s : Nat) (t : List Nat) (r : Int64) (d : Nat → Int64) : payL (s :: t) r d = if 0 < r ∧ 0 < d s then payL t (r - mnL r (d s)) (fun j => if j = s then d s - mnL r (d s) else d j) else payL t r d := rfl
theorem giv_0 : ∀ (l : List Nat) (r : Int64) (d : Nat → Int64), ¬ 0 < r → giv l r d = []
  | [], _, _, _ => rfl
  | s :: t, r, d, h => by
    rw [giv_c, if_neg (fun z => h z.1)]
    exact giv_0 t r d h
theorem giv_sub : ∀ (l : List Nat) (r : Int64) (d : Nat → Int64), (giv l r d).Sublist l
  | [], _, _ => List.Sublist.refl _
  | s :: t, r, d => by
    rw [giv_c]
    split
    · exact List.Sublist.cons₂ s (giv_sub t _ _)
    · exact List.Sublist.cons s (giv_sub t r d)
theorem giv_cg : ∀ (l : List Nat) (r : Int64) (d d' : Nat → Int64), (∀ t, t ∈ l → d t = d' t) → giv l r d = giv l r d'
  | [], _, _, _, _ => rfl
  | s :: t, r, d, d', h => by
    have hs := h s List.mem_cons_self
    rw [giv_c, giv_c, ← hs]
    by_cases c : 0 < r ∧ 0 < d s
    · rw [if_pos c, if_pos c]
      congr 1
      refine giv_cg t _ _ _ (fun x hx => ?_)
      by_cases e : x = s
      · rw [if_pos e, if_pos e]
      · rw [if_neg e, if_neg e]
        exact h x (List.mem_cons_of_mem _ hx)
    · rw [if_neg c, if_neg c]
      exact giv_cg t r d d' (fun x hx => h x (List.mem_cons_of_mem _ hx))
/-! counts -/
theorem cnt_add {p q r : Nat → Bool} : ∀ (l : List Nat), (∀ x, x ∈ l → p x = true → r x = true) → (∀ x, x ∈ l → q x = true → r x = true) → (∀ x, x ∈ l → ¬ (p x = true ∧ q x = true)) → l.countP p + l.countP q ≤ l.countP r
  | [], _, _, _ => Nat.le_refl _
  | a :: t, h1, h2, h3 => by
    have ih := cnt_add t (fun x hx => h1 x (List.mem_cons_of_mem _ hx)) (fun x hx => h2 x (List.mem_cons_of_mem _ hx)) (fun x hx => h3 x (List.mem_cons_of_mem _ hx))
    have a1 := h1 a List.mem_cons_self
    have a2 := h2 a List.mem_cons_self
    have a3 := h3 a List.mem_cons_self
    rw [List.countP_cons, List.countP_cons, List.countP_cons]
    by_cases c1 : p a = true
    · rw [if_pos c1, if_pos (a1 c1), if_neg (fun z => a3 ⟨c1, z⟩)]
      omega
    · rw [if_neg c1]
      by_cases c2 : q a = true
      · rw [if_pos c2, if_pos (a2 c2)]
        omega
      · rw [if_neg c2]
        omega
def zN (u : Nat → Bool) (d : Nat → Int64) : Nat := (List.range 240).countP (fun s => u s && decide (d s = 0))
theorem zN_le {u u' : Nat → Bool} {d d' : Nat → Int64} (h : ∀ s, s < 240 → u s = true → d s = 0 → u' s = true ∧ d' s = 0) : zN u d ≤ zN u' d' := by
  refine List.countP_mono_left (fun s hs z => ?_)
  rw [Bool.and_eq_true, decide_eq_true_iff] at z
  have w := h s (List.mem_range.mp hs) z.1 z.2
  rw [Bool.and_eq_true, decide_eq_true_iff]
  exact w
theorem zN_lt {u : Nat → Bool} {d d' : Nat → Int64} {s0 : Nat} (hs0 : s0 < 240) (u0 : u s0 = true) (h0 : ¬ d s0 = 0) (h1 : d' s0 = 0) (h : ∀ s, s < 240 → d s = 0 → d' s = 0) : zN u d + 1 ≤ zN u d' := by
  have c : 0 < (List.range 240).countP (fun s => decide (s = s0)) := List.countP_pos_iff.mpr ⟨s0, List.mem_range.mpr hs0, decide_eq_true rfl⟩
  have k := cnt_add (p := fun s => u s && decide (d s = 0)) (q := fun s => decide (s = s0)) (r := fun s => u s && decide (d' s = 0)) (List.range 240) (fun x hx z => by
    rw [Bool.and_eq_true, decide_eq_true_iff] at z ⊢
    exact ⟨z.1, h x (List.mem_range.mp hx) z.2⟩) (fun x hx z => by
    have e := of_decide_eq_true z
    rw [Bool.and_eq_true, decide_eq_true_iff, e]
    exact ⟨u0, h1⟩) (fun x hx z => by
    have e := of_decide_eq_true z.2
    have y := z.1
    rw [Bool.and_eq_true, decide_eq_true_iff, e] at y
    exact h0 y.2)
  unfold zN
  omega
theorem cnt_pay {u : Nat → Bool} : ∀ (l : List Nat) (r : Int64) (d : Nat → Int64), (∀ s, s ∈ l → s < 240 ∧ u s = true) → zN u d + (giv l r d).length ≤ zN u (payL l r d) + (if 0 < r then 1 else 0)
  | [], r, d, _ => Nat.le_add_right _ _
  | s :: t, r, d, h => by
    have hs := h s List.mem_cons_self
    have ht := fun x (hx : x ∈ t) => h x (List.mem_cons_of_mem _ hx)
    rw [giv_c, payL_c]
    by_cases c : 0 < r ∧ 0 < d s
    · rw [if_pos c, if_pos c, if_pos c.1, List.length_cons]
      have d0 : ¬ d s = 0 := fun z => by
        have c2 := c.2
        rw [z, Int64.lt_iff_toInt_lt] at c2
        omega
      by_cases e : d s < r
      · have m : mnL r (d s) = d s := if_pos e
        rw [m]
        have ih := cnt_pay t (r - d s) (fun j => if j = s then d s - d s else d j) ht
        have lt := zN_lt (u := u) (d := d) (d' := fun j => if j = s then d s - d s else d j) hs.1 hs.2 d0 (by rw [if_pos rfl, Int64.sub_self]) (fun x _ z => by
          by_cases w : x = s
          · rw [if_pos w, Int64.sub_self]
          · rw [if_neg w]
            exact z)
        have le1 : (if 0 < r - d s then 1 else 0) ≤ 1 := by
          split
          · exact Nat.le_refl _
          · exact Nat.zero_le _
        omega
      · have m : mnL r (d s) = r := if_neg e
        rw [m, Int64.sub_self, giv_0 t 0 _ (by decide), payL_0 t 0 _ (by decide)]
        have le := zN_le (u := u) (u' := u) (d := d) (d' := fun j => if j = s then d s - r else d j) (fun x _ a z => ⟨a, by
          by_cases w : x = s
          · rw [w] at z
            exact absurd z d0
          · rw [if_neg w]
            exact z⟩)
        rw [List.length_nil]
        omega
    · rw [if_neg c, if_neg c]
      exact cnt_pay t r d ht
def pN (C : Nat → Nat → Int32) (n : Nat) : Nat := (List.range 40).countP (fun e => decide (e < n) && decide (C 12 e = 2))
theorem pN_le {C C' : Nat → Nat → Int32} {n n' : Nat} (h : ∀ e, e < n → C 12 e = 2 → C' 12 e = 2) (nn : n ≤ n') : pN C n ≤ pN C' n' := by
  refine List.countP_mono_left (fun e _ z => ?_)
  rw [Bool.and_eq_true, decide_eq_true_iff, decide_eq_true_iff] at z ⊢
  exact ⟨by omega, h e z.1 z.2⟩
theorem pN_lt {C C' : Nat → Nat → Int32} {n : Nat} (hn : n < 40) (h : ∀ e, e < n → C 12 e = 2 → C' 12 e = 2) (h2 : C' 12 n = 2) : pN C n + 1 ≤ pN C' (n + 1) := by
  have c : 0 < (List.range 40).countP (fun s => decide (s = n)) := List.countP_pos_iff.mpr ⟨n, List.mem_range.mpr hn, decide_eq_true rfl⟩
  have k := cnt_add (p := fun e => decide (e < n) && decide (C 12 e = 2)) (q := fun s => decide (s = n)) (r := fun e => decide (e < n + 1) && decide (C' 12 e = 2)) (List.range 40) (fun x _ z => by
    rw [Bool.and_eq_true, decide_eq_true_iff, decide_eq_true_iff] at z ⊢
    exact ⟨by omega, h x z.1 z.2⟩) (fun x _ z => by
    have e := of_decide_eq_true z
    rw [Bool.and_eq_true, decide_eq_true_iff, decide_eq_true_iff, e]
    exact ⟨by omega, h2⟩) (fun x _ z => by
    have e := of_decide_eq_true z.2
    have y := z.1
    rw [Bool.and_eq_true, decide_eq_true_iff, e] at y
    omega)
  unfold pN
  omega
theorem zN_240 (u : Nat → Bool) (d : Nat → Int64) : zN u d ≤ 240 := by
  have := List.countP_le_length (p := fun s => u s && decide (d s = 0)) (l := List.range 240)
  rw [List.length_range] at this
  exact this
theorem pN_40 (C : Nat → Nat → Int32) (n : Nat) : pN C n ≤ 40 := by
  have := List.countP_le_length (p := fun e => decide (e < n) && decide (C 12 e = 2)) (l := List.range 40)
  rw [List.length_range] at this
  exact this
/-! the gifts' relation -/
def usC (C : Nat → Nat → Int32) (n s : Nat) : Bool := decide (s / 6 < n ∧ ((s % 6 : Nat) : Int) < (C 13 (s / 6)).toInt)
def gsC (C : Nat → Nat → Int32) (g : Nat) : Nat := (C 19 g).toNatClampNeg
def Xg (C : Nat → Nat → Int32) (L : Nat → Nat → Int64) (M : Nat → Int64) : Prop := ∃ n gc : Nat, (C 10 0 = nI n ∧ n ≤ 40) ∧ C 10 8 = nI gc ∧ (∀ g : Nat, g < gc → (∃ e : Nat, e < n ∧ C 18 g = nI e) ∧ ∃ s : Nat, s < 6 * n ∧ C 19 g = nI s) ∧ (∀ g h : Nat, g < h → h < gc → C 18 g = C 18 h → keyC C (gsC C g) < keyC C (gsC C h)) ∧ (∀ e s : Nat, e < 40 → s < 240 → (bW (M (1020 + (4 * e + s / 60))) (s % 60) = true ↔ ∃ g : Nat, g < gc ∧ C 18 g = nI e ∧ C 19 g = nI s)) ∧ gc ≤ zN (usC C n) (L 17) + pN C n
theorem Xp_apply {X : (Nat → Nat → Int32) → (Nat → Nat → Int64) → (Nat → Int64) → Prop} (hX : Xp X) {C C' : Nat → Nat → Int32} {L L' : Nat → Nat → Int64} {M M' : Nat → Int64} (hC : ∀ a j, okI a j → C' a j = C a j) (hL : ∀ a j, okL a j → L' a j = L a j) (hM : ∀ j, j < 1220 → M' j = M j) (h : X C L M) : X C' L' M' := hX C C' L L' M M' hC hL hM h
theorem Xg_mono {C C' : Nat → Nat → Int32} {L L' : Nat → Nat → Int64} {M M' : Nat → Int64} {n n' : Nat} (h : Xg C L M) (hn : C 10 0 = nI n) (n40 : n ≤ 40) (hn' : C' 10 0 = nI n') (nn : n ≤ n') (n40' : n' ≤ 40) (h8 : C' 10 8 = C 10 8) (h18 : ∀ g, g < 280 → C' 18 g = C 18 g) (h19 : ∀ g, g < 280 → C' 19 g = C 19 g) (h11 : ∀ e, e < n → C' 11 e = C 11 e) (hz : ∀ s, s < 240 → usC C n s = true → L 17 s = 0 → usC C' n' s = true ∧ L' 17 s = 0) (hp : ∀ e, e < n → C 12 e = 2 → C' 12 e = 2) (hM : ∀ j, 1020 ≤ j → j < 1180 → M' j = M j) : Xg C' L' M' := by
  obtain ⟨m, gc, ⟨a1, a2⟩, a3, hg, ho, hb, hc⟩ := h
  have e : m = n := (nI_eq (by omega) (by omega)).mp (a1.symm.trans hn)
  subst e
  have g280 : gc ≤ 280 := by
    have := zN_240 (usC C m) (L 17)
    have := pN_40 C m
    omega
  refine ⟨n', gc, ⟨hn', n40'⟩, h8.trans a3, fun g hgc => ?_, fun g k gk kc e => ?_, fun e s he hs => ?_, ?_⟩
  · obtain ⟨⟨e, he, e1⟩, s, hs, e2⟩ := hg g hgc
    exact ⟨⟨e, by omega, by rw [h18 g (by omega)]; exact e1⟩, s, by omega, by rw [h19 g (by omega)]; exact e2⟩
  · rw [h18 g (by omega), h18 k (by omega)] at e
    have w := ho g k gk kc e
    obtain ⟨_, s, hs, e2⟩ := hg g (by omega)
    obtain ⟨_, t, ht, e3⟩ := hg k kc
    have c2 : gsC C' g = s := by unfold gsC; rw [h19 g (by omega), e2, nI_clamp (by omega)]
    have c3 : gsC C' k = t := by unfold gsC; rw [h19 k (by omega), e3, nI_clamp (by omega)]
    have c4 : gsC C g = s := by unfold gsC; rw [e2, nI_clamp (by omega)]
    have c5 : gsC C k = t := by unfold gsC; rw [e3, nI_clamp (by omega)]
    rw [c4, c5] at w
    rw [c2, c3]
    unfold keyC dyC at w ⊢
    rw [h11 _ (by omega), h11 _ (by omega)]
    exact w
  · rw [hM _ (by omega) (by omega), hb e s he hs]
    exact ⟨fun ⟨g, x, y, z⟩ => ⟨g, x, by rw [h18 g (by omega)]; exact y, by rw [h19 g (by omega)]; exact z⟩, fun ⟨g, x, y, z⟩ => ⟨g, x, by rw [h18 g (by omega)] at y; exact y, by rw [h19 g (by omega)] at z; exact z⟩⟩
  · have := zN_le (u := usC C m) (u' := usC C' n') (d := L 17) (d' := L' 17) hz
    have := pN_le (C := C) (C' := C') hp nn
    omega
theorem Xg_p : Xp Xg := fun C C' L L' M M' hC hL hM h => by
  obtain ⟨n, gc, ⟨a1, a2⟩, _⟩ := id h
  have e10 := hC 10 0 (by unfold okI; omega)
  refine Xg_mono h a1 a2 (e10.trans a1) (Nat.le_refl _) a2 (hC 10 8 (by unfold okI; omega)) (fun g hg => hC 18 g (by unfold okI; omega)) (fun g hg => hC 19 g (by unfold okI; omega)) (fun e he => hC 11 e (by unfold okI; omega)) (fun s hs a b => ?_) (fun e he z => by rw [hC 12 e (by unfold okI; omega)]; exact z) (fun j u v => hM j (by omega))
  unfold usC at a ⊢
  have a' := of_decide_eq_true a
  rw [hC 13 (s / 6) (by unfold okI; omega), hL 17 s (by unfold okL; omega)]
  exact ⟨a, b⟩
/-- behind the class's call (T) the reference leaves the gifts alone -/
theorem Xg_ref {ks' : List Nat} {T U : hS} {M : Nat → Int64} (h : Xg T.1 T.2 M) (h2 : Same ks' T U) (d2 : 10 ∉ ks' ∧ 11 ∉ ks' ∧ 12 ∉ ks' ∧ 13 ∉ ks' ∧ 17 ∉ ks' ∧ 18 ∉ ks' ∧ 19 ∉ ks') (hM : ∀ j, 1020 ≤ j → j < 1180 → U.2 50 j = M j) : Xg U.1 U.2 (U.2 50) := by
  obtain ⟨n, gc, ⟨a1, a2⟩, _⟩ := id h
  obtain ⟨b0, b1, b2, b3, b7, b8, b9⟩ := d2
  refine Xg_mono h a1 a2 (by rw [(h2 10 b0).1]; exact a1) (Nat.le_refl _) a2 (by rw [(h2 10 b0).1]) (fun g _ => by rw [(h2 18 b8).1]) (fun g _ => by rw [(h2 19 b9).1]) (fun e _ => by rw [(h2 11 b1).1]) (fun s _ a b => ?_) (fun e _ z => by rw [(h2 12 b2).1]; exact z) hM
  unfold usC at a ⊢
  rw [(h2 13 b3).1, (h2 17 b7).2]
  exact ⟨a, b⟩
theorem Xg_other {ks ks' : List Nat} {S S1 S2 : hS} (h : R2 Xg S) (h1 : Same ks S S1) (d1 : (∀ k, k ∈ ks → k ≤ 24 ∨ 52 ≤ k) ∧ 10 ∉ ks ∧ 11 ∉ ks ∧ 12 ∉ ks ∧ 13 ∉ ks ∧ 17 ∉ ks ∧ 18 ∉ ks ∧ 19 ∉ ks) (h2 : Same ks' S1 S2) (d2 : (∀ k, k ∈ ks' → k ≤ 24 ∨ k = 49 ∨ k = 50) ∧ 10 ∉ ks' ∧ 11 ∉ ks' ∧ 12 ∉ ks' ∧ 13 ∉ ks' ∧ 17 ∉ ks' ∧ 18 ∉ ks' ∧ 19 ∉ ks') (hq : Sm S1 S2) (hM : ∀ j, 1020 ≤ j → j < 1180 → S2.2 50 j = S1.2 50 j) : R2 Xg S2 := by
  refine R2_step Xg_p h h1 d1.1 h2 d2.1 hq ?_
  have e50 := (h1 50 (fun z => by have := d1.1 _ z; omega)).2
  have k : Xg S1.1 S1.2 (S.2 50) := by
    obtain ⟨n, gc, ⟨a1, a2⟩, _⟩ := id h.1
    obtain ⟨_, b0, b1, b2, b3, b7, b8, b9⟩ := d1
    refine Xg_mono h.1 a1 a2 (by rw [(h1 10 b0).1]; exact a1) (Nat.le_refl _) a2 (by rw [(h1 10 b0).1]) (fun g _ => by rw [(h1 18 b8).1]) (fun g _ => by rw [(h1 19 b9).1]) (fun e _ => by rw [(h1 11 b1).1]) (fun s _ a b => ?_) (fun e _ z => by rw [(h1 12 b2).1]; exact z) (fun _ _ _ => rfl)
    unfold usC at a ⊢
    rw [(h1 13 b3).1, (h1 17 b7).2]
    exact ⟨a, b⟩
  exact Xg_ref k h2 d2.2 (fun j u v => by rw [hM j u v, e50])
/-- the class's call, then the reference's that leaves the gifts alone -/
theorem Xg_call {ks ks' : List Nat} {S S1 S2 : hS} (h : R2 Xg S) (k : Xg S1.1 S1.2 (S.2 50)) (h1 : Same ks S S1) (d1 : ∀ k, k ∈ ks → k ≤ 24 ∨ 52 ≤ k) (h2 : Same ks' S1 S2) (d2 : (∀ k, k ∈ ks' → k ≤ 24 ∨ k = 49 ∨ k = 50) ∧ 10 ∉ ks' ∧ 11 ∉ ks' ∧ 12 ∉ ks' ∧ 13 ∉ ks' ∧ 17 ∉ ks' ∧ 18 ∉ ks' ∧ 19 ∉ ks') (hq : Sm S1 S2) (hM : ∀ j, 1020 ≤ j → j < 1180 → S2.2 50 j = S1.2 50 j) : R2 Xg S2 := by
  refine R2_step Xg_p h h1 d1 h2 d2.1 hq ?_
  have e50 := (h1 50 (fun z => by have := d1 _ z; omega)).2
  exact Xg_ref k h2 d2.2 (fun j u v => by rw [hM j u v, e50])
theorem us_add {S T : hS} {n : Nat} (t13 : ∀ j, T.1 13 j = if j = n then 0 else S.1 13 j) {s : Nat} (a : usC S.1 n s = true) : usC T.1 (n + 1) s = true := by
  unfold usC at a ⊢
  have a' := of_decide_eq_true a
  refine decide_eq_true ⟨by omega, ?_⟩
  rw [t13, if_neg (by omega)]
  exact a'.2
/-- a new entry -/
theorem Xg_add {S : hS} (hw : wfC S) (h : Xg S.1 S.2 (S.2 50)) (d st : Int32) : Xg (FJO_add S d st).2.1 (FJO_add S d st).2.2 (S.2 50) := by
  obtain ⟨n, gc, ⟨a1, a2⟩, _⟩ := id h
  by_cases c : n < 40
  · obtain ⟨y, T, eT, hy, f1, t10, t8, t11, t12, t13, tB⟩ := add_eff hw d st a1 c
    rw [eT]
    refine Xg_mono h a1 a2 t10 (by omega) (by omega) t8 (fun g _ => congrFun (f1 18 (by decide)).1 g) (fun g _ => congrFun (f1 19 (by decide)).1 g) (fun e he => by rw [t11, if_neg (by omega)]) (fun s _ a b => ⟨us_add t13 a, by rw [congrFun (f1 17 (by decide)).2 s]; exact b⟩) (fun e he z => by rw [t12, if_neg (by omega)]; exact z) (fun _ _ _ => rfl)
  · rw [FJO_add_e, if_neg (fun z => c ((full_eq a1 a2).mp z))]
    exact h
theorem Xg_entry {S : hS} (hI : I0 S) (h : R2 Xg S) (x : Int64) (hw1 : wfM (FHL_entry S x).2) : R2 Xg (FMO_entry (FHL_entry S x).2 x).2 := by
  refine Xg_call h ?_ (fr_FHL_entry S x) (by decide) (fr_FMO_entry _ x) (by decide) (fq_FMO_entry _ x) (fun j u v => Mq_entry hw1 x j ⟨u, v⟩)
  rw [FHL_entry_e]
  split
  · exact h.1
  · exact Xg_add hI.1 h.1 _ _
theorem Xg_row {S : hS} (hI : I0 S) (h : R2 Xg S) (x1 x2 : Int32) (x3 : Int64) (hw1 : wfM (FHL_row S x1 x2 x3).2) : R2 Xg (FMO_row (FHL_row S x1 x2 x3).2 x1 x2 x3).2 := by
  refine Xg_call h ?_ (fr_FHL_row S x1 x2 x3) (by decide) (fr_FMO_row _ x1 x2 x3) (by decide) (fq_FMO_row _ x1 x2 x3) (fun j u v => Mq_row hw1 x1 x2 x3 j ⟨u, v⟩)
  have key : Xg (FJO_addRow S x1 x2 x3).2.1 (FJO_addRow S x1 x2 x3).2.2 (S.2 50) := by
    obtain ⟨n, gc, ⟨a1, a2⟩, _⟩ := id h.1
    by_cases c1 : x1 < 0
    · rw [FJO_addRow_e, if_pos c1]
      exact h.1
    by_cases c2 : S.1 10 0 ≤ x1
    · rw [FJO_addRow_e, if_neg c1, if_pos c2]
      exact h.1
    have p1 : 0 ≤ x1.toInt := by
      rw [Int32.lt_iff_toInt_lt, tl_0] at c1
      omega
    have e1 : x1 = nI x1.toNatClampNeg := (nI_cl p1).symm
    have l1 : x1.toNatClampNeg < n := by
      have := cl_toInt p1
      rw [a1, Int32.le_iff_toInt_le, nI_toInt (by omega)] at c2
      omega
    have hb := hI.1.2.2.2.2.2.1 x1.toNatClampNeg (by omega)
    unfold bt at hb
    have er : S.1 13 x1.toNatClampNeg = nI (S.1 13 x1.toNatClampNeg).toNatClampNeg := (nI_cl hb.1).symm
    have cr := cl_toInt hb.1
    generalize (S.1 13 x1.toNatClampNeg).toNatClampNeg = r at er cr
    generalize x1.toNatClampNeg = e at e1 l1 er cr hb
    subst e1
    by_cases c3 : r < 6
    · obtain ⟨T, eT, f1, t13, t15, t16, t17⟩ := addRow_eff a1 a2 l1 er c3 x2 x3
      rw [eT]
      dsimp only
      have k13 : ∀ j, (S.1 13 j).toInt ≤ (T.1 13 j).toInt := fun j => by
        rw [t13]
        by_cases w : j = e
        · rw [if_pos w, w, er, nI_toInt (by omega), nI_toInt (by omega)]
          omega
        · rw [if_neg w]
          exact Int.le_refl _
      refine Xg_mono h.1 a1 a2 (by rw [(f1 10 (by decide)).1]; exact a1) (Nat.le_refl _) a2 (by rw [(f1 10 (by decide)).1]) (fun g _ => congrFun (f1 18 (by decide)).1 g) (fun g _ => congrFun (f1 19 (by decide)).1 g) (fun j _ => congrFun (f1 11 (by decide)).1 j) (fun s _ a b => ?_) (fun j _ z => by rw [(f1 12 (by decide)).1]; exact z) (fun _ _ _ => rfl)
      unfold usC at a ⊢
      have a' := of_decide_eq_true a
      have kk := k13 (s / 6)
      refine ⟨decide_eq_true ⟨a'.1, by omega⟩, ?_⟩
      rw [t17, if_neg (fun z => by
        have z1 : s / 6 = e := by omega
        have a2' := a'.2
        rw [z1, er, nI_toInt (by omega)] at a2'
        omega)]
      exact b
    · have r6 : r = 6 := by omega
      rw [addRow_C6 a1 a2 l1 (by rw [er, r6])]
      exact h.1
  rw [FHL_row_e]
  repeat' split
  all_goals first | exact h.1 | exact key
theorem Xg_close {S : hS} (hI : I0 S) (hJ : Rj S) (h : R2 Xg S) (x1 : Int32) (hw1 : wfM (FLA_close S x1).2) : R2 Xg (FMO_close (FLA_close S x1).2 x1).2 := by
  refine Xg_call h ?_ (fr_la S x1) (by decide) (fr_FMO_close _ x1) (by decide) (fq_FMO_close _ x1) (fun j u v => Mq_close hw1 x1 j ⟨u, v⟩)
  by_cases nt : NT S x1
  · rw [FLA_0 nt]
    dsimp only
    obtain ⟨n, q⟩ := hJ.1
    have h0 := q.1.1.1
    have hn := q.1.1.2.1
    have fin : Xg (FHL_close S x1).2.1 (FHL_close S x1).2.2 (S.2 50) → Xg (sL (FHL_close S x1).2 52 0 (FHL_close S x1).1.toInt64).1 (sL (FHL_close S x1).2 52 0 (FHL_close S x1).1.toInt64).2 (S.2 50) := fun k => by
      generalize FHL_close S x1 = qq at k ⊢
      refine Xp_apply Xg_p (C := qq.2.1) (L := qq.2.2) (M := S.2 50) (fun _ _ _ => rfl) (fun a j ha => ?_) (fun _ _ => rfl) k
      have := ok_rg (Or.inr ha)
      rw [sL_2, if_neg (by omega)]
    refine fin ?_
    rw [FHL_close_e]
    by_cases c1 : FJO_isOpen S x1 = 0
    · rw [if_pos c1]; exact h.1
    rw [if_neg c1]
    by_cases c2 : FBO_isUnclosedDay S ((S.1 11 x1.toNatClampNeg).toInt64) = 0
    · rw [if_pos c2]; exact h.1
    rw [if_neg c2]
    by_cases c3 : FJO_sumOf S x1 = 0
    · rw [if_pos c3]
      dsimp only
      have op : ¬ x1 < 0 ∧ ¬ S.1 10 0 ≤ x1 ∧ S.1 12 x1.toNatClampNeg = 0 := by
        rw [FJO_isOpen_e] at c1
        by_cases d1 : x1 < 0
        · rw [if_pos d1] at c1; exact absurd rfl c1
        rw [if_neg d1] at c1
        by_cases d2 : S.1 10 0 ≤ x1
        · rw [if_pos d2] at c1; exact absurd rfl c1
        rw [if_neg d2] at c1
        by_cases d3 : S.1 12 x1.toNatClampNeg = 0
        · exact ⟨d1, d2, d3⟩
        · rw [if_neg d3] at c1; exact absurd rfl c1
      have p1 : 0 ≤ x1.toInt := by
        have o1 := op.1
        rw [Int32.lt_iff_toInt_lt, tl_0] at o1
        omega
      have e1 : x1 = nI x1.toNatClampNeg := (nI_cl p1).symm
      have l1 : x1.toNatClampNeg < n := by
        have := cl_toInt p1
        have o2 := op.2.1
        rw [h0, Int32.le_iff_toInt_le, nI_toInt (by omega)] at o2
        omega
      have st := op.2.2
      generalize x1.toNatClampNeg = e at e1 l1 st
      subst e1
      have re := (q.1.2.1 e l1).2.2.1
      have er : S.1 13 e = nI (S.1 13 e).toNatClampNeg := (nI_cl re.2.1).symm
      have cr := cl_toInt re.2.1
      generalize (S.1 13 e).toNatClampNeg = r at er cr
      have k13 : (sI S 12 e 1).1 13 e = nI r := by rw [sI_1, if_neg (by omega)]; exact er
      have mk := makeItems_C (S := sI S 12 e 1) (e := e) (r := r) (by omega) k13 (by omega)
      have fm := fr_FBO_makeItems (sI S 12 e 1) (nI e)
      have c10 : (sI S 12 e 1).1 10 = S.1 10 := by funext j; rw [sI_1, if_neg (by omega)]
      have cA : ∀ a, a ≠ 12 → a ≠ 17 → (FBO_makeItems (sI S 12 e 1) (nI e)).1 a = S.1 a := fun a h1 h2 => by
        rw [(fm a (by simp; exact h2)).1]
        funext j
        rw [sI_1, if_neg (fun z => h1 z.1)]
      refine Xg_mono h.1 h0 hn (by rw [cA 10 (by decide) (by decide)]; exact h0) (Nat.le_refl _) hn (by rw [cA 10 (by decide) (by decide)]) (fun g _ => by rw [cA 18 (by decide) (by decide)]) (fun g _ => by rw [cA 19 (by decide) (by decide)]) (fun j _ => by rw [cA 11 (by decide) (by decide)]) (fun s _ a b => ?_) (fun j hj z => ?_) (fun _ _ _ => rfl)
      · unfold usC at a ⊢
        have a' := of_decide_eq_true a
        rw [cA 13 (by decide) (by decide)]
        refine ⟨a, ?_⟩
        rw [mk, if_neg (fun z => ?_)]
        · exact b
        · have s6 : s / 6 = e := by omega
          have rs := q.1.2.2.2.1 e (s % 6) l1 (by omega) (by rw [← s6]; exact a'.2)
          have es : 6 * e + s % 6 = s := by omega
          rw [es, st] at rs
          have u1 := rs.2.2.2 (fun i => by rcases i.1 with i | i <;> exact absurd i (by decide))
          rw [b] at u1
          exact absurd u1 (by decide)
      · rw [(fm 12 (by decide)).1, sI_1, if_neg (fun y => ?_)]
        · exact z
        · rw [y.2, st] at z
          exact absurd z (by decide)
    · rw [if_neg c3]; exact h.1
  · rw [FLA_1 nt]
    exact h.1
theorem Xg_reverse {S : hS} (hI : I0 S) (hJ : Rj S) (h : R2 Xg S) (x1 : Int32) (x2 : Int64) (hw1 : wfM (FHL_reverse S x1 x2).2) : R2 Xg (FMO_reverse (FHL_reverse S x1 x2).2 x1 x2).2 := by
  refine Xg_call h ?_ (fr_FHL_reverse S x1 x2) (by decide) (fr_FMO_reverse _ x1 x2) (by decide) (fq_FMO_reverse _ x1 x2) (fun j u v => Mq_reverse hw1 x1 x2 j ⟨u, v⟩)
  obtain ⟨n, q⟩ := hJ.1
  have h0 := q.1.1.1
  have hn := q.1.1.2.1
  by_cases c1 : FJO_isReversible S x1 = 0
  · rw [FHL_reverse_e, if_pos c1]; exact h.1
  by_cases c2 : FHL_isDay S x2 = 0
  · rw [FHL_reverse_e, if_neg c1, if_pos c2]; exact h.1
  by_cases c3 : n < 40
  · have nf := (full_eq h0 hn).mpr c3
    have op : ¬ x1 < 0 ∧ ¬ S.1 10 0 ≤ x1 ∧ S.1 12 x1.toNatClampNeg = 1 := by
      rw [FJO_isReversible_e] at c1
      by_cases d1 : x1 < 0
      · rw [if_pos d1] at c1; exact absurd rfl c1
      rw [if_neg d1] at c1
      by_cases d2 : S.1 10 0 ≤ x1
      · rw [if_pos d2] at c1; exact absurd rfl c1
      rw [if_neg d2] at c1
      by_cases d3 : S.1 12 x1.toNatClampNeg = 1
      · exact ⟨d1, d2, d3⟩
      · rw [if_neg d3] at c1; exact absurd rfl c1
    have p1 : 0 ≤ x1.toInt := by
      have o1 := op.1
      rw [Int32.lt_iff_toInt_lt, tl_0] at o1
      omega
    have e1 : x1 = nI x1.toNatClampNeg := (nI_cl p1).symm
    have he : x1.toNatClampNeg < n := by
      have := cl_toInt p1
      have o2 := op.2.1
      rw [h0, Int32.le_iff_toInt_le, nI_toInt (by omega)] at o2
      omega
    have st := op.2.2
    generalize x1.toNatClampNeg = e at e1 he st
    subst e1
    have rc := (q.1.2.1 e he).2.2.1
    have er : S.1 13 e = nI (S.1 13 e).toNatClampNeg := (nI_cl rc.2.1).symm
    have cr := cl_toInt rc.2.1
    generalize (S.1 13 e).toNatClampNeg = r at er cr
    obtain ⟨y, T1, eT, hy, f1, t10, t8, t11, t12, t13, tB⟩ := add_eff hI.1 x2.toInt32 3 h0 c3
    obtain ⟨T2, e2, f2, u13, u15, u16, u17⟩ := turn18 (n := n) (e := e) (m := r) he c3 (by omega) (nI (6 * e)) r 300 0 T1 (by omega) (by omega) t10 (by rw [t13, if_pos rfl, nI_0])
    rw [Nat.add_zero] at e2 u15 u16 u17
    have k13 : T1.1 13 e = nI r := by rw [t13, if_neg (by omega)]; exact er
    have eT2 : FJO_turnRows T1 (nI e) (nI n) = T2 := by
      rw [FJO_turnRows_e, nI_clamp (n := e) (by omega), k13, nI_x6 (by omega), nI_add]
      exact e2
    have k13' : T2.1 13 e = nI r := by rw [u13, if_neg (by omega)]; exact k13
    have cl := clear17 (nI e) (nI (6 * e)) (m := 6 * e + r) (by omega) r 300 (6 * e) T2 rfl (by omega)
    have cl' : ∀ j, (FJO_clearItems T2 (nI e)).2 17 j = if 6 * e ≤ j ∧ j < 6 * e + r ∧ ¬ T2.2 17 j = -1 then 0 else T2.2 17 j := fun j => by
      rw [FJO_clearItems_e, nI_clamp (n := e) (by omega), k13', nI_x6 (by omega), nI_add]
      exact cl j
    have eR : FHL_reverse S (nI e) x2 = (nI n, sI (FJO_clearItems T2 (nI e)) 12 e 4) := by
      rw [FHL_reverse_e, if_neg c1, if_neg c2, if_pos nf, eT]
      dsimp only
      rw [eT2, nI_clamp (n := e) (by omega)]
    rw [eR]
    dsimp only
    have wC : ∀ a, a ≠ 12 → (sI (FJO_clearItems T2 (nI e)) 12 e 4).1 a = T2.1 a := fun a ha => by
      funext j
      rw [sI_1, if_neg (fun z => ha z.1), clearI1]
    refine Xg_mono h.1 h0 hn (n' := n + 1) ?_ (by omega) (by omega) ?_ (fun g _ => ?_) (fun g _ => ?_) (fun j hj => ?_) (fun s _ a b => ?_) (fun j hj z => ?_) (fun _ _ _ => rfl)
    · rw [wC 10 (by decide), (f2 10 (by decide)).1]
      exact t10
    · rw [wC 10 (by decide), (f2 10 (by decide)).1]
      exact t8
    · rw [wC 18 (by decide), (f2 18 (by decide)).1, (f1 18 (by decide)).1]
    · rw [wC 19 (by decide), (f2 19 (by decide)).1, (f1 19 (by decide)).1]
    · rw [wC 11 (by decide), (f2 11 (by decide)).1, t11, if_neg (by omega)]
    · have a' := of_decide_eq_true (show decide (s / 6 < n ∧ ((s % 6 : Nat) : Int) < (S.1 13 (s / 6)).toInt) = true from a)
      refine ⟨?_, ?_⟩
      · unfold usC
        refine decide_eq_true ⟨by omega, ?_⟩
        rw [wC 13 (by decide), u13, if_neg (by omega), t13, if_neg (by omega)]
        exact a'.2
      · have s17 : T2.2 17 s = 0 := by
          rw [u17, if_neg (by omega), congrFun (f1 17 (by decide)).2 s]
          exact b
        rw [sI_2, cl', s17]
        split
        · rfl
        · rfl
    · rw [sI_1, if_neg (fun y => ?_), clearI1, (f2 12 (by decide)).1, t12, if_neg (by omega)]
      · exact z
      · rw [y.2, st] at z
        exact absurd z (by decide)
  · rw [FHL_reverse_e, if_neg c1, if_neg c2, if_neg (fun z => c3 ((full_eq h0 hn).mp z))]
    exact h.1

