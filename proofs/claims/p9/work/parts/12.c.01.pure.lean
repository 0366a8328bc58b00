/-! greatest common divisors on both sides -/
theorem tj_sub {a b : Int64} {p q : Int} (ha : a.toInt = p) (hb : b.toInt = q) (h1 : -9223372036854775808 ≤ p - q) (h2 : p - q ≤ 9223372036854775807) : (a - b).toInt = p - q := by
  rw [Int64.toInt_sub, ha, hb, Int.bmod_def]
  omega
theorem rem_nn {x y : Int64} (hx : 0 < x.toInt) (hy : 0 ≤ y.toInt) : (y - y / x * x).toInt = ((y.toInt.natAbs % x.toInt.natAbs : Nat) : Int) := by
  have h0 : ¬ x = 0 := fun e => by rw [e, tq_0] at hx; omega
  rw [rem64 x y h0]
  have n := Int.natAbs_tmod y.toInt x.toInt
  have p := Int.tmod_nonneg x.toInt hy
  omega
theorem gcdM : ∀ (n : Nat) (S : hS) (a b x y : Int64), 0 ≤ x.toInt → 0 ≤ y.toInt → x.toInt.natAbs < n → (LMO_common_6 n S a b x y).2.toInt = ((Nat.gcd x.toInt.natAbs y.toInt.natAbs : Nat) : Int)
  | 0, S, a, b, x, y, _, _, h => absurd h (Nat.not_lt_zero _)
  | n + 1, S, a, b, x, y, hx, hy, h => by
    rw [LMO_common_6_s]
    by_cases c : x = 0
    · rw [if_pos c, c, tq_0]
      show y.toInt = ((Nat.gcd 0 y.toInt.natAbs : Nat) : Int)
      rw [Nat.gcd_zero_left]
      omega
    · rw [if_neg c]
      have hp : 0 < x.toInt := by
        have := ne64 c
        rw [tq_0] at this
        omega
      have r := rem_nn hp hy
      have lt : y.toInt.natAbs % x.toInt.natAbs < x.toInt.natAbs := Nat.mod_lt _ (by omega)
      rw [gcdM n S a b _ x (by rw [r]; omega) hx (by rw [r]; omega), r, Int.natAbs_natCast, ← Nat.gcd_rec]
theorem half_lt {a b : Nat} (h0 : 0 < b) (h : b < a) : a % b < (a + 1) / 2 := by
  by_cases c : b ≤ a / 2
  · have := Nat.mod_lt a h0
    omega
  · have e : a % b = a - b := by
      rw [Nat.mod_eq_sub_mod (by omega), Nat.mod_eq_of_lt (by omega)]
    omega
theorem gcdC : ∀ (k n : Nat) (S : hS) (a b g l : Int64) (i : Int32), 0 ≤ g.toInt → 0 ≤ l.toInt → l.toInt < (2 : Int) ^ k → 0 ≤ i.toInt → i.toInt + 2 * (k : Int) < 100 → 2 * k + 1 ≤ n → (LHL_commonDivisor_9 n S a b g l i).1.toInt = ((Nat.gcd g.toInt.natAbs l.toInt.natAbs : Nat) : Int)
  | 0, 0, S, a, b, g, l, i, _, _, _, _, _, hn => absurd hn (by omega)
  | 0, n + 1, S, a, b, g, l, i, hg, hl, hk, hi, h100, hn => by
    have e100 : (100 : Int32).toInt = 100 := by decide
    have l0 : l = 0 := Int64.toInt_inj.mp (by rw [tq_0]; simp at hk; omega)
    rw [LHL_commonDivisor_9_s, if_neg (by rw [Int32.le_iff_toInt_le, e100]; omega), if_pos l0, l0, tq_0]
    show g.toInt = ((Nat.gcd g.toInt.natAbs 0 : Nat) : Int)
    rw [Nat.gcd_zero_right]
    omega
  | k + 1, 0, S, a, b, g, l, i, _, _, _, _, _, hn => absurd hn (by omega)
  | k + 1, 1, S, a, b, g, l, i, _, _, _, _, _, hn => absurd hn (by omega)
  | k + 1, n + 2, S, a, b, g, l, i, hg, hl, hk, hi, h100, hn => by
    have e100 : (100 : Int32).toInt = 100 := by decide
    have ti1 : (i + 1).toInt = i.toInt + 1 := ti_add rfl tl_1 (by omega) (by omega)
    have ti2 : (i + 1 + 1).toInt = i.toInt + 2 := by rw [ti_add ti1 tl_1 (by omega) (by omega)]; omega
    rw [LHL_commonDivisor_9_s, if_neg (by rw [Int32.le_iff_toInt_le, e100]; omega)]
    by_cases c : l = 0
    · rw [if_pos c, c, tq_0]
      show g.toInt = ((Nat.gcd g.toInt.natAbs 0 : Nat) : Int)
      rw [Nat.gcd_zero_right]
      omega
    rw [if_neg c]
    have lp : 0 < l.toInt := by
      have := ne64 c
      rw [tq_0] at this
      omega
    have r1 := rem_nn lp hg
    have g1 : Nat.gcd g.toInt.natAbs l.toInt.natAbs = Nat.gcd l.toInt.natAbs (g.toInt.natAbs % l.toInt.natAbs) := by
      rw [Nat.gcd_comm g.toInt.natAbs, Nat.gcd_rec, Nat.gcd_comm]
    rw [LHL_commonDivisor_9_s, if_neg (by rw [Int32.le_iff_toInt_le, e100, ti1]; omega)]
    by_cases d : (g - g / l * l) = 0
    · rw [if_pos d, g1]
      have z : g.toInt.natAbs % l.toInt.natAbs = 0 := by
        rw [d, tq_0] at r1
        omega
      rw [z, Nat.gcd_zero_right]
      show l.toInt = _
      omega
    rw [if_neg d]
    have rp : 0 < (g - g / l * l).toInt := by
      have := ne64 d
      rw [tq_0] at this
      omega
    have r2 := rem_nn rp hl
    have lt1 : g.toInt.natAbs % l.toInt.natAbs < l.toInt.natAbs := Nat.mod_lt _ (by omega)
    rw [r1, Int.natAbs_natCast] at r2
    have h2 := half_lt (a := l.toInt.natAbs) (b := g.toInt.natAbs % l.toInt.natAbs) (by omega) lt1
    have pk : (2 : Int) ^ (k + 1) = 2 * 2 ^ k := by rw [Int.pow_succ]; omega
    rw [gcdC k n S a b _ _ _ (by omega) (by rw [r2]; omega) (by rw [r2]; omega) (by omega) (by rw [ti2]; push_cast at h100; omega) (by omega), g1, r1, r2, Int.natAbs_natCast, Int.natAbs_natCast]
    congr 1
    rw [Nat.gcd_comm l.toInt.natAbs, Nat.gcd_rec (g.toInt.natAbs % l.toInt.natAbs) l.toInt.natAbs, Nat.gcd_comm]
theorem low_eq (S S' : hS) (x0 x2 : Int64) (x4 : Int32) (h0 : 0 ≤ x0.toInt) (h2 : 0 < x2.toInt) (h3 : x2.toInt < 2 ^ 40) : FHL_inLowestTerms S x0 x2 x4 = FMO_part S' x0 x2 x4 := by
  have a : (FHL_commonDivisor S x0 x2).toInt = ((Nat.gcd x0.toInt.natAbs x2.toInt.natAbs : Nat) : Int) := by
    rw [FHL_commonDivisor_e]
    exact gcdC 40 300 S x0 x2 x0 x2 0 h0 (by omega) h3 (by decide) (by rw [show (0 : Int32).toInt = 0 by decide]; omega) (by omega)
  have b : (FMO_common S' x0 x2).toInt = ((Nat.gcd x0.toInt.natAbs x2.toInt.natAbs : Nat) : Int) := by
    rw [FMO_common_e]
    exact gcdM 9223372036854775809 S' x0 x2 x0 x2 h0 (by omega) (abs64 x0)
  have e : FHL_commonDivisor S x0 x2 = FMO_common S' x0 x2 := Int64.toInt_inj.mp (a.trans b.symm)
  have g1 : 0 < Nat.gcd x0.toInt.natAbs x2.toInt.natAbs := Nat.gcd_pos_of_pos_right _ (by omega)
  have n1 : ¬ FHL_commonDivisor S x0 x2 < 1 := by
    rw [Int64.lt_iff_toInt_lt, a, tq_1]
    omega
  rw [FHL_inLowestTerms_e, FMO_part_e, if_neg n1, e]
/-! days in a month -/
theorem cnt45 {S : hS} {x1 x2 x3 : Int32} {i o : Int} (h7 : (S.2 50 ((70 + x1).toNatClampNeg)).toInt = o + 1) (h8 : (S.2 50 ((80 + x1).toNatClampNeg)).toInt = i + 1) (hi : -1 ≤ i ∧ i ≤ 3599) (ho : -1 ≤ o ∧ o ≤ 3599) (hm : 0 ≤ x2.toInt ∧ x2.toInt < 120) (lo hi' : Int) (hlo : lo = if i = -1 then 30 * x2.toInt else max (30 * x2.toInt) i) (hhi : hi' = if o = -1 then 30 * x2.toInt + 30 else min (30 * x2.toInt + 30) o) :
    ∀ (n : Nat) (t d : Int32), 30 * x2.toInt ≤ d.toInt → d.toInt ≤ 30 * x2.toInt + 30 → 0 ≤ t.toInt → t.toInt ≤ d.toInt → (30 * x2.toInt + 30 - d.toInt).toNat < n → (LMO_share_45 n S x1 x2 x3 t d).1.toInt = t.toInt + max 0 (hi' - max d.toInt lo)
  | 0, t, d, _, _, _, _, h => absurd h (Nat.not_lt_zero _)
  | n + 1, t, d, d0, d1, t0, t1, hn => by
    have z0 : (0 : Int64).toInt = 0 := by decide
    have e30 : (30 : Int32).toInt = 30 := by decide
    have ef : ((30 * x2) + 30).toInt = 30 * x2.toInt + 30 := ti_add (ti_mul e30 rfl (by omega) (by omega)) e30 (by omega) (by omega)
    rw [LMO_share_45_s]
    by_cases c : ((30 * x2) + 30) ≤ d
    · rw [if_pos c]
      rw [Int32.le_iff_toInt_le, ef] at c
      show t.toInt = _
      split at hlo <;> split at hhi <;> omega
    rw [if_neg c]
    rw [Int32.le_iff_toInt_le, ef] at c
    have d2 : (d + 1).toInt = d.toInt + 1 := ti_add rfl tl_1 (by omega) (by omega)
    have t2 : (t + 1).toInt = t.toInt + 1 := ti_add rfl tl_1 (by omega) (by omega)
    have t3 : (t + 0).toInt = t.toInt := by rw [ti_add rfl tl_0 (by omega) (by omega)]; omega
    have s8 : ((S.2 50 ((80 + x1).toNatClampNeg)) - 1).toInt = i := by rw [tj_sub h8 tq_1 (by omega) (by omega)]; omega
    have s7 : ((S.2 50 ((70 + x1).toNatClampNeg)) - 1).toInt = o := by rw [tj_sub h7 tq_1 (by omega) (by omega)]; omega
    have I1 := cnt45 (x3 := x3) h7 h8 hi ho hm lo hi' hlo hhi n (t + 1) (d + 1) (by omega) (by omega) (by omega) (by omega) (by omega)
    have I0' := cnt45 (x3 := x3) h7 h8 hi ho hm lo hi' hlo hhi n (t + 0) (d + 1) (by omega) (by omega) (by omega) (by omega) (by omega)
    rw [t2, d2] at I1
    rw [t3, d2] at I0'
    have q7 : (S.2 50 ((70 + x1).toNatClampNeg)) ≤ 0 ↔ o = -1 := by rw [Int64.le_iff_toInt_le, h7, z0]; omega
    have q8 : (S.2 50 ((80 + x1).toNatClampNeg)) ≤ 0 ↔ i = -1 := by rw [Int64.le_iff_toInt_le, h8, z0]; omega
    have r7 : d.toInt64 < ((S.2 50 ((70 + x1).toNatClampNeg)) - 1) ↔ d.toInt < o := by rw [Int64.lt_iff_toInt_lt, s7, l32]
    have r8 : ((S.2 50 ((80 + x1).toNatClampNeg)) - 1) ≤ d.toInt64 ↔ i ≤ d.toInt := by rw [Int64.le_iff_toInt_le, s8, l32]
    simp only [q7, q8, r7, r8]
    repeat' split
    all_goals first | rw [I1] | rw [I0']
    all_goals (split at hlo <;> split at hhi <;> omega)
theorem days_eq {S S' : hS} (hI : I0 S) (hR : Ra S.1 (S.2 50)) (h : S'.2 50 = S.2 50) {x1 x2 x3 : Int32} (hh : ¬ FAC_has S x1 = 0) (hm : 0 ≤ x2.toInt ∧ x2.toInt < 120) : (FAC_daysThere S x1 x2).toInt = (LMO_share_45 300 S' x1 x2 x3 0 (30 * x2)).1.toInt ∧ 0 ≤ (FAC_daysThere S x1 x2).toInt := by
  obtain ⟨k8, kn, ke⟩ := has_lt hI.1 hh
  obtain ⟨⟨p1, p2, p3⟩, q1, q2, q3⟩ := hR.2.2.2.1 _ k8 kn
  have e7 : (70 + x1).toNatClampNeg = 70 + x1.toNatClampNeg := by
    rw [offI (p := 70) (by decide) (by omega) (by omega) (by omega) (by omega)]
    omega
  have e8 : (80 + x1).toNatClampNeg = 80 + x1.toNatClampNeg := by
    rw [offI (p := 80) (by decide) (by omega) (by omega) (by omega) (by omega)]
    omega
  have e30 : (30 : Int32).toInt = 30 := by decide
  have z0 : (0 : Int32).toInt = 0 := by decide
  have m1 : (-1 : Int32).toInt = -1 := by decide
  have f1 : (30 * x2).toInt = 30 * x2.toInt := ti_mul e30 rfl (by omega) (by omega)
  have f2 : (x2 * 30).toInt = 30 * x2.toInt := by rw [ti_mul rfl e30 (by omega) (by omega)]; omega
  have f3 : ((x2 * 30) + 30).toInt = 30 * x2.toInt + 30 := ti_add f2 e30 (by omega) (by omega)
  have L := cnt45 (S := S') (x1 := x1) (x2 := x2) (x3 := x3) (i := (S.1 8 x1.toNatClampNeg).toInt) (o := (S.1 9 x1.toNatClampNeg).toInt) (by rw [h, e7]; exact p1) (by rw [h, e8]; exact q1) ⟨q2, q3⟩ ⟨p2, p3⟩ hm _ _ rfl rfl 300 0 (30 * x2) (by omega) (by omega) (by omega) (by omega) (by omega)
  rw [L, z0, f1]
  have a8 : S.1 8 x1.toNatClampNeg = -1 ↔ (S.1 8 x1.toNatClampNeg).toInt = -1 := by rw [← Int32.toInt_inj, m1]
  have a9 : S.1 9 x1.toNatClampNeg = -1 ↔ (S.1 9 x1.toNatClampNeg).toInt = -1 := by rw [← Int32.toInt_inj, m1]
  have mx : ∀ a b : Int32, (if a < b then b else a).toInt = max a.toInt b.toInt := fun a b => by
    by_cases c : a < b
    · rw [if_pos c]; rw [Int32.lt_iff_toInt_lt] at c; omega
    · rw [if_neg c]; rw [Int32.lt_iff_toInt_lt] at c; omega
  have mn : ∀ a b : Int32, (if a < b then a else b).toInt = min a.toInt b.toInt := fun a b => by
    by_cases c : a < b
    · rw [if_pos c]; rw [Int32.lt_iff_toInt_lt] at c; omega
    · rw [if_neg c]; rw [Int32.lt_iff_toInt_lt] at c; omega
  have ps : ∀ a b : Int32, -100000 ≤ a.toInt → a.toInt ≤ 100000 → -100000 ≤ b.toInt → b.toInt ≤ 100000 → (if 0 < (a - b) then (a - b) else 0).toInt = max 0 (a.toInt - b.toInt) := fun a b h1 h2 h3 h4 => by
    have s := ti_sub (a := a) (b := b) rfl rfl (by omega) (by omega)
    by_cases c : 0 < (a - b)
    · rw [if_pos c, s]; rw [Int32.lt_iff_toInt_lt, z0, s] at c; omega
    · rw [if_neg c, z0]; rw [Int32.lt_iff_toInt_lt, z0, s] at c; omega
  rw [FAC_daysThere_e]
  by_cases c8 : S.1 8 x1.toNatClampNeg = -1
  · rw [if_pos c8, if_pos (a8.mp c8)]
    by_cases c9 : S.1 9 x1.toNatClampNeg = -1
    · rw [if_pos c9, if_pos (a9.mp c9), ps _ _ (by omega) (by omega) (by omega) (by omega), f3, f2]
      omega
    · rw [if_neg c9, if_neg (fun z => c9 (a9.mpr z)), ps _ _ (by rw [mn]; omega) (by rw [mn]; omega) (by omega) (by omega), mn, f3, f2]
      omega
  · rw [if_neg c8, if_neg (fun z => c8 (a8.mpr z))]
    by_cases c9 : S.1 9 x1.toNatClampNeg = -1
    · rw [if_pos c9, if_pos (a9.mp c9), ps _ _ (by omega) (by omega) (by rw [mx]; omega) (by rw [mx]; omega), mx, f3, f2]
      omega
    · rw [if_neg c9, if_neg (fun z => c9 (a9.mpr z)), ps _ _ (by rw [mn]; omega) (by rw [mn]; omega) (by rw [mx]; omega) (by rw [mx]; omega), mx, mn, f3, f2]
      omega
theorem q_share {S : hS} (hI : I0 S) (hR : Ra S.1 (S.2 50)) (x1 x2 x3 : Int32) : FHL_share S x1 x2 x3 = (FMO_share S x1 x2 x3).1 := by
  have e120 : (120 : Int32).toInt = 120 := by decide
  have z0 : (0 : Int32).toInt = 0 := by decide
  rw [FHL_share_e, FMO_share_e, ← hh_eq (S' := sI S 49 4 0) hI.1 hR rfl x1, FHL_isMonth_e]
  by_cases c1 : FAC_hasHousehold S x1 = 0
  · rw [if_pos c1, if_pos c1]
  rw [if_neg c1, if_neg c1]
  by_cases c2 : x2 < 0
  · rw [if_pos c2, if_pos c2, if_pos rfl]
  rw [if_neg c2, if_neg c2]
  by_cases c3 : 120 ≤ x2
  · rw [if_pos c3, if_pos c3, if_pos rfl]
  rw [if_neg c3, if_neg c3, if_neg (show ¬ (1 : Int32) = 0 by decide)]
  by_cases c4 : x3 < 0
  · rw [if_pos c4, if_pos c4]
  rw [if_neg c4, if_neg c4]
  by_cases c5 : x3 ≤ 1
  · rw [if_pos c5, if_pos c5]
    have hm : 0 ≤ x2.toInt ∧ x2.toInt < 120 := by
      rw [Int32.lt_iff_toInt_lt, z0] at c2
      rw [Int32.le_iff_toInt_le, e120] at c3
      omega
    obtain ⟨d1, d2⟩ := days_eq (S' := sI S 49 4 0) (x3 := x3) hI hR rfl (hh_has c1) hm
    have e : FAC_daysThere S x1 x2 = (LMO_share_45 300 (sI S 49 4 0) x1 x2 x3 0 (30 * x2)).1 := i32 d1
    dsimp only
    rw [← e]
    exact low_eq S _ _ 30 x3 (by rw [l32]; exact d2) (by decide) (by decide)
  · rw [if_neg c5, if_neg c5]
/-! DRAFT (not tried): the order of items. Class: places in byDays' order; reference: the row whose count of items before it is k. -/
theorem rank_idx {α : Type} (R : α → α → Bool) (irr : ∀ a, R a a = false) (asym : ∀ a b, R a b = true → R b a = false) : ∀ (l : List α), l.Pairwise (fun a b => R a b = true) → ∀ (i : Nat) (h : i < l.length), l.countP (fun o => R o l[i]) = i
  | [], _, i, h => absurd h (Nat.not_lt_zero _)
  | a :: t, hp, 0, _ => by
    have hp' := List.pairwise_cons.mp hp
    rw [List.getElem_cons_zero, List.countP_cons]
    have z : t.countP (fun o => R o a) = 0 := List.countP_eq_zero.mpr (fun x hx => by rw [asym a x (hp'.1 x hx)]; decide)
    rw [z, irr a]
    rfl
  | a :: t, hp, i + 1, h => by
    have hp' := List.pairwise_cons.mp hp
    have hi : i < t.length := by simpa using h
    rw [List.getElem_cons_succ, List.countP_cons, rank_idx R irr asym t hp'.2 i hi, hp'.1 t[i] (List.getElem_mem hi)]
    rfl
/-- an item's rank among all items is its place in the sorted list of them -/
theorem rank_perm {it : Nat → Bool} {R : Nat → Nat → Bool} (irr : ∀ a, R a a = false) (asym : ∀ a b, R a b = true → R b a = false) {l : List Nat} {N : Nat} (hp : l.Perm ((List.range N).filter it)) (hs : l.Pairwise (fun a b => R a b = true)) {row k : Nat} (hr : row < N) (hit : it row = true) : (List.range N).countP (fun o => it o && R o row) = k ↔ l[k]? = some row := by
  have e : (List.range N).countP (fun o => it o && R o row) = l.countP (fun o => R o row) := by
    rw [hp.countP_eq, List.countP_filter]
    exact List.countP_congr (fun x _ => by rw [Bool.and_comm])
  have hm : row ∈ l := hp.mem_iff.mpr (List.mem_filter.mpr ⟨List.mem_range.mpr hr, hit⟩)
  obtain ⟨i, hi, rfl⟩ := List.getElem_of_mem hm
  rw [e, rank_idx R irr asym l hs i hi]
  constructor
  · rintro rfl
    exact List.getElem?_eq_getElem hi
  · intro h
    obtain ⟨hk, hk2⟩ := List.getElem?_eq_some_iff.mp h
    rcases Nat.lt_trichotomy i k with c | c | c
    · have := List.pairwise_iff_getElem.mp hs i k hi hk c
      rw [hk2, irr] at this
      cases this
    · exact c
    · have := List.pairwise_iff_getElem.mp hs k i hk hi c
      rw [hk2, irr] at this
      cases this
/-! the journal: small numbers, the order by days, the items of both sides -/
theorem nI_cl {x : Int32} (h : 0 ≤ x.toInt) : nI x.toNatClampNeg = x := by
  apply Int32.toInt_inj.mp
  have e := cl_toInt h
  have b := x.toInt_lt
  rw [nI_toInt (by omega)]
  exact e
theorem nI_d6 {s : Nat} (h : s < 2000) : nI s / 6 = nI (s / 6) := by
  apply Int32.toInt_inj.mp
  rw [ti_div (nI_toInt (by omega)) tl_6 (by omega) (by omega), nI_toInt (by omega)]
  omega
theorem nI_x6 {s : Nat} (h : s < 2000) : nI s * 6 = nI (6 * s) := by
  apply Int32.toInt_inj.mp
  rw [ti_mul (nI_toInt (by omega)) tl_6 (by omega) (by omega), nI_toInt (by omega)]
  omega
theorem nI_6x {s : Nat} (h : s < 2000) : 6 * nI s = nI (6 * s) := by
  apply Int32.toInt_inj.mp
  rw [ti_mul tl_6 (nI_toInt (by omega)) (by omega) (by omega), nI_toInt (by omega)]
  omega
theorem nI_m6 {s : Nat} (h : s < 2000) : nI s - nI s / 6 * 6 = nI (s % 6) := by
  rw [nI_d6 h, nI_x6 (by omega)]
  apply Int32.toInt_inj.mp
  rw [ti_sub (nI_toInt (by omega)) (nI_toInt (by omega)) (by omega) (by omega), nI_toInt (by omega)]
  omega
theorem ixC {c : Int32} {s : Nat} (p : Nat) (hc : c = nI p) (h : s < 2000) (hp : p < 2000) : (c + nI s).toNatClampNeg = p + s := by
  rw [hc, nI_add, nI_clamp (by omega)]
theorem nI_m1 (y : Nat) : nI (y + 1) + (-1) = nI y := by rw [← Int32.sub_eq_add_neg, nI_pred]
theorem nI_0a (y : Nat) : nI y + 0 = nI y := Int32.add_zero _
def dyC (C : Nat → Nat → Int32) (e : Nat) : Int := (C 11 e).toInt
def byC (C : Nat → Nat → Int32) (p : Nat) : Nat := (C 14 p).toNatClampNeg
/-- the entries by days: each once, by day, then by number -/
def BD (C : Nat → Nat → Int32) (n : Nat) : Prop := (∀ p, p < n → byC C p < n) ∧ (∀ p q, p < q → q < n → 40 * dyC C (byC C p) + (byC C p : Int) < 40 * dyC C (byC C q) + (byC C q : Int)) ∧ (∀ e, e < n → ∃ p, p < n ∧ byC C p = e)
theorem BD_of {C C' : Nat → Nat → Int32} {n : Nat} (hn : n ≤ 40) (h11 : ∀ k, k < 40 → C' 11 k = C 11 k) (h14 : ∀ k, k < 40 → C' 14 k = C 14 k) (h : BD C n) : BD C' n := by
  obtain ⟨a, b, c⟩ := h
  have e : ∀ p, p < n → byC C' p = byC C p := fun p hp => by unfold byC; rw [h14 p (by omega)]
  have d : ∀ p, p < n → dyC C' (byC C' p) = dyC C (byC C p) := fun p hp => by
    rw [e p hp]
    unfold dyC
    rw [h11 _ (by have := a p hp; omega)]
  refine ⟨fun p hp => by rw [e p hp]; exact a p hp, fun p q hpq hq => ?_, fun x hx => ?_⟩
  · rw [d p (by omega), d q hq, e p (by omega), e q hq]
    exact b p q hpq hq
  · obtain ⟨p, hp, hb⟩ := c x hx
    exact ⟨p, hp, by rw [e p hp]; exact hb⟩
theorem add38 : ∀ (f : Nat) (S : hS) (d x2 x3 : Int32) (y : Nat), y < f → y < 40 → ∃ y', y' ≤ y ∧ (LJO_add_38 f S d x2 x3 (nI y)).1 = nI y' ∧ (∀ p, (LJO_add_38 f S d x2 x3 (nI y)).2.1 14 p = if y' < p ∧ p ≤ y then S.1 14 (p - 1) else S.1 14 p) ∧ (∀ p, y' ≤ p → p < y → d.toInt < dyC S.1 (byC S.1 p)) ∧ (y' = 0 ∨ dyC S.1 (byC S.1 (y' - 1)) ≤ d.toInt)
  | 0, S, d, x2, x3, y, h, _ => absurd h (Nat.not_lt_zero _)
  | f + 1, S, d, x2, x3, 0, _, _ => by
    rw [LJO_add_38_s, if_pos (by rw [nI_0]; decide)]
    exact ⟨0, Nat.le_refl _, rfl, fun p => by rw [if_neg (by omega)], fun p a b => absurd b (by omega), Or.inl rfl⟩
  | f + 1, S, d, x2, x3, y + 1, hf, h40 => by
    rw [LJO_add_38_s, if_neg (nI_nle (by omega) (by omega)), nI_pred, nI_clamp (n := y) (by omega)]
    by_cases c : S.1 11 ((S.1 14 y).toNatClampNeg) ≤ d
    · rw [if_pos c]
      rw [Int32.le_iff_toInt_le] at c
      exact ⟨y + 1, Nat.le_refl _, rfl, fun p => by rw [if_neg (by omega)], fun p a b => absurd b (by omega), Or.inr c⟩
    · rw [if_neg c, nI_clamp (n := y + 1) (by omega), nI_m1]
      rw [Int32.le_iff_toInt_le] at c
      obtain ⟨y', h1, h2, h3, h4, h5⟩ := add38 f (sI S 14 (y + 1) (S.1 14 y)) d x2 x3 y (by omega) (by omega)
      have k : ∀ p, p ≠ y + 1 → (sI S 14 (y + 1) (S.1 14 y)).1 14 p = S.1 14 p := fun p hp => by rw [sI_1, if_neg (by omega)]
      have k11 : ∀ j, (sI S 14 (y + 1) (S.1 14 y)).1 11 j = S.1 11 j := fun j => by rw [sI_1, if_neg (by omega)]
      refine ⟨y', by omega, h2, fun p => ?_, fun p a b => ?_, ?_⟩
      · rw [h3 p]
        by_cases q : y' < p ∧ p ≤ y
        · rw [if_pos q, if_pos (by omega), k _ (by omega)]
        · rw [if_neg q]
          by_cases r : p = y + 1
          · rw [if_pos (by omega), r, sI_1, if_pos ⟨rfl, rfl⟩, Nat.add_sub_cancel]
          · rw [if_neg (by omega), k _ r]
      · by_cases r : p = y
        · subst r
          unfold dyC byC
          omega
        · have z := h4 p a (by omega)
          unfold dyC byC at z ⊢
          rw [k _ (by omega), k11] at z
          exact z
      · rcases h5 with h | h
        · exact Or.inl h
        · refine Or.inr ?_
          unfold dyC byC at h ⊢
          rw [k _ (by omega), k11] at h
          exact h
theorem add38_f : ∀ (n : Nat) (S : hS) (x1 x2 x3 x4 : Int32) (a : Nat), a ≠ 14 → (LJO_add_38 n S x1 x2 x3 x4).2.1 a = S.1 a
  | 0, S, x1, x2, x3, x4, a, _ => rfl
  | n + 1, S, x1, x2, x3, x4, a, h => by
    rw [LJO_add_38_s]
    split
    · rfl
    split
    · rfl
    · rw [add38_f n _ _ _ _ _ a h]
      funext j
      rw [sI_1, if_neg (fun z => h z.1)]
theorem BD_add {C C' : Nat → Nat → Int32} {n y : Nat} {d v : Int32} (h : BD C n) (hn : n < 40) (hv : v.toNatClampNeg = n) (hy : y ≤ n) (h11 : ∀ j, C' 11 j = if j = n then d else C 11 j) (h14 : ∀ p, C' 14 p = if p = y then v else if y < p ∧ p ≤ n then C 14 (p - 1) else C 14 p) (ha : ∀ p, y ≤ p → p < n → d.toInt < dyC C (byC C p)) (hb : y = 0 ∨ dyC C (byC C (y - 1)) ≤ d.toInt) : BD C' (n + 1) := by
  obtain ⟨q1, q2, q3⟩ := h
  have b1 : ∀ p, p < y → byC C' p = byC C p ∧ dyC C' (byC C' p) = dyC C (byC C p) := fun p hp => by
    have e : byC C' p = byC C p := by
      unfold byC
      rw [h14, if_neg (by omega), if_neg (by omega)]
    refine ⟨e, ?_⟩
    have := q1 p (by omega)
    rw [e]
    unfold dyC
    rw [h11, if_neg (by omega)]
  have b2 : byC C' y = n ∧ dyC C' n = d.toInt := by
    refine ⟨?_, ?_⟩
    · unfold byC
      rw [h14, if_pos rfl, hv]
    · unfold dyC
      rw [h11, if_pos rfl]
  have b3 : ∀ p, y ≤ p → p < n → byC C' (p + 1) = byC C p ∧ dyC C' (byC C' (p + 1)) = dyC C (byC C p) := fun p hp hp2 => by
    have e : byC C' (p + 1) = byC C p := by
      unfold byC
      rw [h14, if_neg (by omega), if_pos (by omega), Nat.add_sub_cancel]
    refine ⟨e, ?_⟩
    have := q1 p (by omega)
    rw [e]
    unfold dyC
    rw [h11, if_neg (by omega)]
  refine ⟨fun p hp => ?_, fun p q hpq hq => ?_, fun e he => ?_⟩
  · rcases Nat.lt_trichotomy p y with c | c | c
    · rw [(b1 p c).1]
      have := q1 p (by omega)
      omega
    · rw [c, b2.1]
      omega
    · obtain ⟨m, rfl⟩ : ∃ m, p = m + 1 := ⟨p - 1, by omega⟩
      rw [(b3 m (by omega) (by omega)).1]
      have := q1 m (by omega)
      omega
  · rcases Nat.lt_trichotomy q y with c | c | c
    · rw [(b1 p (by omega)).2, (b1 q c).2, (b1 p (by omega)).1, (b1 q c).1]
      exact q2 p q hpq (by omega)
    · subst c
      rw [(b1 p hpq).2, (b1 p hpq).1, b2.1, b2.2]
      have h1 := q1 p (by omega)
      have h2 := q1 (q - 1) (by omega)
      rcases hb with hb | hb
      · omega
      · by_cases e : p = q - 1
        · rw [← e] at hb
          omega
        · have := q2 p (q - 1) (by omega) (by omega)
          omega
    · obtain ⟨m, rfl⟩ : ∃ m, q = m + 1 := ⟨q - 1, by omega⟩
      rw [(b3 m (by omega) (by omega)).2, (b3 m (by omega) (by omega)).1]
      rcases Nat.lt_trichotomy p y with c2 | c2 | c2
      · rw [(b1 p c2).2, (b1 p c2).1]
        exact q2 p m (by omega) (by omega)
      · rw [c2, b2.1, b2.2]
        have := ha m (by omega) (by omega)
        omega
      · obtain ⟨l, rfl⟩ : ∃ l, p = l + 1 := ⟨p - 1, by omega⟩
        rw [(b3 l (by omega) (by omega)).2, (b3 l (by omega) (by omega)).1]
        exact q2 l m (by omega) (by omega)
  · by_cases c : e = n
    · exact ⟨y, by omega, by rw [b2.1, c]⟩
    · obtain ⟨p, hp, hb'⟩ := q3 e (by omega)
      by_cases c2 : p < y
      · exact ⟨p, by omega, by rw [(b1 p c2).1]; exact hb'⟩
      · exact ⟨p + 1, by omega, by rw [(b3 p (by omega) hp).1]; exact hb'⟩
/-- what a new entry does to the class -/
theorem add_eff {S : hS} (hw : wfC S) (d st : Int32) {n : Nat} (hn : S.1 10 0 = nI n) (h40 : n < 40) : ∃ (y : Nat) (T : hS), FJO_add S d st = (nI n, T) ∧ y ≤ n ∧ Same [10, 11, 12, 13, 14] S T ∧ T.1 10 0 = nI (n + 1) ∧ T.1 10 8 = S.1 10 8 ∧ (∀ j, T.1 11 j = if j = n then d else S.1 11 j) ∧ (∀ j, T.1 12 j = if j = n then st else S.1 12 j) ∧ (∀ j, T.1 13 j = if j = n then 0 else S.1 13 j) ∧ (BD S.1 n → BD T.1 (n + 1)) := by
  have hf : FJO_isFull S = 0 := by
    rw [FJO_isFull_e, if_pos (by rw [hn, Int32.lt_iff_toInt_lt, nI_toInt (by omega), tl_40]; omega)]
  have hfr := fr_FJO_add S d st
  obtain ⟨y, h1, h2, h3, h4, h5⟩ := add38 300 (sI (sI (sI S 11 n d) 12 n st) 13 n 0) d st (nI n) n (by omega) h40
  have f38 := add38_f 300 (sI (sI (sI S 11 n d) 12 n st) 13 n 0) d st (nI n) (nI n)
  have e : FJO_add S d st = (nI n, sI (sI (LJO_add_38 300 (sI (sI (sI S 11 n d) 12 n st) 13 n 0) d st (nI n) (nI n)).2 14 y (nI n)) 10 0 ((LJO_add_38 300 (sI (sI (sI S 11 n d) 12 n st) 13 n 0) d st (nI n) (nI n)).2.1 10 0 + 1)) := by
    rw [FJO_add_e, if_pos hf, hn, nI_clamp (n := n) (by omega)]
    dsimp only
    rw [h2, nI_clamp (n := y) (by omega)]
  rw [e] at hfr
  generalize LJO_add_38 300 (sI (sI (sI S 11 n d) 12 n st) 13 n 0) d st (nI n) (nI n) = q at e h2 h3 f38 hfr
  have k : ∀ a j, a ≠ 14 → q.2.1 a j = (sI (sI (sI S 11 n d) 12 n st) 13 n 0).1 a j := fun a j ha => congrFun (f38 a ha) j
  refine ⟨y, _, e, h1, hfr, ?_, ?_, fun j => ?_, fun j => ?_, fun j => ?_, fun hB => ?_⟩
  · rw [sI_1, if_pos ⟨rfl, rfl⟩, k 10 0 (by omega), sI_1, if_neg (by omega), sI_1, if_neg (by omega), sI_1, if_neg (by omega), hn, nI_1]
  · rw [sI_1, if_neg (by omega), sI_1, if_neg (by omega), k 10 8 (by omega), sI_1, if_neg (by omega), sI_1, if_neg (by omega), sI_1, if_neg (by omega)]
  · rw [sI_1, if_neg (by omega), sI_1, if_neg (by omega), k 11 j (by omega), sI_1, if_neg (by omega), sI_1, if_neg (by omega), sI_1]
    by_cases c : j = n
    · rw [if_pos ⟨rfl, c⟩, if_pos c]
    · rw [if_neg (fun z => c z.2), if_neg c]
  · rw [sI_1, if_neg (by omega), sI_1, if_neg (by omega), k 12 j (by omega), sI_1, if_neg (by omega), sI_1]
    by_cases c : j = n
    · rw [if_pos ⟨rfl, c⟩, if_pos c]
    · rw [if_neg (fun z => c z.2), if_neg c, sI_1, if_neg (by omega)]
  · rw [sI_1, if_neg (by omega), sI_1, if_neg (by omega), k 13 j (by omega), sI_1]
    by_cases c : j = n
    · rw [if_pos ⟨rfl, c⟩, if_pos c]
    · rw [if_neg (fun z => c z.2), if_neg c, sI_1, if_neg (by omega), sI_1, if_neg (by omega)]
  · have k14 : ∀ j, (sI (sI (sI S 11 n d) 12 n st) 13 n 0).1 14 j = S.1 14 j := fun j => by rw [sI_1, if_neg (by omega), sI_1, if_neg (by omega), sI_1, if_neg (by omega)]
    have k11 : ∀ j, j ≠ n → (sI (sI (sI S 11 n d) 12 n st) 13 n 0).1 11 j = S.1 11 j := fun j hj => by rw [sI_1, if_neg (by omega), sI_1, if_neg (by omega), sI_1, if_neg (by omega)]
    have kk : ∀ p, p < n → dyC (sI (sI (sI S 11 n d) 12 n st) 13 n 0).1 (byC (sI (sI (sI S 11 n d) 12 n st) 13 n 0).1 p) = dyC S.1 (byC S.1 p) := fun p hp => by
      have := hB.1 p hp
      unfold dyC byC at this ⊢
      rw [k14, k11 _ (by omega)]
    refine BD_add (d := d) (v := nI n) (y := y) hB h40 (nI_clamp (by omega)) h1 (fun j => ?_) (fun p => ?_) (fun p hp hq => ?_) ?_
    · rw [sI_1, if_neg (by omega), sI_1, if_neg (by omega), k 11 j (by omega), sI_1, if_neg (by omega), sI_1, if_neg (by omega), sI_1]
      by_cases c : j = n
      · rw [if_pos ⟨rfl, c⟩, if_pos c]
      · rw [if_neg (fun z => c z.2), if_neg c]
    · rw [sI_1, if_neg (by omega), sI_1]
      by_cases c : p = y
      · rw [if_pos ⟨rfl, c⟩, if_pos c]
      · rw [if_neg (fun z => c z.2), if_neg c, h3 p, k14, k14]
    · rw [← kk p hq]
      exact h4 p hp hq
    · rcases h5 with h | h
      · exact Or.inl h
      · by_cases z : y = 0
        · exact Or.inl z
        · rw [kk (y - 1) (by omega)] at h
          exact Or.inr h
/-! the journal of class and reference -/
def RE (d s c : Int32) (md mp ms mr mc : Int64) : Prop := d.toInt = md.toInt ∧ (0 ≤ d.toInt ∧ d.toInt ≤ 3599) ∧ (c.toInt = mc.toInt ∧ 0 ≤ c.toInt ∧ c.toInt ≤ 6) ∧ ((s = 0 ∧ mp = 0 ∧ ms = 0 ∧ mr = 0) ∨ (s = 1 ∧ mp = 1 ∧ ms = 0 ∧ mr = 0) ∨ (s = 2 ∧ mp = 1 ∧ ms = 1 ∧ mr = 0) ∨ (s = 3 ∧ mp = 1 ∧ ms = 2 ∧ mr = 0) ∨ (s = 4 ∧ mp = 1 ∧ ms = 0 ∧ mr = 1))
/-- state, kind, cents of a row that is an item -/
def itP (s k : Int32) (c : Int64) : Prop := (s = 1 ∨ s = 4) ∧ 0 < c.toInt ∧ k = 1
def RS (n s k a : Int32) (c u ma mc : Int64) : Prop := (0 ≤ a.toInt ∧ a.toInt < n.toInt ∧ ma.toInt = a.toInt) ∧ (mc = c ∧ ¬ c = 0 ∧ -100000000 ≤ c.toInt ∧ c.toInt ≤ 100000000) ∧ (itP s k c → 0 ≤ u.toInt ∧ u.toInt ≤ c.toInt) ∧ (¬ itP s k c → u = -1)
/-- the kind of the account of a slot -/
def kdC (C : Nat → Nat → Int32) (s : Nat) : Int32 := C 3 (C 15 s).toNatClampNeg
/-- entries and rows; the reference's dues have no part in it -/
def Rk (n : Nat) (C : Nat → Nat → Int32) (L : Nat → Nat → Int64) (M : Nat → Int64) : Prop :=
  (C 10 0 = nI n ∧ n ≤ 40 ∧ (M 1).toInt = (n : Int) ∧ (C 2 0).toInt ≤ 8) ∧
  (∀ e : Nat, e < n → RE (C 11 e) (C 12 e) (C 13 e) (M (100 + e)) (M (140 + e)) (M (180 + e)) (M (220 + e)) (M (260 + e))) ∧
  (∀ e : Nat, n ≤ e → e < 40 → M (140 + e) = 0 ∧ M (220 + e) = 0 ∧ M (260 + e) = 0) ∧
  (∀ e r : Nat, e < n → r < 6 → (r : Int) < (C 13 e).toInt → RS (C 2 0) (C 12 e) (kdC C (6 * e + r)) (C 15 (6 * e + r)) (L 16 (6 * e + r)) (L 17 (6 * e + r)) (M (300 + (6 * e + r))) (M (540 + (6 * e + r)))) ∧
  BD C n
/-- and what items are due -/
def Rd (n : Nat) (C : Nat → Nat → Int32) (L : Nat → Nat → Int64) (M : Nat → Int64) : Prop := ∀ e r : Nat, e < n → r < 6 → (r : Int) < (C 13 e).toInt → ¬ L 17 (6 * e + r) = -1 → M (780 + (6 * e + r)) = L 17 (6 * e + r)
theorem itP_u {n s k a : Int32} {c u ma mc : Int64} (h : RS n s k a c u ma mc) : itP s k c ↔ ¬ u = -1 := by
  constructor
  · intro i e
    have := (h.2.2.1 i).1
    rw [e, show (-1 : Int64).toInt = -1 by decide] at this
    omega
  · intro i
    exact Classical.byContradiction (fun z => i (h.2.2.2 z))
def sltC (C : Nat → Nat → Int32) (p : Nat) : Nat := 6 * byC C (p / 6) + p % 6
def itmC (C : Nat → Nat → Int32) (L : Nat → Nat → Int64) (a : Int32) (s : Nat) : Bool := decide (((s % 6 : Nat) : Int) < (C 13 (s / 6)).toInt ∧ C 15 s = a ∧ ¬ L 17 s = -1)
theorem itemAt_C {S : hS} (hw : wfC S) (a : Int32) {p : Nat} (hp : p < 240) : FJO_itemAt S (nI p) a = if itmC S.1 S.2 a (sltC S.1 p) = true then nI (sltC S.1 p) else -1 := by
  have hb := hw.2.2.2.2.2.2.1 (p / 6) (by omega)
  unfold rg at hb
  have eb : S.1 14 (p / 6) = nI (byC S.1 (p / 6)) := (nI_cl hb.1).symm
  have b40 : byC S.1 (p / 6) < 40 := by
    have := cl_toInt hb.1
    unfold byC
    omega
  have e1 : sltC S.1 p / 6 = byC S.1 (p / 6) := by unfold sltC; omega
  have e2 : sltC S.1 p % 6 = p % 6 := by unfold sltC; omega
  have es : nI (byC S.1 (p / 6)) * 6 + nI (p % 6) = nI (sltC S.1 p) := by rw [nI_x6 (by omega), nI_add]; rfl
  have c1 : (S.1 13 (byC S.1 (p / 6)) ≤ nI (p % 6)) ↔ ¬ ((p % 6 : Nat) : Int) < (S.1 13 (byC S.1 (p / 6))).toInt := by
    rw [Int32.le_iff_toInt_le, nI_toInt (by omega)]
    omega
  rw [FJO_itemAt_e, nI_m6 (by omega), nI_d6 (by omega), nI_clamp (n := p / 6) (by omega), eb, nI_clamp (n := byC S.1 (p / 6)) (by omega), es, nI_clamp (n := sltC S.1 p) (by unfold sltC; omega)]
  have u : (itmC S.1 S.2 a (sltC S.1 p) = true) ↔ (((p % 6 : Nat) : Int) < (S.1 13 (byC S.1 (p / 6))).toInt ∧ S.1 15 (sltC S.1 p) = a ∧ ¬ S.2 17 (sltC S.1 p) = -1) := by
    unfold itmC
    rw [decide_eq_true_iff, e1, e2]
  by_cases d1 : ((p % 6 : Nat) : Int) < (S.1 13 (byC S.1 (p / 6))).toInt
  · rw [if_neg (fun z => c1.mp z d1)]
    by_cases d2 : S.1 15 (sltC S.1 p) = a
    · rw [if_pos d2]
      by_cases d3 : S.2 17 (sltC S.1 p) = -1
      · rw [if_pos d3, if_neg (fun z => (u.mp z).2.2 d3)]
      · rw [if_neg d3, if_pos (u.mpr ⟨d1, d2, d3⟩)]
    · rw [if_neg d2, if_neg (fun z => d2 (u.mp z).2.1)]
  · rw [if_pos (c1.mpr d1), if_neg (fun z => d1 (u.mp z).1)]
/-- the reference's items are the class's -/
theorem isItem_M {S' : hS} {n : Nat} {C : Nat → Nat → Int32} {L : Nat → Nat → Int64} (hR : Ra C (S'.2 50)) (h : Rk n C L (S'.2 50)) {e r : Nat} (he : e < 40) (hr : r < 6) : FMO_isItem S' (nI e) (nI r) = if e < n ∧ (r : Int) < (C 13 e).toInt ∧ ¬ L 17 (6 * e + r) = -1 then 1 else 0 := by
  obtain ⟨⟨h0, hn, h1, hc8⟩, hE, hZ, hS', hB⟩ := h
  have z0 : (0 : Int64).toInt = 0 := by decide
  have i260 : (260 + nI e).toNatClampNeg = 260 + e := ixC (c := 260) 260 rfl (by omega) (by omega)
  have i140 : (140 + nI e).toNatClampNeg = 140 + e := ixC (c := 140) 140 rfl (by omega) (by omega)
  have i180 : (180 + nI e).toNatClampNeg = 180 + e := ixC (c := 180) 180 rfl (by omega) (by omega)
  have es : 6 * nI e + nI r = nI (6 * e + r) := by rw [nI_6x (by omega), nI_add]
  have i540 : (540 + nI (6 * e + r)).toNatClampNeg = 540 + (6 * e + r) := ixC (c := 540) 540 rfl (by omega) (by omega)
  have i300 : (300 + nI (6 * e + r)).toNatClampNeg = 300 + (6 * e + r) := ixC (c := 300) 300 rfl (by omega) (by omega)
  rw [FMO_isItem_e, es, i260, i140, i180, i540, i300]
  by_cases cn : e < n
  · obtain ⟨_, _, ⟨q3, _, _⟩, q4⟩ := hE e cn
    have c1 : (S'.2 50 (260 + e) ≤ (nI r).toInt64) ↔ ¬ (r : Int) < (C 13 e).toInt := by
      rw [Int64.le_iff_toInt_le, l32, nI_toInt (by omega), ← q3]
      omega
    by_cases cr : (r : Int) < (C 13 e).toInt
    · rw [if_neg (fun z => c1.mp z cr)]
      have s := hS' e r cn hr cr
      have iu := itP_u s
      obtain ⟨⟨a0, a1, a2⟩, ⟨b0, b1, b2, b3⟩, _, _⟩ := s
      have ek : (C 15 (6 * e + r)).toNatClampNeg < 8 := by
        have := cl_toInt a0
        omega
      have e32 : (S'.2 50 (300 + (6 * e + r))).toInt32 = nI (C 15 (6 * e + r)).toNatClampNeg := by
        rw [nI_cl a0]
        apply Int32.toInt_inj.mp
        rw [ti_32 a2 (by omega) (by omega)]
      have i10 : (10 + (S'.2 50 (300 + (6 * e + r))).toInt32).toNatClampNeg = 10 + (C 15 (6 * e + r)).toNatClampNeg := by
        rw [e32]
        exact ixC (c := 10) 10 rfl (by omega) (by omega)
      have kk := hR.2.2.1 _ ek (by have := cl_toInt a0; omega)
      have ki : S'.2 50 (10 + (C 15 (6 * e + r)).toNatClampNeg) = 1 ↔ kdC C (6 * e + r) = 1 := by
        unfold kdC
        rw [← Int64.toInt_inj, ← Int32.toInt_inj, ← kk, tl_1, tq_1]
      have ci : (S'.2 50 (540 + (6 * e + r)) ≤ 0) ↔ ¬ 0 < (L 16 (6 * e + r)).toInt := by
        rw [Int64.le_iff_toInt_le, b0, z0]
        omega
      have st : (¬ (S'.2 50 (140 + e) ≤ 0) ∧ S'.2 50 (180 + e) = 0) ↔ (C 12 e = 1 ∨ C 12 e = 4) := by
        rcases q4 with ⟨s1, s2, s3, s4⟩ | ⟨s1, s2, s3, s4⟩ | ⟨s1, s2, s3, s4⟩ | ⟨s1, s2, s3, s4⟩ | ⟨s1, s2, s3, s4⟩ <;> (rw [s1, s2, s3]; decide)
      have all : (e < n ∧ (r : Int) < (C 13 e).toInt ∧ ¬ L 17 (6 * e + r) = -1) ↔ ((¬ (S'.2 50 (140 + e) ≤ 0) ∧ S'.2 50 (180 + e) = 0) ∧ ¬ (S'.2 50 (540 + (6 * e + r)) ≤ 0) ∧ S'.2 50 (10 + (C 15 (6 * e + r)).toNatClampNeg) = 1) := by
        rw [← iu, st, ci, ki]
        unfold itP
        constructor
        · rintro ⟨_, _, x, y, z⟩
          exact ⟨x, fun w => w y, z⟩
        · rintro ⟨x, y, z⟩
          exact ⟨cn, cr, x, Classical.not_not.mp y, z⟩
      rw [i10]
      by_cases d1 : S'.2 50 (140 + e) ≤ 0
      · rw [if_pos d1, if_neg (fun z => (all.mp z).1.1 d1)]
      rw [if_neg d1]
      by_cases d2 : S'.2 50 (180 + e) = 0
      · rw [if_pos d2]
        by_cases d3 : S'.2 50 (540 + (6 * e + r)) ≤ 0
        · rw [if_pos d3, if_neg (fun z => (all.mp z).2.1 d3)]
        rw [if_neg d3]
        by_cases d4 : S'.2 50 (10 + (C 15 (6 * e + r)).toNatClampNeg) = 1
        · rw [if_pos d4, if_pos (all.mpr ⟨⟨d1, d2⟩, d3, d4⟩)]
        · rw [if_neg d4, if_neg (fun z => d4 (all.mp z).2.2)]
      · rw [if_neg d2, if_neg (fun z => d2 (all.mp z).1.2)]
    · rw [if_pos (c1.mpr cr), if_neg (fun z => cr z.2.1)]
  · obtain ⟨_, _, q⟩ := hZ e (by omega) he
    rw [if_pos (by rw [q, Int64.le_iff_toInt_le, l32, nI_toInt (by omega), z0]; omega), if_neg (fun z => cn z.1)]
theorem isItemOf_M {S' : hS} {n : Nat} {C : Nat → Nat → Int32} {L : Nat → Nat → Int64} (hR : Ra C (S'.2 50)) (h : Rk n C L (S'.2 50)) (a : Int32) {s : Nat} (hs : s < 240) : FMO_isItemOf S' (nI s) a = if (decide (s / 6 < n) && itmC C L a s) = true then 1 else 0 := by
  have i := isItem_M hR h (e := s / 6) (r := s % 6) (by omega) (by omega)
  have es : 6 * (s / 6) + s % 6 = s := by omega
  rw [es] at i
  have i300 : (300 + nI s).toNatClampNeg = 300 + s := ixC (c := 300) 300 rfl (by omega) (by omega)
  rw [FMO_isItemOf_e, nI_m6 (by omega), nI_d6 (by omega), i, i300]
  have u : ((decide (s / 6 < n) && itmC C L a s) = true) ↔ (s / 6 < n ∧ ((s % 6 : Nat) : Int) < (C 13 (s / 6)).toInt ∧ C 15 s = a ∧ ¬ L 17 s = -1) := by
    unfold itmC
    rw [Bool.and_eq_true, decide_eq_true_iff, decide_eq_true_iff]
  by_cases c : s / 6 < n ∧ ((s % 6 : Nat) : Int) < (C 13 (s / 6)).toInt ∧ ¬ L 17 s = -1
  · rw [if_pos c, if_neg (show ¬ (1 : Int32) = 0 by decide)]
    have q := h.2.2.2.1 (s / 6) (s % 6) c.1 (by omega) c.2.1
    rw [es] at q
    have ea : S'.2 50 (300 + s) = a.toInt64 ↔ C 15 s = a := by
      rw [← Int64.toInt_inj, ← Int32.toInt_inj, l32, q.1.2.2]
    by_cases d : C 15 s = a
    · rw [if_pos (ea.mpr d), if_pos (u.mpr ⟨c.1, c.2.1, d, c.2.2⟩)]
    · rw [if_neg (fun z => d (ea.mp z)), if_neg (fun z => d (u.mp z).2.2.1)]
  · rw [if_neg c, if_pos rfl, if_neg (fun z => c ⟨(u.mp z).1, (u.mp z).2.1, (u.mp z).2.2.2⟩)]
def keyC (C : Nat → Nat → Int32) (s : Nat) : Int := 240 * dyC C (s / 6) + (s : Int)
theorem isBefore_M {S' : hS} {n : Nat} {C : Nat → Nat → Int32} {L : Nat → Nat → Int64} (h : Rk n C L (S'.2 50)) {o s : Nat} (ho : o / 6 < n) (hs : s / 6 < n) : FMO_isBefore S' (nI o) (nI s) = if keyC C o < keyC C s then 1 else 0 := by
  have hn := h.1.2.1
  have d1 := (h.2.1 _ ho).1
  have d2 := (h.2.1 _ hs).1
  have r1 : (100 + nI (o / 6)).toNatClampNeg = 100 + o / 6 := ixC (c := 100) 100 rfl (by omega) (by omega)
  have r2 : (100 + nI (s / 6)).toNatClampNeg = 100 + s / 6 := ixC (c := 100) 100 rfl (by omega) (by omega)
  rw [FMO_isBefore_e, nI_d6 (by omega), nI_d6 (by omega), r1, r2]
  have q : S'.2 50 (100 + o / 6) = S'.2 50 (100 + s / 6) ↔ dyC C (o / 6) = dyC C (s / 6) := by
    unfold dyC
    rw [← Int64.toInt_inj, d1, d2]
  have l : S'.2 50 (100 + s / 6) ≤ S'.2 50 (100 + o / 6) ↔ dyC C (s / 6) ≤ dyC C (o / 6) := by
    unfold dyC
    rw [Int64.le_iff_toInt_le, d1, d2]
  have m : nI s ≤ nI o ↔ s ≤ o := nI_leI (by omega) (by omega)
  unfold keyC
  by_cases c : dyC C (o / 6) = dyC C (s / 6)
  · rw [if_pos (q.mpr c)]
    by_cases d : s ≤ o
    · rw [if_pos (m.mpr d), if_neg (by omega)]
    · rw [if_neg (fun z => d (m.mp z)), if_pos (by omega)]
  · rw [if_neg (fun z => c (q.mp z))]
    by_cases d : dyC C (s / 6) ≤ dyC C (o / 6)
    · rw [if_pos (l.mpr d), if_neg (by omega)]
    · rw [if_neg (fun z => d (l.mp z)), if_pos (by omega)]
/-! the items of an account, in the class's order -/
def LpC (C : Nat → Nat → Int32) (p k : Nat) : List Nat := (List.range' p k).map (sltC C)
def LcC (C : Nat → Nat → Int32) (L : Nat → Nat → Int64) (n : Nat) (a : Int32) : List Nat := (LpC C 0 (6 * n)).filter (itmC C L a)
theorem slt_key {C : Nat → Nat → Int32} {n : Nat} (h : BD C n) {p q : Nat} (hpq : p < q) (hq : q < 6 * n) : keyC C (sltC C p) < keyC C (sltC C q) := by
  have e1 : sltC C p / 6 = byC C (p / 6) := by unfold sltC; omega
  have e2 : sltC C q / 6 = byC C (q / 6) := by unfold sltC; omega
  unfold keyC
  rw [e1, e2]
  unfold sltC
  by_cases c : p / 6 = q / 6
  · rw [c]
    omega
  · have := h.2.1 (p / 6) (q / 6) (by omega) (by omega)
    omega
theorem Lp_pw {C : Nat → Nat → Int32} {n : Nat} (h : BD C n) : (LpC C 0 (6 * n)).Pairwise (fun a b => keyC C a < keyC C b) := by
  unfold LpC
  rw [List.pairwise_map]
  refine List.Pairwise.imp_of_mem ?_ (List.pairwise_lt_range' (s := 0) (n := 6 * n))
  intro a b _ hb hab
  have := List.mem_range'_1.mp hb
  exact slt_key h hab (by omega)
theorem Lp_mem {C : Nat → Nat → Int32} {n : Nat} (h : BD C n) {s : Nat} : s ∈ LpC C 0 (6 * n) ↔ s / 6 < n := by
  unfold LpC
  rw [List.mem_map]
  constructor
  · rintro ⟨p, hp, rfl⟩
    have hp' := List.mem_range'_1.mp hp
    have := h.1 (p / 6) (by omega)
    unfold sltC
    omega
  · intro hs
    obtain ⟨p, hp, hb⟩ := h.2.2 (s / 6) hs
    refine ⟨6 * p + s % 6, List.mem_range'_1.mpr (by omega), ?_⟩
    have e1 : (6 * p + s % 6) / 6 = p := by omega
    have e2 : (6 * p + s % 6) % 6 = s % 6 := by omega
    unfold sltC
    rw [e1, e2, hb]
    omega
theorem pw_nodup {C : Nat → Nat → Int32} {l : List Nat} (h : l.Pairwise (fun a b => keyC C a < keyC C b)) : l.Nodup := List.Pairwise.imp (fun {a b} hab e => by rw [e] at hab; omega) h
theorem Lc_perm {C : Nat → Nat → Int32} {L : Nat → Nat → Int64} {n : Nat} (hn : n ≤ 40) (h : BD C n) (a : Int32) : (LcC C L n a).Perm ((List.range 240).filter (fun s => decide (s / 6 < n) && itmC C L a s)) := by
  refine (List.perm_ext_iff_of_nodup ?_ ?_).mpr (fun s => ?_)
  · exact List.Pairwise.filter _ (pw_nodup (Lp_pw h))
  · exact List.Pairwise.filter _ List.nodup_range
  · unfold LcC
    rw [List.mem_filter, List.mem_filter, Lp_mem h, List.mem_range, Bool.and_eq_true, decide_eq_true_iff]
    constructor
    · rintro ⟨x, y⟩
      exact ⟨by omega, x, y⟩
    · rintro ⟨_, x, y⟩
      exact ⟨x, y⟩
theorem Lc_pw {C : Nat → Nat → Int32} {L : Nat → Nat → Int64} {n : Nat} (h : BD C n) (a : Int32) : (LcC C L n a).Pairwise (fun a b => decide (keyC C a < keyC C b) = true) := List.Pairwise.imp (fun {_ _} hab => decide_eq_true hab) (List.Pairwise.filter _ (Lp_pw h))
theorem Lc_len {C : Nat → Nat → Int32} {L : Nat → Nat → Int64} {n : Nat} (hn : n ≤ 40) (a : Int32) : (LcC C L n a).length ≤ 240 := by
  refine Nat.le_trans (List.length_filter_le _ _) ?_
  unfold LpC
  rw [List.length_map, List.length_range']
  omega
theorem Lc_mem {C : Nat → Nat → Int32} {L : Nat → Nat → Int64} {n : Nat} (h : BD C n) {a : Int32} {s : Nat} : s ∈ LcC C L n a ↔ s / 6 < n ∧ itmC C L a s = true := by
  unfold LcC
  rw [List.mem_filter, Lp_mem h]
/-! the k-th item on both sides -/
def fnd : List Nat → Nat → Int32 → Int32
  | [], _, _ => -1
  | s :: t, c, x => if nI c = x then nI s else fnd t (c + 1) x
theorem fnd_none : ∀ (l : List Nat) (c : Nat) (x : Int32), (∀ i, i < l.length → ¬ nI (c + i) = x) → fnd l c x = -1
  | [], _, _, _ => rfl
  | s :: t, c, x, h => by
    have h0 := h 0 (by simp)
    rw [Nat.add_zero] at h0
    unfold fnd
    rw [if_neg h0]
    refine fnd_none t (c + 1) x (fun i hi => ?_)
    have := h (i + 1) (by simp; omega)
    rw [show c + (i + 1) = c + 1 + i by omega] at this
    exact this
theorem fnd_some : ∀ (l : List Nat) (c : Nat) (i : Nat) (h : i < l.length), c + l.length < 1000 → fnd l c (nI (c + i)) = nI l[i]
  | [], _, i, h, _ => absurd h (Nat.not_lt_zero _)
  | s :: t, c, 0, _, _ => by
    unfold fnd
    rw [Nat.add_zero, if_pos rfl, List.getElem_cons_zero]
  | s :: t, c, i + 1, h, hc => by
    have hi : i < t.length := by simpa using h
    have hc' : c + (t.length + 1) < 1000 := by simpa using hc
    unfold fnd
    rw [if_neg (fun z => by have := (nI_eq (by omega) (by omega)).mp z; omega), show c + (i + 1) = c + 1 + i by omega, fnd_some t (c + 1) i hi (by omega), List.getElem_cons_succ]
theorem itemOf_L {S : hS} (hw : wfC S) (a x : Int32) {m : Nat} (hm : m ≤ 240) : ∀ (k f c p : Nat), p + k = m → k < f → Sum.elim (fun q => q) (fun (qq : Int32 × Int32) => (fun (y9_3 : Int32) (y9_5 : Int32) => (-1)) qq.1 qq.2) (LJO_itemOf_14 f S a x (nI c) (nI m) (nI p)) = fnd ((LpC S.1 p k).filter (itmC S.1 S.2 a)) c x
  | 0, 0, c, p, _, h => absurd h (Nat.not_lt_zero _)
  | 0, f + 1, c, p, hp, _ => by
    rw [LJO_itemOf_14_s, if_pos (nI_le (by omega) (by omega))]
    rfl
  | k + 1, 0, c, p, _, h => absurd h (Nat.not_lt_zero _)
  | k + 1, f + 1, c, p, hp, hf => by
    have el : LpC S.1 p (k + 1) = sltC S.1 p :: LpC S.1 (p + 1) k := by
      unfold LpC
      rw [List.range'_succ, List.map_cons]
    rw [LJO_itemOf_14_s, if_neg (nI_ge (by omega) (by omega)), itemAt_C hw a (by omega), nI_1, nI_1, el]
    by_cases d : itmC S.1 S.2 a (sltC S.1 p) = true
    · have nm : ¬ nI (sltC S.1 p) = -1 := fun z => by
        have hb := hw.2.2.2.2.2.2.1 (p / 6) (by omega)
        unfold rg at hb
        have hc := cl_toInt hb.1
        have := congrArg Int32.toInt z
        rw [nI_toInt (by unfold sltC byC; omega), tl_m1] at this
        omega
      rw [if_pos d, if_neg nm, List.filter_cons_of_pos d]
      unfold fnd
      by_cases e : nI c = x
      · rw [if_pos e, if_pos e]
        rfl
      · rw [if_neg e, if_neg e]
        exact itemOf_L hw a x hm k f (c + 1) (p + 1) (by omega) (by omega)
    · rw [if_neg d, if_pos rfl, List.filter_cons_of_neg d]
      exact itemOf_L hw a x hm k f c (p + 1) (by omega) (by omega)
theorem itemOf_C {S : hS} (hw : wfC S) (a x : Int32) {n : Nat} (hn : S.1 10 0 = nI n) (h40 : n ≤ 40) : FJO_itemOf S a x = fnd (LcC S.1 S.2 n a) 0 x := by
  have h := itemOf_L hw a x (m := 6 * n) (by omega) (6 * n) 300 0 0 (by omega) (by omega)
  rw [FJO_itemOf_e, hn, nI_x6 (by omega)]
  rw [nI_0] at h
  exact h
theorem cnt24_L {S : hS} (a x : Int32) (s : Nat) : ∀ (k f c o : Nat), o + k = 240 → k < f → (LMO_itemAt_24 f S a x (nI s) (nI c) (nI o)).1 = nI (c + (List.range' o k).countP (fun o => decide (¬ FMO_isItemOf S (nI o) a = 0 ∧ ¬ FMO_isBefore S (nI o) (nI s) = 0)))
  | 0, 0, c, o, _, h => absurd h (Nat.not_lt_zero _)
  | 0, f + 1, c, o, ho, _ => by
    rw [LMO_itemAt_24_s, if_pos (by rw [show (240 : Int32) = nI 240 by decide]; exact nI_le (by omega) (by omega))]
    rfl
  | k + 1, 0, c, o, _, h => absurd h (Nat.not_lt_zero _)
  | k + 1, f + 1, c, o, ho, hf => by
    rw [LMO_itemAt_24_s, if_neg (by rw [show (240 : Int32) = nI 240 by decide]; exact nI_ge (by omega) (by omega)), nI_1, nI_1, nI_0a, List.range'_succ, List.countP_cons]
    by_cases d : FMO_isItemOf S (nI o) a = 0
    · rw [if_pos d, cnt24_L a x s k f c (o + 1) (by omega) (by omega), if_neg (by rw [decide_eq_true_iff]; exact fun z => z.1 d)]
      rfl
    · rw [if_neg d]
      by_cases e : FMO_isBefore S (nI o) (nI s) = 0
      · rw [if_pos e, cnt24_L a x s k f c (o + 1) (by omega) (by omega), if_neg (by rw [decide_eq_true_iff]; exact fun z => z.2 e)]
        rfl
      · rw [if_neg e, cnt24_L a x s k f (c + 1) (o + 1) (by omega) (by omega), if_pos (by rw [decide_eq_true_iff]; exact ⟨d, e⟩)]
        congr 1
        omega
theorem itemAt_L {S : hS} (a x : Int32) : ∀ (k f s : Nat), s + k = 240 → k < f → Sum.elim (fun q => q) (fun (qq : Int32) => (fun (y23_3 : Int32) => (-1)) qq) (LMO_itemAt_2 f S a x (nI s)) = (match (List.range' s k).find? (fun s => decide (¬ FMO_isItemOf S (nI s) a = 0 ∧ (LMO_itemAt_24 300 S a x (nI s) 0 0).1 = x)) with | some s => nI s | none => -1)
  | 0, 0, s, _, h => absurd h (Nat.not_lt_zero _)
  | 0, f + 1, s, hs, _ => by
    rw [LMO_itemAt_2_s, if_pos (by rw [show (240 : Int32) = nI 240 by decide]; exact nI_le (by omega) (by omega))]
    rfl
  | k + 1, 0, s, _, h => absurd h (Nat.not_lt_zero _)
  | k + 1, f + 1, s, hs, hf => by
    rw [LMO_itemAt_2_s, if_neg (by rw [show (240 : Int32) = nI 240 by decide]; exact nI_ge (by omega) (by omega)), nI_1, List.range'_succ]
    by_cases d : FMO_isItemOf S (nI s) a = 0
    · rw [if_pos d, itemAt_L a x k f (s + 1) (by omega) (by omega), List.find?_cons_of_neg (by rw [decide_eq_true_iff]; exact fun z => z.1 d)]
    · rw [if_neg d]
      dsimp only
      by_cases e : (LMO_itemAt_24 300 S a x (nI s) 0 0).1 = x
      · rw [if_pos e, List.find?_cons_of_pos (by rw [decide_eq_true_iff]; exact ⟨d, e⟩)]
        rfl
      · rw [if_neg e, itemAt_L a x k f (s + 1) (by omega) (by omega), List.find?_cons_of_neg (by rw [decide_eq_true_iff]; exact fun z => e z.2)]
/-- the reference's k-th item is the class's -/
theorem itemAt_M {S' : hS} {n : Nat} {C : Nat → Nat → Int32} {L : Nat → Nat → Int64} (hR : Ra C (S'.2 50)) (h : Rk n C L (S'.2 50)) (a x : Int32) : FMO_itemAt S' a x = fnd (LcC C L n a) 0 x := by
  have hn := h.1.2.1
  have hB := h.2.2.2.2
  have io : ∀ s, s < 240 → (¬ FMO_isItemOf S' (nI s) a = 0 ↔ (decide (s / 6 < n) && itmC C L a s) = true) := fun s hs => by
    rw [isItemOf_M hR h a hs]
    by_cases c : (decide (s / 6 < n) && itmC C L a s) = true
    · rw [if_pos c]
      exact ⟨fun _ => c, fun _ => by decide⟩
    · rw [if_neg c]
      exact ⟨fun z => absurd rfl z, fun z => absurd z c⟩
  have cn : ∀ s, s < 240 → ¬ FMO_isItemOf S' (nI s) a = 0 → ∃ i, ∃ hi : i < (LcC C L n a).length, (LcC C L n a)[i] = s ∧ (LMO_itemAt_24 300 S' a x (nI s) 0 0).1 = nI i := fun s hs hi => by
    have it := (io s hs).mp hi
    have sn : s / 6 < n := by
      rw [Bool.and_eq_true, decide_eq_true_iff] at it
      exact it.1
    have q := cnt24_L (S := S') a x s 240 300 0 0 (by omega) (by omega)
    rw [nI_0, Nat.zero_add, ← List.range_eq_range'] at q
    have e : (List.range 240).countP (fun o => decide (¬ FMO_isItemOf S' (nI o) a = 0 ∧ ¬ FMO_isBefore S' (nI o) (nI s) = 0)) = (List.range 240).countP (fun o => (decide (o / 6 < n) && itmC C L a o) && decide (keyC C o < keyC C s)) := by
      refine List.countP_congr (fun o ho => ?_)
      have ho' := List.mem_range.mp ho
      rw [decide_eq_true_iff, Bool.and_eq_true, decide_eq_true_iff, io o ho']
      constructor
      · rintro ⟨u, v⟩
        refine ⟨u, ?_⟩
        have on : o / 6 < n := by
          rw [Bool.and_eq_true, decide_eq_true_iff] at u
          exact u.1
        rw [isBefore_M h on sn] at v
        exact Classical.byContradiction (fun z => v (if_neg z))
      · rintro ⟨u, v⟩
        refine ⟨u, ?_⟩
        have on : o / 6 < n := by
          rw [Bool.and_eq_true, decide_eq_true_iff] at u
          exact u.1
        rw [isBefore_M h on sn, if_pos v]
        decide
    rw [e] at q
    have rk := (rank_perm (it := fun o => decide (o / 6 < n) && itmC C L a o) (R := fun a b => decide (keyC C a < keyC C b)) (fun a => decide_eq_false (Int.lt_irrefl _)) (fun a b hab => decide_eq_false (by have := of_decide_eq_true hab; omega)) (Lc_perm hn hB a) (Lc_pw hB a) hs it (k := (List.range 240).countP (fun o => (decide (o / 6 < n) && itmC C L a o) && decide (keyC C o < keyC C s)))).mp rfl
    obtain ⟨hi1, hi2⟩ := List.getElem?_eq_some_iff.mp rk
    exact ⟨_, hi1, hi2, q⟩
  have len := Lc_len (L := L) hn a (C := C)
  have r := itemAt_L (S := S') a x 240 300 0 (by omega) (by omega)
  rw [nI_0] at r
  rw [FMO_itemAt_e]
  refine Eq.trans r ?_
  cases hf : (List.range' 0 240).find? (fun s => decide (¬ FMO_isItemOf S' (nI s) a = 0 ∧ (LMO_itemAt_24 300 S' a x (nI s) 0 0).1 = x)) with
  | some s =>
    have hp0 := List.find?_some hf
    have hp := of_decide_eq_true hp0
    have hs := List.mem_range'_1.mp (List.mem_of_find?_eq_some hf)
    obtain ⟨i, hi, e1, e2⟩ := cn s (by omega) hp.1
    have := fnd_some (LcC C L n a) 0 i hi (by omega)
    rw [Nat.zero_add, ← e2, hp.2, e1] at this
    exact this.symm
  | none =>
    refine (fnd_none _ _ _ (fun i hi z => ?_)).symm
    have hnone := List.find?_eq_none.mp hf
    have hm' := (Lc_mem (L := L) (a := a) hB).mp (List.getElem_mem hi)
    have s240 : (LcC C L n a)[i] < 240 := by omega
    have it : (decide ((LcC C L n a)[i] / 6 < n) && itmC C L a (LcC C L n a)[i]) = true := by
      rw [Bool.and_eq_true, decide_eq_true_iff]
      exact hm'
    have ii := (io _ s240).mpr it
    obtain ⟨j, hj, f1, f2⟩ := cn _ s240 ii
    have nd : (LcC C L n a).Nodup := List.Pairwise.filter _ (pw_nodup (Lp_pw hB))
    have ij : j = i := (List.getElem_inj nd).mp f1
    refine hnone _ (List.mem_range'_1.mpr ⟨Nat.zero_le _, by omega⟩) (decide_eq_true ⟨ii, ?_⟩)
    rw [f2, ij, ← z, Nat.zero_add]
/-! what a payment takes from dues -/
def mnL (r u : Int64) : Int64 := if u < r then u else r
def payL : List Nat → Int64 → (Nat → Int64) → Nat → Int64
  | [], _, d => d
  | s :: t, r, d => if 0 < r ∧ 0 < d s then payL t (r - mnL r (d s)) (fun j => if j = s then d s - mnL r (d s) else d j) else payL t r d
theorem payL_0 : ∀ (l : List Nat) (r : Int64) (d : Nat → Int64), ¬ 0 < r → payL l r d = d
  | [], _, _, _ => rfl
  | s :: t, r, d, h => by
    unfold payL
    rw [if_neg (fun z => h z.1)]
    exact payL_0 t r d h
theorem payL_cg : ∀ (l : List Nat) (r : Int64) (d d' : Nat → Int64) (j : Nat), (∀ t, t ∈ l → d t = d' t) → d j = d' j → payL l r d j = payL l r d' j
  | [], _, _, _, _, _, h => h
  | s :: t, r, d, d', j, h, hj => by
    have hs := h s (List.mem_cons_self)
    unfold payL
    rw [← hs]
    by_cases c : 0 < r ∧ 0 < d s
    · rw [if_pos c, if_pos c]
      refine payL_cg t _ _ _ j (fun x hx => ?_) ?_
      · by_cases e : x = s
        · rw [if_pos e, if_pos e]
        · rw [if_neg e, if_neg e]
          exact h x (List.mem_cons_of_mem _ hx)
      · by_cases e : j = s
        · rw [if_pos e, if_pos e]
        · rw [if_neg e, if_neg e]
          exact hj
    · rw [if_neg c, if_neg c]
      exact payL_cg t r d d' j (fun x hx => h x (List.mem_cons_of_mem _ hx)) hj
theorem mn_bd {r u : Int64} (hr : 0 < r) (hu : 0 < u) : 0 ≤ (u - mnL r u).toInt ∧ (u - mnL r u).toInt ≤ u.toInt ∧ 0 < u.toInt := by
  have b1 := u.toInt_lt
  rw [Int64.lt_iff_toInt_lt, tq_0] at hr hu
  unfold mnL
  by_cases c : u < r
  · rw [if_pos c]
    rw [Int64.sub_self, tq_0]
    omega
  · rw [if_neg c]
    rw [Int64.lt_iff_toInt_lt] at c
    rw [tj_sub rfl rfl (by omega) (by omega)]
    omega
theorem payL_bd : ∀ (l : List Nat) (r : Int64) (d : Nat → Int64) (j : Nat), payL l r d j = d j ∨ (j ∈ l ∧ 0 ≤ (payL l r d j).toInt ∧ (payL l r d j).toInt ≤ (d j).toInt ∧ 0 < (d j).toInt)
  | [], _, _, _ => Or.inl rfl
  | s :: t, r, d, j => by
    unfold payL
    by_cases c : 0 < r ∧ 0 < d s
    · rw [if_pos c]
      have b := mn_bd c.1 c.2
      have ih := payL_bd t (r - mnL r (d s)) (fun j => if j = s then d s - mnL r (d s) else d j) j
      by_cases e : j = s
      · rw [if_pos e] at ih
        subst e
        rcases ih with h | h
        · rw [h]
          exact Or.inr ⟨List.mem_cons_self, b.1, b.2.1, b.2.2⟩
        · exact Or.inr ⟨List.mem_cons_self, h.2.1, by omega, b.2.2⟩
      · rw [if_neg e] at ih
        rcases ih with h | h
        · exact Or.inl h
        · exact Or.inr ⟨List.mem_cons_of_mem _ h.1, h.2⟩
    · rw [if_neg c]
      rcases payL_bd t r d j with h | h
      · exact Or.inl h
      · exact Or.inr ⟨List.mem_cons_of_mem _ h.1, h.2⟩
theorem not_m1 {u : Int64} (h : 0 ≤ u.toInt) : ¬ u = -1 := fun e => by
  rw [e, show (-1 : Int64).toInt = -1 by decide] at h
  omega
theorem kg_f (S : hS) (x y : Int32) : (FJO_keepGift S x y).2 = S.2 ∧ ∀ a, a ≠ 10 → a ≠ 18 → a ≠ 19 → (FJO_keepGift S x y).1 a = S.1 a := by
  rw [FJO_keepGift_e]
  split
  · exact ⟨rfl, fun _ _ _ _ => rfl⟩
  · refine ⟨rfl, fun a h1 h2 h3 => ?_⟩
    funext j
    rw [sI_1, if_neg (fun z => h1 z.1), sI_1, if_neg (fun z => h3 z.1), sI_1, if_neg (fun z => h2 z.1)]
theorem slt_cg {C C' : Nat → Nat → Int32} (h : C' 14 = C 14) : sltC C' = sltC C := by
  funext p
  unfold sltC byC
  rw [h]
theorem itm_cg {C C' : Nat → Nat → Int32} {L L' : Nat → Nat → Int64} {a : Int32} (h13 : C' 13 = C 13) (h15 : C' 15 = C 15) (h : ∀ s, (L' 17 s = -1 ↔ L 17 s = -1)) : itmC C' L' a = itmC C L a := by
  funext s
  unfold itmC
  rw [h13, h15]
  exact decide_eq_decide.mpr (by rw [h s])
theorem pay15 (a x1 : Int32) (x3 : Int64) (g : Nat → Nat) (it : Nat → Bool) {m : Nat} (hm : m ≤ 240) : ∀ (k f p : Nat) (S : hS) (r : Int64), p + k = m → k < f → wfC S → sltC S.1 = g → itmC S.1 S.2 a = it → ∀ j, (LJO_payItems_15 f S x1 a x3 r (nI m) (nI p)).2.2.2 17 j = payL (((List.range' p k).map g).filter it) r (S.2 17) j
  | 0, 0, p, S, r, _, h, _, _, _, _ => absurd h (Nat.not_lt_zero _)
  | 0, f + 1, p, S, r, hp, _, _, _, _, j => by
    rw [LJO_payItems_15_s, if_pos (nI_le (by omega) (by omega))]
    rfl
  | k + 1, 0, p, S, r, _, h, _, _, _, _ => absurd h (Nat.not_lt_zero _)
  | k + 1, f + 1, p, S, r, hp, hf, hw, hg, hi, j => by
    rw [LJO_payItems_15_s, if_neg (nI_ge (by omega) (by omega))]
    by_cases c0 : r ≤ 0
    · rw [if_pos c0, payL_0 _ _ _ (by rw [Int64.le_iff_toInt_le] at c0; rw [Int64.lt_iff_toInt_lt]; omega)]
    have r0 : 0 < r := by
      rw [Int64.le_iff_toInt_le] at c0
      rw [Int64.lt_iff_toInt_lt]
      omega
    rw [if_neg c0, itemAt_C hw a (by omega), nI_1, hg, hi, List.range'_succ, List.map_cons]
    by_cases d : it (g p) = true
    · have g240 : g p < 240 := by
        have hb := hw.2.2.2.2.2.2.1 (p / 6) (by omega)
        unfold rg at hb
        have hc := cl_toInt hb.1
        rw [← hg]
        unfold sltC byC
        omega
      have nm : ¬ nI (g p) = -1 := fun z => by
        have := congrArg Int32.toInt z
        rw [nI_toInt (by omega), tl_m1] at this
        omega
      rw [if_pos d, if_neg nm, nI_clamp (n := g p) (by omega), List.filter_cons_of_pos d]
      unfold payL
      by_cases e : S.2 17 (g p) ≤ 0
      · rw [if_pos e, if_neg (fun z => by have z2 := z.2; rw [Int64.le_iff_toInt_le] at e; rw [Int64.lt_iff_toInt_lt] at z2; omega)]
        exact pay15 a x1 x3 g it hm k f (p + 1) S r (by omega) (by omega) hw hg hi j
      · have u0 : 0 < S.2 17 (g p) := by
          rw [Int64.le_iff_toInt_le] at e
          rw [Int64.lt_iff_toInt_lt]
          omega
        rw [if_neg e, if_pos (show 0 < r ∧ 0 < S.2 17 (g p) from ⟨r0, u0⟩)]
        have b := mn_bd r0 u0
        have kg := kg_f (sL S 17 (g p) (S.2 17 (g p) - mnL r (S.2 17 (g p)))) x1 (nI (g p))
        have e17 : (FJO_keepGift (sL S 17 (g p) (S.2 17 (g p) - mnL r (S.2 17 (g p)))) x1 (nI (g p))).2 17 = fun j => if j = g p then S.2 17 (g p) - mnL r (S.2 17 (g p)) else S.2 17 j := by
          rw [kg.1]
          funext i
          rw [sL_2]
          by_cases q : i = g p
          · rw [if_pos ⟨rfl, q⟩, if_pos q]
          · rw [if_neg (fun z => q z.2), if_neg q]
        have ih := pay15 a x1 x3 g it hm k f (p + 1) (FJO_keepGift (sL S 17 (g p) (S.2 17 (g p) - mnL r (S.2 17 (g p)))) x1 (nI (g p))) (r - mnL r (S.2 17 (g p))) (by omega) (by omega) (wf_keepGift (wfC_L hw (by decide)) _ _) ((slt_cg (kg.2 14 (by decide) (by decide) (by decide))).trans hg) ((itm_cg (kg.2 13 (by decide) (by decide) (by decide)) (kg.2 15 (by decide) (by decide) (by decide)) (fun s => by
          rw [e17]
          dsimp only
          by_cases q : s = g p
          · rw [if_pos q, q]
            exact ⟨fun z => absurd z (not_m1 b.1), fun z => absurd z (not_m1 (by omega))⟩
          · rw [if_neg q])).trans hi) j
        rw [e17] at ih
        exact ih
    · rw [if_neg d, if_pos rfl, List.filter_cons_of_neg d]
      exact pay15 a x1 x3 g it hm k f (p + 1) S r (by omega) (by omega) hw hg hi j
/-- the dues behind a payment, class -/
theorem payItems_C {S : hS} (hw : wfC S) (x1 a : Int32) (x3 : Int64) {n : Nat} (hn : S.1 10 0 = nI n) (h40 : n ≤ 40) (j : Nat) : (FJO_payItems S x1 a x3).2 17 j = payL (LcC S.1 S.2 n a) x3 (S.2 17) j := by
  have h := pay15 a x1 x3 (sltC S.1) (itmC S.1 S.2 a) (m := 6 * n) (by omega) (6 * n) 300 0 S x3 (by omega) (by omega) hw rfl rfl j
  rw [FJO_payItems_e, hn, nI_x6 (by omega)]
  rw [nI_0] at h
  exact h
theorem pay15_l : ∀ (f : Nat) (S : hS) (x1 a : Int32) (x3 r : Int64) (m p : Int32) (k : Nat), k ≠ 17 → (LJO_payItems_15 f S x1 a x3 r m p).2.2.2 k = S.2 k
  | 0, S, x1, a, x3, r, m, p, k, _ => rfl
  | f + 1, S, x1, a, x3, r, m, p, k, hk => by
    rw [LJO_payItems_15_s]
    repeat' split
    all_goals first | rfl | exact pay15_l f _ _ _ _ _ _ _ k hk | skip
    all_goals (rw [pay15_l f _ _ _ _ _ _ _ k hk, (kg_f _ _ _).1]; funext j; rw [sL_2, if_neg (fun z => hk z.1)])
theorem pay15_i : ∀ (f : Nat) (S : hS) (x1 a : Int32) (x3 r : Int64) (m p : Int32), (LJO_payItems_15 f S x1 a x3 r m p).2.2.1 10 0 = S.1 10 0
  | 0, S, x1, a, x3, r, m, p => rfl
  | f + 1, S, x1, a, x3, r, m, p => by
    rw [LJO_payItems_15_s]
    repeat' split
    all_goals first | rfl | exact pay15_i f _ _ _ _ _ _ _ | skip
    all_goals
      rw [pay15_i f _ _ _ _ _ _ _, FJO_keepGift_e]
      split
      · rfl
      · rw [sI_1, if_neg (by omega), sI_1, if_neg (by omega), sI_1, if_neg (by omega)]
        rfl
theorem payItems_f (S : hS) (x1 a : Int32) (x3 : Int64) : (∀ k, k ≠ 17 → (FJO_payItems S x1 a x3).2 k = S.2 k) ∧ (FJO_payItems S x1 a x3).1 10 0 = S.1 10 0 := by
  rw [FJO_payItems_e]
  exact ⟨fun k hk => pay15_l 300 S x1 a x3 x3 _ 0 k hk, pay15_i 300 S x1 a x3 x3 _ 0⟩
/-! what the reference's steps do to its array -/
def up5 (M : Nat → Int64) (i : Nat) (v : Int64) : Nat → Int64 := fun j => if j = i then v else M j
theorem up5_e (M : Nat → Int64) (i : Nat) (v : Int64) : up5 M i v i = v := if_pos rfl
theorem up5_n {M : Nat → Int64} {i j : Nat} {v : Int64} (h : j ≠ i) : up5 M i v j = M j := if_neg h
theorem sL50 (S : hS) (i : Nat) (v : Int64) : (sL S 50 i v).2 50 = up5 (S.2 50) i v := by
  funext j
  rw [sL_2]
  unfold up5
  by_cases c : j = i
  · rw [if_pos ⟨rfl, c⟩, if_pos c]
  · rw [if_neg (fun z => c z.2), if_neg c]
theorem sI50 (S : hS) (k i : Nat) (v : Int32) : (sI S k i v).2 50 = S.2 50 := rfl
theorem addEntry_M {S : hS} {n : Nat} (h1 : (S.2 50 1).toInt = (n : Int)) (hn : n < 40) (d : Int64) (k : Int32) : (FMO_addEntry S d k).1 = nI n ∧ (FMO_addEntry S d k).2.2 50 = up5 (up5 (up5 (S.2 50) (100 + n) d) (180 + n) k.toInt64) 1 (S.2 50 1 + 1) := by
  have e32 : (S.2 50 1).toInt32 = nI n := by
    apply Int32.toInt_inj.mp
    rw [ti_32 h1 (by omega) (by omega), nI_toInt (by omega)]
  rw [FMO_addEntry_e, e32, ixC (c := 100) 100 rfl (by omega) (by omega), ixC (c := 180) 180 rfl (by omega) (by omega)]
  refine ⟨rfl, ?_⟩
  show (sL (sL (sL S 50 (100 + n) d) 50 (180 + n) k.toInt64) 50 1 _).2 50 = _
  rw [sL50, sL50, sL50, up5_n (show 1 ≠ 180 + n by omega), up5_n (show 1 ≠ 100 + n by omega)]
theorem addRow_M {S : hS} {e r : Nat} (he : e < 40) (hr : (S.2 50 (260 + e)).toInt = (r : Int)) (h6 : r < 6) (x2 : Int32) (x3 : Int64) : (FMO_addRow S (nI e) x2 x3).2 50 = up5 (up5 (up5 (S.2 50) (300 + (6 * e + r)) x2.toInt64) (540 + (6 * e + r)) x3) (260 + e) (S.2 50 (260 + e) + 1) := by
  have i260 : (260 + nI e).toNatClampNeg = 260 + e := ixC (c := 260) 260 rfl (by omega) (by omega)
  have e32 : (S.2 50 (260 + e)).toInt32 = nI r := by
    apply Int32.toInt_inj.mp
    rw [ti_32 hr (by omega) (by omega), nI_toInt (by omega)]
  have es : 6 * nI e + nI r = nI (6 * e + r) := by rw [nI_6x (by omega), nI_add]
  rw [FMO_addRow_e, i260, e32, es, ixC (c := 300) 300 rfl (by omega) (by omega), ixC (c := 540) 540 rfl (by omega) (by omega), sL50, sL50, sL50, up5_n (show 260 + e ≠ 540 + (6 * e + r) by omega), up5_n (show 260 + e ≠ 300 + (6 * e + r) by omega)]
/-- a row, class -/
theorem addRow_C {S : hS} {n e r : Nat} (hn : S.1 10 0 = nI n) (h40 : n ≤ 40) (he : e < n) (hr : S.1 13 e = nI r) (h6 : r < 6) (x2 : Int32) (x3 : Int64) : FJO_addRow S (nI e) x2 x3 = (1, sI (sL (sL (sI S 15 (6 * e + r) x2) 16 (6 * e + r) x3) 17 (6 * e + r) (-1)) 13 e (nI (r + 1))) := by
  rw [FJO_addRow_e, if_neg (nI_pos (by omega)), hn, if_neg (nI_ge he (by omega)), nI_clamp (n := e) (by omega), hr, if_pos (by rw [show (6 : Int32) = nI 6 by decide]; exact nI_lt h6 (by omega)), nI_x6 (by omega), nI_add, nI_clamp (n := 6 * e + r) (by omega), nI_1]
theorem addRow_eff {S : hS} {n e r : Nat} (hn : S.1 10 0 = nI n) (h40 : n ≤ 40) (he : e < n) (hr : S.1 13 e = nI r) (h6 : r < 6) (x2 : Int32) (x3 : Int64) : ∃ T : hS, FJO_addRow S (nI e) x2 x3 = (1, T) ∧ Same [13, 15, 16, 17] S T ∧ (∀ j, T.1 13 j = if j = e then nI (r + 1) else S.1 13 j) ∧ (∀ j, T.1 15 j = if j = 6 * e + r then x2 else S.1 15 j) ∧ (∀ j, T.2 16 j = if j = 6 * e + r then x3 else S.2 16 j) ∧ (∀ j, T.2 17 j = if j = 6 * e + r then -1 else S.2 17 j) := by
  have e1 := addRow_C hn h40 he hr h6 x2 x3
  have fT := fr_FJO_addRow S (nI e) x2 x3
  rw [e1] at fT
  refine ⟨_, e1, fT, fun j => ?_, fun j => ?_, fun j => ?_, fun j => ?_⟩
  · rw [sI_1]
    by_cases w : j = e
    · rw [if_pos ⟨rfl, w⟩, if_pos w]
    · rw [if_neg (fun z => w z.2), if_neg w, sL_1, sL_1, sI_1, if_neg (by omega)]
  · rw [sI_1, if_neg (by omega), sL_1, sL_1, sI_1]
    by_cases w : j = 6 * e + r
    · rw [if_pos ⟨rfl, w⟩, if_pos w]
    · rw [if_neg (fun z => w z.2), if_neg w]
  · rw [sI_2, sL_2, if_neg (by omega), sL_2]
    by_cases w : j = 6 * e + r
    · rw [if_pos ⟨rfl, w⟩, if_pos w]
    · rw [if_neg (fun z => w z.2), if_neg w]
      rfl
  · rw [sI_2, sL_2]
    by_cases w : j = 6 * e + r
    · rw [if_pos ⟨rfl, w⟩, if_pos w]
    · rw [if_neg (fun z => w z.2), if_neg w, sL_2, if_neg (by omega)]
      rfl
theorem addRow_C6 {S : hS} {n e : Nat} (hn : S.1 10 0 = nI n) (h40 : n ≤ 40) (he : e < n) (hr : S.1 13 e = nI 6) (x2 : Int32) (x3 : Int64) : FJO_addRow S (nI e) x2 x3 = (0, S) := by
  rw [FJO_addRow_e, if_neg (nI_pos (by omega)), hn, if_neg (nI_ge he (by omega)), nI_clamp (n := e) (by omega), hr, if_neg (by decide)]
/-! the payment's loop, reference -/
theorem fnd_lt {l : List Nat} {k : Nat} (hl : l.length ≤ 240) (hm : ∀ s, s ∈ l → s < 240) : (fnd l 0 (nI k) < 0 ↔ ¬ k < l.length) ∨ ¬ k < 2000 := by
  by_cases hk : k < 2000
  · refine Or.inl ?_
    by_cases c : k < l.length
    · have := fnd_some l 0 k c (by omega)
      rw [Nat.zero_add] at this
      rw [this]
      have := hm _ (List.getElem_mem c)
      exact ⟨fun z => absurd z (nI_pos (by omega)), fun z => absurd c z⟩
    · rw [fnd_none l 0 (nI k) (fun i hi z => by
        rw [Nat.zero_add] at z
        have := (nI_eq (by omega) (by omega)).mp z
        omega)]
      exact ⟨fun _ => c, fun _ => by decide⟩
  · exact Or.inr hk
/-- what the payment's loop leaves alone -/
def lowM (M M' : Nat → Int64) : Prop := ∀ j, j < 780 ∨ 1180 ≤ j → M' j = M j
theorem pay185 (a : Int32) (x2 x4 : Int64) (cash : Int32) {e : Nat} (he : e < 40) (l : List Nat) (hl : l.length ≤ 240) (hm : ∀ s, s ∈ l → s < 240) (nd : l.Nodup) (M0 : Nat → Int64) (HI : ∀ S : hS, (∀ j, j < 780 → S.2 50 j = M0 j) → ∀ x, FMO_itemAt S a x = fnd l 0 x) : ∀ (t f k : Nat) (S : hS) (r : Int64), k + t = l.length → t < f → (∀ j, j < 780 → S.2 50 j = M0 j) → (∀ s, s < 240 → (LMO_payment_185 f S a x2 x4 cash (nI e) r (nI k)).2.2.2 50 (780 + s) = payL (l.drop k) r (fun s => S.2 50 (780 + s)) s) ∧ lowM (S.2 50) ((LMO_payment_185 f S a x2 x4 cash (nI e) r (nI k)).2.2.2 50)
  | t, 0, k, S, r, _, h, _ => absurd h (Nat.not_lt_zero _)
  | 0, f + 1, k, S, r, hk, _, h0 => by
    have fl := (fnd_lt (k := k) hl hm).resolve_right (fun z => z (by omega))
    rw [LMO_payment_185_s, HI S h0, if_pos (fl.mpr (by omega)), List.drop_eq_nil_of_le (by omega)]
    exact ⟨fun _ _ => rfl, fun _ _ => rfl⟩
  | t + 1, f + 1, k, S, r, hk, hf, h0 => by
    have kl : k < l.length := by omega
    have fl := (fnd_lt (k := k) hl hm).resolve_right (fun z => z (by omega))
    have fs := fnd_some l 0 k kl (by omega)
    rw [Nat.zero_add] at fs
    have s240 := hm _ (List.getElem_mem kl)
    have i780 : (780 + nI l[k]).toNatClampNeg = 780 + l[k] := ixC (c := 780) 780 rfl (by omega) (by omega)
    have e60 : nI l[k] / 60 = nI (l[k] / 60) := by
      apply Int32.toInt_inj.mp
      rw [ti_div (nI_toInt (by omega)) tl_60 (by omega) (by omega), nI_toInt (by omega)]
      omega
    have e4 : 4 * nI e = nI (4 * e) := by
      apply Int32.toInt_inj.mp
      rw [ti_mul tl_4 (nI_toInt (by omega)) (by omega) (by omega), nI_toInt (by omega)]
      omega
    have i1020 : ((1020 + (4 * nI e)) + nI l[k] / 60).toNatClampNeg = 1020 + (4 * e + l[k] / 60) := by
      rw [e60, e4, show (1020 : Int32) = nI 1020 by decide, nI_add, nI_add, nI_clamp (by omega)]
      omega
    have dr : l.drop k = l[k] :: l.drop (k + 1) := List.drop_eq_getElem_cons kl
    rw [LMO_payment_185_s, HI S h0, fs, if_neg (nI_pos (by omega)), i780, i1020, nI_1, dr]
    have skip : ¬ (0 < r ∧ 0 < S.2 50 (780 + l[k])) → (∀ s, s < 240 → (LMO_payment_185 f S a x2 x4 cash (nI e) r (nI (k + 1))).2.2.2 50 (780 + s) = payL (l[k] :: l.drop (k + 1)) r (fun s => S.2 50 (780 + s)) s) ∧ lowM (S.2 50) ((LMO_payment_185 f S a x2 x4 cash (nI e) r (nI (k + 1))).2.2.2 50) := fun c => by
      have ih := pay185 a x2 x4 cash he l hl hm nd M0 HI t f (k + 1) S r (by omega) (by omega) h0
      unfold payL
      rw [if_neg c]
      exact ih
    have pay : ∀ g w : Int64, 0 < r ∧ 0 < S.2 50 (780 + l[k]) → g = mnL r (S.2 50 (780 + l[k])) → (∀ s, s < 240 → (LMO_payment_185 f (sL (sL S 50 (780 + l[k]) (S.2 50 (780 + l[k]) - g)) 50 (1020 + (4 * e + l[k] / 60)) w) a x2 x4 cash (nI e) (r - g) (nI (k + 1))).2.2.2 50 (780 + s) = payL (l[k] :: l.drop (k + 1)) r (fun s => S.2 50 (780 + s)) s) ∧ lowM (S.2 50) ((LMO_payment_185 f (sL (sL S 50 (780 + l[k]) (S.2 50 (780 + l[k]) - g)) 50 (1020 + (4 * e + l[k] / 60)) w) a x2 x4 cash (nI e) (r - g) (nI (k + 1))).2.2.2 50) := fun g w c hg => by
      have ih := pay185 a x2 x4 cash he l hl hm nd M0 HI t f (k + 1) (sL (sL S 50 (780 + l[k]) (S.2 50 (780 + l[k]) - g)) 50 (1020 + (4 * e + l[k] / 60)) w) (r - g) (by omega) (by omega) (fun j hj => by
        rw [sL50, sL50, up5_n (by omega), up5_n (by omega)]
        exact h0 j hj)
      unfold payL
      rw [if_pos c, ← hg]
      refine ⟨fun s hs => ?_, fun j hj => ?_⟩
      · rw [ih.1 s hs]
        refine payL_cg _ _ _ _ s (fun x hx => ?_) ?_
        · have x240 := hm x (List.mem_of_mem_drop hx)
          rw [sL50, sL50, up5_n (by omega)]
          unfold up5
          by_cases q : x = l[k]
          · rw [if_pos (by omega), if_pos q]
          · rw [if_neg (by omega), if_neg q]
        · rw [sL50, sL50, up5_n (by omega)]
          unfold up5
          by_cases q : s = l[k]
          · rw [if_pos (by omega), if_pos q]
          · rw [if_neg (by omega), if_neg q]
      · rw [ih.2 j hj, sL50, sL50, up5_n (by omega), up5_n (by omega)]
    have z0 : (0 : Int64).toInt = 0 := by decide
    by_cases d : S.2 50 (780 + l[k]) ≤ r
    · rw [if_pos d]
      by_cases g : S.2 50 (780 + l[k]) ≤ 0
      · rw [if_pos g]
        exact skip (fun z => by
          have z2 := z.2
          rw [Int64.le_iff_toInt_le] at g
          rw [Int64.lt_iff_toInt_lt] at z2
          omega)
      · rw [if_neg g]
        rw [Int64.le_iff_toInt_le] at d g
        refine pay _ _ ⟨by rw [Int64.lt_iff_toInt_lt]; omega, by rw [Int64.lt_iff_toInt_lt]; omega⟩ ?_
        unfold mnL
        by_cases q : S.2 50 (780 + l[k]) < r
        · rw [if_pos q]
        · rw [if_neg q]
          rw [Int64.lt_iff_toInt_lt] at q
          exact Int64.toInt_inj.mp (by omega)
    · rw [if_neg d]
      by_cases g : r ≤ 0
      · rw [if_pos g]
        exact skip (fun z => by
          have z1 := z.1
          rw [Int64.le_iff_toInt_le] at g
          rw [Int64.lt_iff_toInt_lt] at z1
          omega)
      · rw [if_neg g]
        rw [Int64.le_iff_toInt_le] at d g
        refine pay _ _ ⟨by rw [Int64.lt_iff_toInt_lt]; omega, by rw [Int64.lt_iff_toInt_lt]; omega⟩ ?_
        unfold mnL
        rw [if_neg (by rw [Int64.lt_iff_toInt_lt]; omega)]
/-! steps of the relation of the journals -/
theorem ss {n e r : Nat} (h : e < n) (hr : r < 6) : 6 * e + r < 6 * n := by omega
theorem Rk_add {n : Nat} {C C' : Nat → Nat → Int32} {L L' : Nat → Nat → Int64} {M M' : Nat → Int64} (h : Rk n C L M) (hn : n < 40) (h10 : C' 10 0 = nI (n + 1)) (h2 : C' 2 0 = C 2 0) (h3 : ∀ k, C' 3 k = C 3 k) (hC : ∀ e, e < n → C' 11 e = C 11 e ∧ C' 12 e = C 12 e ∧ C' 13 e = C 13 e) (h15 : ∀ s, s < 6 * n → C' 15 s = C 15 s ∧ L' 16 s = L 16 s ∧ L' 17 s = L 17 s) (m1 : (M' 1).toInt = (n : Int) + 1) (hM : ∀ j, 100 ≤ j → j < 780 → j ≠ 100 + n → j ≠ 140 + n → j ≠ 180 + n → j ≠ 220 + n → j ≠ 260 + n → ¬ (300 + 6 * n ≤ j ∧ j < 306 + 6 * n) → ¬ (540 + 6 * n ≤ j ∧ j < 546 + 6 * n) → M' j = M j) (hnew : RE (C' 11 n) (C' 12 n) (C' 13 n) (M' (100 + n)) (M' (140 + n)) (M' (180 + n)) (M' (220 + n)) (M' (260 + n))) (hrow : ∀ r : Nat, r < 6 → (r : Int) < (C' 13 n).toInt → RS (C' 2 0) (C' 12 n) (kdC C' (6 * n + r)) (C' 15 (6 * n + r)) (L' 16 (6 * n + r)) (L' 17 (6 * n + r)) (M' (300 + (6 * n + r))) (M' (540 + (6 * n + r)))) (hB : BD C' (n + 1)) : Rk (n + 1) C' L' M' := by
  obtain ⟨⟨h0, _, h1, hc8⟩, hE, hZ, hS', _⟩ := h
  refine ⟨⟨h10, by omega, by rw [m1]; omega, by rw [h2]; exact hc8⟩, fun e he => ?_, fun e he he40 => ?_, fun e r he hr hc => ?_, hB⟩
  · by_cases c : e = n
    · rw [c]
      exact hnew
    · obtain ⟨a1, a2, a3⟩ := hC e (by omega)
      rw [a1, a2, a3, hM (100 + e) (by omega) (by omega) (by omega) (by omega) (by omega) (by omega) (by omega) (by omega) (by omega), hM (140 + e) (by omega) (by omega) (by omega) (by omega) (by omega) (by omega) (by omega) (by omega) (by omega), hM (180 + e) (by omega) (by omega) (by omega) (by omega) (by omega) (by omega) (by omega) (by omega) (by omega), hM (220 + e) (by omega) (by omega) (by omega) (by omega) (by omega) (by omega) (by omega) (by omega) (by omega), hM (260 + e) (by omega) (by omega) (by omega) (by omega) (by omega) (by omega) (by omega) (by omega) (by omega)]
      exact hE e (by omega)
  · rw [hM (140 + e) (by omega) (by omega) (by omega) (by omega) (by omega) (by omega) (by omega) (by omega) (by omega), hM (220 + e) (by omega) (by omega) (by omega) (by omega) (by omega) (by omega) (by omega) (by omega) (by omega), hM (260 + e) (by omega) (by omega) (by omega) (by omega) (by omega) (by omega) (by omega) (by omega) (by omega)]
    exact hZ e (by omega) he40
  · by_cases c : e = n
    · subst c
      exact hrow r hr hc
    · obtain ⟨a1, a2, a3⟩ := hC e (by omega)
      have s6 : 6 * e + r < 6 * n := by omega
      obtain ⟨b1, b2, b3⟩ := h15 _ s6
      rw [a3] at hc
      have q := hS' e r (by omega) hr hc
      have ek : kdC C' (6 * e + r) = kdC C (6 * e + r) := by
        unfold kdC
        rw [b1, h3]
      rw [h2, a2, ek, b1, b2, b3, hM (300 + (6 * e + r)) (by omega) (by omega) (by omega) (by omega) (by omega) (by omega) (by omega) (by omega) (by omega), hM (540 + (6 * e + r)) (by omega) (by omega) (by omega) (by omega) (by omega) (by omega) (by omega) (by omega) (by omega)]
      exact q
theorem Rd_add {n : Nat} {C C' : Nat → Nat → Int32} {L L' : Nat → Nat → Int64} {M M' : Nat → Int64} (h : Rd n C L M) (hC : ∀ e, e < n → C' 13 e = C 13 e) (h17 : ∀ s, s < 6 * n → L' 17 s = L 17 s ∧ M' (780 + s) = M (780 + s)) (hnew : ∀ r : Nat, r < 6 → (r : Int) < (C' 13 n).toInt → L' 17 (6 * n + r) = -1) : Rd (n + 1) C' L' M' := by
  intro e r he hr hc hu
  by_cases c : e = n
  · subst c
    exact absurd (hnew r hr hc) hu
  · obtain ⟨a, b⟩ := h17 (6 * e + r) (by omega)
    rw [a] at hu ⊢
    rw [b]
    rw [hC e (by omega)] at hc
    exact h e r (by omega) hr hc hu
theorem Rk_row {n : Nat} {C C' : Nat → Nat → Int32} {L L' : Nat → Nat → Int64} {M M' : Nat → Int64} (h : Rk n C L M) {e0 r0 : Nat} (he : e0 < n) (st : C 12 e0 = 0) (hr0 : C 13 e0 = nI r0) (h6 : r0 < 6) {a : Int32} {c : Int64} (ha : 0 ≤ a.toInt ∧ a.toInt < (C 2 0).toInt) (hc : ¬ c = 0 ∧ -100000000 ≤ c.toInt ∧ c.toInt ≤ 100000000) (h10 : C' 10 0 = C 10 0) (h2 : C' 2 0 = C 2 0) (h3 : ∀ k, C' 3 k = C 3 k) (hC : ∀ e, C' 11 e = C 11 e ∧ C' 12 e = C 12 e ∧ C' 14 e = C 14 e ∧ C' 13 e = if e = e0 then nI (r0 + 1) else C 13 e) (h15 : ∀ s, C' 15 s = (if s = 6 * e0 + r0 then a else C 15 s) ∧ L' 16 s = (if s = 6 * e0 + r0 then c else L 16 s) ∧ L' 17 s = (if s = 6 * e0 + r0 then -1 else L 17 s)) (hM : ∀ j, M' j = up5 (up5 (up5 M (300 + (6 * e0 + r0)) a.toInt64) (540 + (6 * e0 + r0)) c) (260 + e0) (M (260 + e0) + 1) j) : Rk n C' L' M' := by
  obtain ⟨⟨h0, hn, h1, hc8⟩, hE, hZ, hS', hB⟩ := h
  have m260 := (hE e0 he).2.2.1
  rw [hr0, nI_toInt (by omega)] at m260
  have mlo : ∀ j, j ≠ 260 + e0 → j ≠ 300 + (6 * e0 + r0) → j ≠ 540 + (6 * e0 + r0) → M' j = M j := fun j a1 a2 a3 => by rw [hM, up5_n a1, up5_n a3, up5_n a2]
  refine ⟨⟨by rw [h10]; exact h0, hn, by rw [mlo 1 (by omega) (by omega) (by omega)]; exact h1, by rw [h2]; exact hc8⟩, fun e he' => ?_, fun e he' he40 => ?_, fun e r he' hr hc' => ?_, BD_of hn (fun k _ => (hC k).1) (fun k _ => (hC k).2.2.1) hB⟩
  · have q := hE e he'
    obtain ⟨a1, a2, _, a4⟩ := hC e
    rw [a1, a2, a4, mlo (100 + e) (by omega) (by omega) (by omega), mlo (140 + e) (by omega) (by omega) (by omega), mlo (180 + e) (by omega) (by omega) (by omega), mlo (220 + e) (by omega) (by omega) (by omega)]
    by_cases d : e = e0
    · subst d
      rw [if_pos rfl, hM (260 + e), up5_e]
      refine ⟨q.1, q.2.1, ?_, q.2.2.2⟩
      rw [nI_toInt (by omega), tj_add rfl tq_1 (by omega) (by omega)]
      omega
    · rw [if_neg d, mlo (260 + e) (by omega) (by omega) (by omega)]
      exact q
  · rw [mlo (140 + e) (by omega) (by omega) (by omega), mlo (220 + e) (by omega) (by omega) (by omega), mlo (260 + e) (by omega) (by omega) (by omega)]
    exact hZ e he' he40
  · obtain ⟨_, a2, _, a4⟩ := hC e
    obtain ⟨b1, b2, b3⟩ := h15 (6 * e + r)
    by_cases d : 6 * e + r = 6 * e0 + r0
    · have de : e = e0 := by omega
      have dr : r = r0 := by omega
      subst de
      subst dr
      rw [if_pos rfl] at b1 b2 b3
      rw [h2, a2, b1, b2, b3, st, hM (300 + (6 * e + r)), up5_n (by omega), up5_n (by omega), up5_e, hM (540 + (6 * e + r)), up5_n (by omega), up5_e]
      refine ⟨⟨ha.1, ha.2, l32 a⟩, ⟨rfl, hc⟩, fun z => ?_, fun _ => rfl⟩
      rcases z.1 with z | z <;> exact absurd z (by decide)
    · rw [if_neg d] at b1 b2 b3
      have hc2 : (r : Int) < (C 13 e).toInt := by
        rw [a4] at hc'
        by_cases de : e = e0
        · subst de
          rw [if_pos rfl, nI_toInt (by omega)] at hc'
          rw [hr0, nI_toInt (by omega)]
          omega
        · rw [if_neg de] at hc'
          exact hc'
      have q := hS' e r he' hr hc2
      have ek : kdC C' (6 * e + r) = kdC C (6 * e + r) := by
        unfold kdC
        rw [b1, h3]
      rw [h2, a2, ek, b1, b2, b3, mlo (300 + (6 * e + r)) (by omega) (by omega) (by omega), mlo (540 + (6 * e + r)) (by omega) (by omega) (by omega)]
      exact q
theorem Rd_row {n : Nat} {C C' : Nat → Nat → Int32} {L L' : Nat → Nat → Int64} {M M' : Nat → Int64} (h : Rd n C L M) {e0 r0 : Nat} (hr0 : C 13 e0 = nI r0) (h6 : r0 < 6) (hC : ∀ e, C' 13 e = if e = e0 then nI (r0 + 1) else C 13 e) (h17 : ∀ s, L' 17 s = if s = 6 * e0 + r0 then -1 else L 17 s) (hM : ∀ s, s < 240 → M' (780 + s) = M (780 + s)) (hn : n ≤ 40) : Rd n C' L' M' := by
  intro e r he hr hc hu
  rw [h17] at hu ⊢
  by_cases d : 6 * e + r = 6 * e0 + r0
  · rw [if_pos d] at hu
    exact absurd rfl hu
  · rw [if_neg d] at hu ⊢
    rw [hM _ (by omega)]
    refine h e r he hr ?_ hu
    rw [hC] at hc
    by_cases de : e = e0
    · subst de
      rw [if_pos rfl, nI_toInt (by omega)] at hc
      rw [hr0, nI_toInt (by omega)]
      omega
    · rw [if_neg de] at hc
      exact hc
/-- dues that fell -/
theorem Rk_pay {n : Nat} {C : Nat → Nat → Int32} {L L' : Nat → Nat → Int64} {M : Nat → Int64} (h : Rk n C L M) (h16 : ∀ s, L' 16 s = L 16 s) (h17 : ∀ s, L' 17 s = L 17 s ∨ (0 ≤ (L' 17 s).toInt ∧ (L' 17 s).toInt ≤ (L 17 s).toInt ∧ 0 < (L 17 s).toInt)) : Rk n C L' M := by
  refine ⟨h.1, h.2.1, h.2.2.1, fun e r he hr hc => ?_, h.2.2.2.2⟩
  have q := h.2.2.2.1 e r he hr hc
  rw [h16]
  rcases h17 (6 * e + r) with z | z
  · rw [z]
    exact q
  · have nm : ¬ L 17 (6 * e + r) = -1 := not_m1 (by omega)
    have ip := (itP_u q).mpr nm
    have b := q.2.2.1 ip
    exact ⟨q.1, q.2.1, fun _ => ⟨z.1, by omega⟩, fun w => absurd ip w⟩
/-- an entry's state goes from open to posted, or from posted to reversed -/
theorem Rk_state {n : Nat} {C C' : Nat → Nat → Int32} {L L' : Nat → Nat → Int64} {M M' : Nat → Int64} (h : Rk n C L M) {e0 : Nat} (he : e0 < n) (v : Int32) (h10 : C' 10 0 = C 10 0) (h2 : C' 2 0 = C 2 0) (h3 : ∀ k, C' 3 k = C 3 k) (hC : ∀ e, C' 11 e = C 11 e ∧ C' 13 e = C 13 e ∧ C' 14 e = C 14 e ∧ C' 12 e = if e = e0 then v else C 12 e) (h15 : ∀ s, C' 15 s = C 15 s ∧ L' 16 s = L 16 s) (h17 : ∀ s, s / 6 ≠ e0 → L' 17 s = L 17 s) (hM : ∀ j, j < 780 → j ≠ 140 + e0 → j ≠ 220 + e0 → M' j = M j) (hst : (v = 1 ∧ M' (140 + e0) = 1 ∧ M (180 + e0) = 0 ∧ M' (220 + e0) = 0) ∨ (v = 4 ∧ M' (140 + e0) = 1 ∧ M (180 + e0) = 0 ∧ M' (220 + e0) = 1)) (hrow : ∀ r : Nat, r < 6 → (r : Int) < (C 13 e0).toInt → RS (C 2 0) (C 12 e0) (kdC C (6 * e0 + r)) (C 15 (6 * e0 + r)) (L 16 (6 * e0 + r)) (L 17 (6 * e0 + r)) (M (300 + (6 * e0 + r))) (M (540 + (6 * e0 + r))) → (itP v (kdC C (6 * e0 + r)) (L 16 (6 * e0 + r)) → 0 ≤ (L' 17 (6 * e0 + r)).toInt ∧ (L' 17 (6 * e0 + r)).toInt ≤ (L 16 (6 * e0 + r)).toInt) ∧ (¬ itP v (kdC C (6 * e0 + r)) (L 16 (6 * e0 + r)) → L' 17 (6 * e0 + r) = -1)) : Rk n C' L' M' := by
  obtain ⟨⟨h0, hn, h1, hc8⟩, hE, hZ, hS', hB⟩ := h
  refine ⟨⟨by rw [h10]; exact h0, hn, by rw [hM 1 (by omega) (by omega) (by omega)]; exact h1, by rw [h2]; exact hc8⟩, fun e he' => ?_, fun e he' he40 => ?_, fun e r he' hr hc' => ?_, BD_of hn (fun k _ => (hC k).1) (fun k _ => (hC k).2.2.1) hB⟩
  · have q := hE e he'
    obtain ⟨a1, a2, _, a4⟩ := hC e
    rw [a1, a2, a4, hM (100 + e) (by omega) (by omega) (by omega), hM (180 + e) (by omega) (by omega) (by omega), hM (260 + e) (by omega) (by omega) (by omega)]
    by_cases d : e = e0
    · subst d
      rw [if_pos rfl]
      refine ⟨q.1, q.2.1, q.2.2.1, ?_⟩
      rcases hst with z | z
      · exact Or.inr (Or.inl z)
      · exact Or.inr (Or.inr (Or.inr (Or.inr z)))
    · rw [if_neg d, hM (140 + e) (by omega) (by omega) (by omega), hM (220 + e) (by omega) (by omega) (by omega)]
      exact q
  · rw [hM (140 + e) (by omega) (by omega) (by omega), hM (220 + e) (by omega) (by omega) (by omega), hM (260 + e) (by omega) (by omega) (by omega)]
    exact hZ e he' he40
  · obtain ⟨_, a2, _, a4⟩ := hC e
    obtain ⟨b1, b2⟩ := h15 (6 * e + r)
    rw [a2] at hc'
    have q := hS' e r he' hr hc'
    have ek : kdC C' (6 * e + r) = kdC C (6 * e + r) := by
      unfold kdC
      rw [b1, h3]
    rw [h2, a4, ek, b1, b2, hM (300 + (6 * e + r)) (by omega) (by omega) (by omega), hM (540 + (6 * e + r)) (by omega) (by omega) (by omega)]
    by_cases d : e = e0
    · subst d
      rw [if_pos rfl]
      have w := hrow r hr hc' q
      exact ⟨q.1, q.2.1, w.1, w.2⟩
    · rw [if_neg d, h17 _ (by omega)]
      exact q
/-! the journals' relation, now and kept -/
def Pj (j : Nat) : Prop := j = 1 ∨ (100 ≤ j ∧ j < 1020)
def Q (n : Nat) (C : Nat → Nat → Int32) (L : Nat → Nat → Int64) (M : Nat → Int64) : Prop := Rk n C L M ∧ Rd n C L M
def Rj (S : hS) : Prop := (∃ n, Q n S.1 S.2 (S.2 50)) ∧ (¬ S.1 49 2 = 0 → ∃ n, Q n (kp S).1 (kp S).2 (S.2 51))
theorem Rk_pt {n : Nat} {C C' : Nat → Nat → Int32} {L L' : Nat → Nat → Int64} {M M' : Nat → Int64} (h2 : C' 2 0 = C 2 0) (h10 : C' 10 0 = C 10 0) (h3 : ∀ j, j < 8 → C' 3 j = C 3 j) (h11 : ∀ j, j < 40 → C' 11 j = C 11 j) (h12 : ∀ j, j < 40 → C' 12 j = C 12 j) (h13 : ∀ j, j < 40 → C' 13 j = C 13 j) (h14 : ∀ j, j < 40 → C' 14 j = C 14 j) (h15 : ∀ j, j < 240 → C' 15 j = C 15 j) (h16 : ∀ j, j < 240 → L' 16 j = L 16 j) (h17 : ∀ j, j < 240 → L' 17 j = L 17 j) (hM : ∀ j, Pj j → M' j = M j) (h : Rk n C L M) : Rk n C' L' M' := by
  obtain ⟨⟨h0, hn, h1, hc8⟩, hE, hZ, hS', hB⟩ := h
  have m : ∀ j, 100 ≤ j → j < 1020 → M' j = M j := fun j a b => hM j (Or.inr ⟨a, b⟩)
  refine ⟨⟨by rw [h10]; exact h0, hn, by rw [hM 1 (Or.inl rfl)]; exact h1, by rw [h2]; exact hc8⟩, fun e he => ?_, fun e he he4 => ?_, fun e r he hr hc => ?_, BD_of hn h11 h14 hB⟩
  · rw [h11 e (by omega), h12 e (by omega), h13 e (by omega), m (100 + e) (by omega) (by omega), m (140 + e) (by omega) (by omega), m (180 + e) (by omega) (by omega), m (220 + e) (by omega) (by omega), m (260 + e) (by omega) (by omega)]
    exact hE e he
  · rw [m (140 + e) (by omega) (by omega), m (220 + e) (by omega) (by omega), m (260 + e) (by omega) (by omega)]
    exact hZ e he he4
  · rw [h13 e (by omega)] at hc
    have q := hS' e r he hr hc
    have a0 := q.1.1
    have a1 := q.1.2.1
    have ek : kdC C' (6 * e + r) = kdC C (6 * e + r) := by
      unfold kdC
      rw [h15 _ (by omega), h3 _ (by have := cl_toInt a0; omega)]
    rw [h2, h12 e (by omega), ek, h15 _ (by omega), h16 _ (by omega), h17 _ (by omega), m (300 + (6 * e + r)) (by omega) (by omega), m (540 + (6 * e + r)) (by omega) (by omega)]
    exact q
theorem Q_pt {n : Nat} {C C' : Nat → Nat → Int32} {L L' : Nat → Nat → Int64} {M M' : Nat → Int64} (h2 : C' 2 0 = C 2 0) (h10 : C' 10 0 = C 10 0) (h3 : ∀ j, j < 8 → C' 3 j = C 3 j) (h11 : ∀ j, j < 40 → C' 11 j = C 11 j) (h12 : ∀ j, j < 40 → C' 12 j = C 12 j) (h13 : ∀ j, j < 40 → C' 13 j = C 13 j) (h14 : ∀ j, j < 40 → C' 14 j = C 14 j) (h15 : ∀ j, j < 240 → C' 15 j = C 15 j) (h16 : ∀ j, j < 240 → L' 16 j = L 16 j) (h17 : ∀ j, j < 240 → L' 17 j = L 17 j) (hM : ∀ j, Pj j → M' j = M j) (h : Q n C L M) : Q n C' L' M' := by
  refine ⟨Rk_pt h2 h10 h3 h11 h12 h13 h14 h15 h16 h17 hM h.1, fun e r he hr hc hu => ?_⟩
  have hn := h.1.1.2.1
  rw [h13 e (by omega)] at hc
  rw [h17 _ (by omega)] at hu ⊢
  rw [hM (780 + (6 * e + r)) (Or.inr (by omega))]
  exact h.2 e r he hr hc hu
/-- the cells of the journal -/
def JL : List Nat := [2, 3, 10, 11, 12, 13, 14, 15, 16, 17]
theorem Q_cells {n : Nat} {C C' : Nat → Nat → Int32} {L L' : Nat → Nat → Int64} {M M' : Nat → Int64} (hC : ∀ a, a ∈ JL → C' a = C a ∧ L' a = L a) (hM : ∀ j, Pj j → M' j = M j) (h : Q n C L M) : Q n C' L' M' :=
  Q_pt (congrFun (hC 2 (by decide)).1 0) (congrFun (hC 10 (by decide)).1 0) (fun j _ => congrFun (hC 3 (by decide)).1 j) (fun j _ => congrFun (hC 11 (by decide)).1 j) (fun j _ => congrFun (hC 12 (by decide)).1 j) (fun j _ => congrFun (hC 13 (by decide)).1 j) (fun j _ => congrFun (hC 14 (by decide)).1 j) (fun j _ => congrFun (hC 15 (by decide)).1 j) (fun j _ => congrFun (hC 16 (by decide)).2 j) (fun j _ => congrFun (hC 17 (by decide)).2 j) hM h
/-- the kept half -/
theorem Rj_step {ks ks' : List Nat} {S S1 S2 : hS} (hR : Rj S) (h1 : Same ks S S1) (d1 : (∀ a ∈ JL, a + 24 ∉ ks) ∧ 49 ∉ ks ∧ 51 ∉ ks) (h2 : Same ks' S1 S2) (d2 : (∀ a ∈ JL, a + 24 ∉ ks') ∧ 51 ∉ ks') (hq : Sm S1 S2) (hn : ∃ n, Q n S2.1 S2.2 (S2.2 50)) : Rj S2 := by
  refine ⟨hn, fun h => ?_⟩
  have h0 : ¬ S.1 49 2 = 0 := by rw [hq.1, (h1 49 d1.2.1).1] at h; exact h
  obtain ⟨n, q⟩ := hR.2 h0
  refine ⟨n, Q_cells (C := (kp S).1) (L := (kp S).2) (M := S.2 51) (fun a ha => ⟨?_, ?_⟩) (fun j _ => ?_) q⟩
  · exact (h2 (a + 24) (d2.1 a ha)).1.trans (h1 (a + 24) (d1.1 a ha)).1
  · exact (h2 (a + 24) (d2.1 a ha)).2.trans (h1 (a + 24) (d1.1 a ha)).2
  · exact congrFun ((h2 51 d2.2).2.trans (h1 51 d1.2.2).2) j
/-- the reference's journal is as it was -/
def Mj (S S' : hS) : Prop := ∀ j, Pj j → S'.2 50 j = S.2 50 j
theorem Mj.rf {S : hS} : Mj S S := fun _ _ => rfl
theorem Mj.i {S S' : hS} {k j : Nat} {x : Int32} (h : Mj S S') : Mj S (sI S' k j x) := h
theorem Mj.l {S S' : hS} {j : Nat} {v : Int64} (h : Mj S S') (hj : j ≠ 1 ∧ (j < 100 ∨ 1020 ≤ j)) : Mj S (sL S' 50 j v) := fun i hi => by
  unfold Pj at hi
  rw [sL_2, if_neg (by omega)]
  exact h i hi
theorem Mj_of {ks : List Nat} {S S' : hS} (h : Same ks S S') (hd : 50 ∉ ks) : Mj S S' := fun j _ => congrFun (h 50 hd).2 j
theorem Mj_at {S S' : hS} {c w : Int32} {v : Int64} (p : Int) (h : Mj S S') (hc : c.toInt = p) (h0 : 0 ≤ w.toInt) (h1 : w.toInt < 20) (hp : (10 ≤ p ∧ p ≤ 80) ∨ (1180 ≤ p ∧ p ≤ 1200)) : Mj S (sL S' 50 (c + w).toNatClampNeg v) := h.l (by
  rw [offI hc h0 (by omega) (by omega) (by omega)]
  omega)
theorem Mj_dun {S : hS} (hw : wfM S) (x1 : Int32) (x2 : Int64) : Mj S (FMO_dun S x1 x2).2 := by
  rw [FMO_dun_e]
  by_cases c : FMO_isHousehold (sI S 49 4 0) x1 = 0
  · rw [if_pos c]; exact Mj.rf.i
  rw [if_neg c]
  have r := rg8 (hhM (wfM_I hw) c)
  have r8 := hhM (wfM_I hw) c
  unfold rg at r8
  repeat' split
  all_goals dsimp only
  all_goals first | with_reducible exact Mj.rf.i | with_reducible exact Mj_at 20 Mj.rf.i (by decide) r.1 (by omega) (by omega) | with_reducible exact Mj_at 30 (Mj_at 20 Mj.rf.i (by decide) r.1 (by omega) (by omega)) (by decide) r.1 (by omega) (by omega)
theorem Mj_hardship {S : hS} (hw : wfM S) (x1 : Int32) (x2 x4 : Int64) : Mj S (FMO_hardship S x1 x2 x4).2 := by
  rw [FMO_hardship_e]
  by_cases c : FMO_isHousehold (sI S 49 4 0) x1 = 0
  · rw [if_pos c]; exact Mj.rf.i
  rw [if_neg c]
  have r8 := hhM (wfM_I hw) c
  unfold rg at r8
  split
  · exact Mj_at 60 (Mj_at 50 (Mj_at 40 Mj.rf.i (by decide) r8.1 (by omega) (by omega)) (by decide) r8.1 (by omega) (by omega)) (by decide) r8.1 (by omega) (by omega)
  · exact Mj.rf.i
theorem Mj_instal {S : hS} (hw : wfM S) (x1 x2 : Int32) : Mj S (FMO_instal S x1 x2).2 := by
  rw [FMO_instal_e]
  have hb := hw.2.2.1
  have e32 := t32 hb.1 hb.2 (by omega)
  repeat' split
  all_goals dsimp only
  all_goals first | with_reducible exact Mj.rf.i | exact (Mj_at 1190 (Mj_at 1180 Mj.rf.i (by decide) (by rw [e32]; omega) (by rw [e32]; omega) (by omega)) (by decide) (by rw [e32]; omega) (by rw [e32]; omega) (by omega)).l (by omega)
theorem Mj_rate {S : hS} (x1 x3 : Int64) : Mj S (FMO_rate S x1 x3).2 := by
  rw [FMO_rate_e]
  repeat' split
  all_goals dsimp only
  all_goals first | with_reducible exact Mj.rf.i | exact ((Mj.rf.i).l (by omega)).l (by omega)
theorem Mj_move {S : hS} (hw : wfM S) (x1 x2 : Int32) (x3 : Int64) : Mj S (FMO_move S x1 x2 x3).2 := by
  rw [FMO_move_e]
  by_cases c : FMO_isHousehold (sI S 49 4 0) x1 = 0
  · rw [if_pos c]; exact Mj.rf.i
  rw [if_neg c]
  by_cases d : FMO_isHousehold (sI S 49 4 0) x2 = 0
  · rw [if_pos d]; exact Mj.rf.i
  rw [if_neg d]
  have r1 := hhM (wfM_I hw) c
  have r2 := hhM (wfM_I hw) d
  unfold rg at r1 r2
  repeat' split
  all_goals dsimp only
  all_goals first | with_reducible exact Mj.rf.i | exact Mj_at 80 (Mj_at 70 Mj.rf.i (by decide) r1.1 (by omega) (by omega)) (by decide) r2.1 (by omega) (by omega)
theorem Mj_closeMonth {S : hS} (x1 : Int32) : Mj S (FMO_closeMonth S x1).2 := by
  rw [FMO_closeMonth_e]
  repeat' split
  all_goals dsimp only
  all_goals first | with_reducible exact Mj.rf.i | exact (Mj.rf.i).l (by omega)
theorem Mj_account {S : hS} (hw : wfM S) (x1 : Int32) : Mj S (FMO_account S x1).2 := by
  rw [FMO_account_e]
  have hb := hw.1
  have e32 := t32 hb.1 hb.2 (by omega)
  repeat' split
  all_goals dsimp only
  all_goals first | with_reducible exact Mj.rf.i | exact (Mj_at 10 Mj.rf.i (by decide) (by rw [e32]; omega) (by rw [e32]; omega) (by omega)).l (by omega)
/-- a call that leaves the journals alone -/
theorem Rj_other {ks ks' : List Nat} {S S1 S2 : hS} (hR : Rj S) (h1 : Same ks S S1) (d1 : (∀ a ∈ JL, a ∉ ks ∧ a + 24 ∉ ks) ∧ 49 ∉ ks ∧ 50 ∉ ks ∧ 51 ∉ ks) (h2 : Same ks' S1 S2) (d2 : (∀ a ∈ JL, a ∉ ks' ∧ a + 24 ∉ ks') ∧ 51 ∉ ks') (hq : Sm S1 S2) (hM : Mj S1 S2) : Rj S2 := by
  refine Rj_step hR h1 ⟨fun a ha => (d1.1 a ha).2, d1.2.1, d1.2.2.2⟩ h2 ⟨fun a ha => (d2.1 a ha).2, d2.2⟩ hq ?_
  obtain ⟨n, q⟩ := hR.1
  refine ⟨n, Q_cells (fun a ha => ⟨?_, ?_⟩) (fun j hj => ?_) q⟩
  · exact (h2 a (d2.1 a ha).1).1.trans (h1 a (d1.1 a ha).1).1
  · exact (h2 a (d2.1 a ha).1).2.trans (h1 a (d1.1 a ha).1).2
  · exact (hM j hj).trans (congrFun (h1 50 d1.2.2.1).2 j)
theorem Rj_fault {S : hS} (hR : Rj S) : Rj (sI S 49 4 0) := Rj_other (ks := []) hR Same.rf (by decide) (Same49 S) (by decide) (Sm.i Sm.rf (Or.inr (by decide))) Mj.rf.i
-- batches
theorem bat_f {S : hS} (hR : Rb S) : (∀ a, a ∈ JL → (FMO_batch (FHL_batch S).2).2.1 a = S.1 a ∧ (FMO_batch (FHL_batch S).2).2.2 a = S.2 a) ∧ (FMO_batch (FHL_batch S).2).2.2 50 = S.2 50 := by
  have hf := fr_FHL_batch S
  have hm := fr_FMO_batch (FHL_batch S).2
  refine ⟨fun a ha => ⟨(hm a (by revert a; decide)).1.trans (hf a (by revert a; decide)).1, (hm a (by revert a; decide)).2.trans (hf a (by revert a; decide)).2⟩, (hm 50 (by decide)).2.trans (hf 50 (by decide)).2⟩
theorem bat_k {S : hS} (hR : Rb S) (c : S.1 0 2 = 0) : (∀ a, a ∈ JL → (FMO_batch (FHL_batch S).2).2.1 (a + 24) = (FBO_copyFrom_25_1 S).1 (a + 24) ∧ (FMO_batch (FHL_batch S).2).2.2 (a + 24) = (FBO_copyFrom_25_1 S).2 (a + 24)) ∧ ∀ j, j < 1220 → (FMO_batch (FHL_batch S).2).2.2 51 j = S.2 50 j := by
  have hm := fr_FMO_batch (FHL_batch S).2
  have hd : (FHL_batch S).2 = sI (sI (FBO_copyFrom_25_1 S) 0 2 1) 0 3 ((FBO_copyFrom_25_1 S).1 0 3 + 1) := by rw [FHL_batch_e, if_pos c]
  have h50 := (fr_FHL_batch S 50 (by decide)).2
  have h49 := congrFun (fr_FHL_batch S 49 (by decide)).1 2
  refine ⟨fun a ha => ⟨?_, ?_⟩, ?_⟩
  · rw [(hm (a + 24) (by revert a; decide)).1, hd]
    funext j
    rw [sI_1, if_neg (by omega), sI_1, if_neg (by omega)]
  · rw [(hm (a + 24) (by revert a; decide)).2, hd]
    rfl
  · intro j hj
    generalize (FHL_batch S).2 = S1 at h50 h49 ⊢
    rw [FMO_batch_e, if_pos (by rw [h49, ← hR.1]; exact c)]
    have h := bat16 1300 (sI S1 49 4 0) 0 (by omega) (by omega) j
    rw [nI_0] at h
    rw [if_pos ⟨Nat.zero_le _, hj⟩, sI_2, h50] at h
    generalize LMO_batch_16 1300 (sI S1 49 4 0) 0 = q at h ⊢
    exact h
theorem Rj_batch {S : hS} (hR : Rb S) (hJ : Rj S) : Rj (FMO_batch (FHL_batch S).2).2 := by
  have f := bat_f hR
  refine ⟨?_, ?_⟩
  · obtain ⟨n, q⟩ := hJ.1
    exact ⟨n, Q_cells f.1 (fun j _ => congrFun f.2 j) q⟩
  · by_cases c : S.1 0 2 = 0
    · intro _
      obtain ⟨n, q⟩ := hJ.1
      obtain ⟨k, e51⟩ := bat_k hR c
      refine ⟨n, Q_pt (C := S.1) (L := S.2) (M := S.2 50) ?_ ?_ (fun j hj => ?_) (fun j hj => ?_) (fun j hj => ?_) (fun j hj => ?_) (fun j hj => ?_) (fun j hj => ?_) (fun j hj => ?_) (fun j hj => ?_) (fun j hj => e51 j (by unfold Pj at hj; omega)) q⟩
      · exact (congrFun (k 2 (by decide)).1 0).trans (cB_2_0 S)
      · exact (congrFun (k 10 (by decide)).1 0).trans (cB_10_0 S)
      · exact (congrFun (k 3 (by decide)).1 j).trans (cB_3 S hj)
      · exact (congrFun (k 11 (by decide)).1 j).trans (cB_11 S hj)
      · exact (congrFun (k 12 (by decide)).1 j).trans (cB_12 S hj)
      · exact (congrFun (k 13 (by decide)).1 j).trans (cB_13 S hj)
      · exact (congrFun (k 14 (by decide)).1 j).trans (cB_14 S hj)
      · exact (congrFun (k 15 (by decide)).1 j).trans (cB_15 S hj)
      · exact (congrFun (k 16 (by decide)).2 j).trans (cB_16 S hj)
      · exact (congrFun (k 17 (by decide)).2 j).trans (cB_17 S hj)
    · have e : FHL_batch S = (-1, S) := by rw [FHL_batch_e, if_neg c]
      rw [e]
      dsimp only
      have g : FMO_batch S = (-1, sI S 49 4 0) := by rw [FMO_batch_e, if_neg (by rw [← hR.1]; exact c)]
      rw [g]
      exact (Rj_fault hJ).2
theorem Rj_endBatch {S : hS} (hR : Rb S) (hJ : Rj S) (x1 : Int32) : Rj (FMO_endBatch (FHL_endBatch S x1).2 x1).2 := by
  have h49 := congrFun (fr_FHL_endBatch S x1 49 (by decide)).1 2
  by_cases c : S.1 0 2 = 0
  · have e : FHL_endBatch S x1 = (0, S) := by rw [FHL_endBatch_e, if_pos c]
    rw [e]
    dsimp only
    have f : FMO_endBatch S x1 = (0, sI S 49 4 0) := by rw [FMO_endBatch_e, if_pos (by rw [← hR.1]; exact c)]
    rw [f]
    exact Rj_fault hJ
  · have c9 : ¬ (FHL_endBatch S x1).2.1 49 2 = 0 := by rw [h49, ← hR.1]; exact c
    have hz : (FMO_endBatch (FHL_endBatch S x1).2 x1).2.1 49 2 = 0 := by
      generalize (FHL_endBatch S x1).2 = S1 at c9 ⊢
      rw [FMO_endBatch_e, if_neg c9]
      have h9 := congrFun (end9 1300 (sI (sI S1 49 4 0) 49 2 0) x1 0) 2
      generalize LMO_endBatch_21 1300 (sI (sI S1 49 4 0) 49 2 0) x1 0 = q at h9 ⊢
      exact h9.trans (by rw [sI_1, if_pos ⟨rfl, rfl⟩])
    refine ⟨?_, fun h => absurd hz h⟩
    have hm := fr_FMO_endBatch (FHL_endBatch S x1).2 x1
    have h50 := (fr_FHL_endBatch S x1 50 (by decide)).2
    have h51 := (fr_FHL_endBatch S x1 51 (by decide)).2
    by_cases d : x1 = 0
    · have hd : (FHL_endBatch S x1).2 = sI (FBO_copyFrom_1_25 S) 0 2 0 := by rw [FHL_endBatch_e, if_neg c, if_pos d]
      have k : ∀ a, a ∈ JL → (FMO_endBatch (FHL_endBatch S x1).2 x1).2.1 a = (FBO_copyFrom_1_25 S).1 a ∧ (FMO_endBatch (FHL_endBatch S x1).2 x1).2.2 a = (FBO_copyFrom_1_25 S).2 a := fun a ha => by
        refine ⟨?_, ?_⟩
        · rw [(hm a (by revert a; decide)).1, hd]
          funext j
          rw [sI_1, if_neg (fun z => by rw [z.1] at ha; revert ha; decide)]
        · rw [(hm a (by revert a; decide)).2, hd]
          rfl
      have e50 : ∀ j, j < 1220 → (FMO_endBatch (FHL_endBatch S x1).2 x1).2.2 50 j = S.2 51 j := by
        intro j hj
        generalize (FHL_endBatch S x1).2 = S1 at h51 c9 ⊢
        rw [FMO_endBatch_e, if_neg c9, d]
        have h := end21 1300 (sI (sI S1 49 4 0) 49 2 0) 0 (by omega) (by omega) j
        rw [nI_0] at h
        rw [if_pos ⟨Nat.zero_le _, hj⟩, sI_2, sI_2, h51] at h
        generalize LMO_endBatch_21 1300 (sI (sI S1 49 4 0) 49 2 0) 0 0 = q at h ⊢
        exact h
      obtain ⟨n, q⟩ := hJ.2 (by rw [← hR.1]; exact c)
      refine ⟨n, Q_pt (C := (kp S).1) (L := (kp S).2) (M := S.2 51) ?_ ?_ (fun j hj => ?_) (fun j hj => ?_) (fun j hj => ?_) (fun j hj => ?_) (fun j hj => ?_) (fun j hj => ?_) (fun j hj => ?_) (fun j hj => ?_) (fun j hj => e50 j (by unfold Pj at hj; omega)) q⟩
      · exact (congrFun (k 2 (by decide)).1 0).trans (cE_2_0 S)
      · exact (congrFun (k 10 (by decide)).1 0).trans (cE_10_0 S)
      · exact (congrFun (k 3 (by decide)).1 j).trans (cE_3 S hj)
      · exact (congrFun (k 11 (by decide)).1 j).trans (cE_11 S hj)
      · exact (congrFun (k 12 (by decide)).1 j).trans (cE_12 S hj)
      · exact (congrFun (k 13 (by decide)).1 j).trans (cE_13 S hj)
      · exact (congrFun (k 14 (by decide)).1 j).trans (cE_14 S hj)
      · exact (congrFun (k 15 (by decide)).1 j).trans (cE_15 S hj)
      · exact (congrFun (k 16 (by decide)).2 j).trans (cE_16 S hj)
      · exact (congrFun (k 17 (by decide)).2 j).trans (cE_17 S hj)
    · have hd : (FHL_endBatch S x1).2 = sI S 0 2 0 := by rw [FHL_endBatch_e, if_neg c, if_neg d]
      have e50 : (FMO_endBatch (FHL_endBatch S x1).2 x1).2.2 50 = S.2 50 := by
        generalize (FHL_endBatch S x1).2 = S1 at h50 c9 ⊢
        rw [FMO_endBatch_e, if_neg c9]
        have h := end21_k (n := 1299) (S := sI (sI S1 49 4 0) 49 2 0) d 0
        generalize LMO_endBatch_21 1300 (sI (sI S1 49 4 0) 49 2 0) x1 0 = q at h ⊢
        dsimp only
        rw [h]
        exact h50
      obtain ⟨n, q⟩ := hJ.1
      refine ⟨n, Q_cells (fun a ha => ⟨?_, ?_⟩) (fun j _ => congrFun e50 j) q⟩
      · rw [(hm a (by revert a; decide)).1, hd]
        funext j
        rw [sI_1, if_neg (fun z => by rw [z.1] at ha; revert ha; decide)]
      · rw [(hm a (by revert a; decide)).2, hd]
        rfl
/-- a new account -/
theorem Rj_account {S : hS} (hI : I0 S) (hJ : Rj S) (x : Int32) (hw1 : wfM (FHL_account S x).2) : Rj (FMO_account (FHL_account S x).2 x).2 := by
  have hf := fr_FHL_account S x
  have hfm := fr_FMO_account (FHL_account S x).2 x
  refine Rj_step hJ hf (by decide) hfm (by decide) (fq_FMO_account _ x) ?_
  obtain ⟨n, q⟩ := hJ.1
  refine ⟨n, ?_⟩
  have hM : ∀ j, Pj j → (FMO_account (FHL_account S x).2 x).2.2 50 j = S.2 50 j := fun j hj => (Mj_account hw1 x j hj).trans (congrFun (hf 50 (by decide)).2 j)
  have k : ∀ a, a ∉ [2, 3, 4, 5, 6, 7, 8, 9] → a ∉ [49, 50] → (FMO_account (FHL_account S x).2 x).2.1 a = S.1 a ∧ (FMO_account (FHL_account S x).2 x).2.2 a = S.2 a := fun a u v => ⟨(hfm a v).1.trans (hf a u).1, (hfm a v).2.trans (hf a u).2⟩
  have hc := hI.1.1
  unfold bt at hc
  -- counts and kinds
  have c2 : (S.1 2 0).toInt ≤ ((FMO_account (FHL_account S x).2 x).2.1 2 0).toInt ∧ ((FMO_account (FHL_account S x).2 x).2.1 2 0).toInt ≤ 8 ∧ ∀ j : Nat, (j : Int) < (S.1 2 0).toInt → (FMO_account (FHL_account S x).2 x).2.1 3 j = S.1 3 j := by
    rw [(hfm 2 (by decide)).1, (hfm 3 (by decide)).1, FHL_account_e]
    by_cases d1 : x < 0
    · rw [if_pos d1]; exact ⟨Int.le_refl _, hc.2, fun _ _ => rfl⟩
    rw [if_neg d1]
    by_cases d2 : x ≤ 2
    · rw [if_pos d2, FAC_add_e]
      by_cases d3 : S.1 2 0 < 8
      · rw [if_pos d3]
        have hn : (S.1 2 0).toInt < 8 := by rw [Int32.lt_iff_toInt_lt, tl_8] at d3; exact d3
        have cl := cl_toInt hc.1
        dsimp only
        refine ⟨?_, ?_, fun j hj => ?_⟩
        · rw [sI_1, if_pos ⟨rfl, rfl⟩, ti_add rfl tl_1 (by omega) (by omega)]
          omega
        · rw [sI_1, if_pos ⟨rfl, rfl⟩, ti_add rfl tl_1 (by omega) (by omega)]
          omega
        · have ne : j ≠ (S.1 2 0).toNatClampNeg := by omega
          simp [sI_1, sL_1, ne]
      · rw [if_neg d3]; exact ⟨Int.le_refl _, hc.2, fun _ _ => rfl⟩
    · rw [if_neg d2]; exact ⟨Int.le_refl _, hc.2, fun _ _ => rfl⟩
  generalize (FMO_account (FHL_account S x).2 x).2 = T at hM k c2 ⊢
  obtain ⟨⟨⟨h0, hn, h1, hc8⟩, hE, hZ, hS', hB⟩, hD⟩ := q
  have m : ∀ j, 100 ≤ j → j < 1020 → T.2 50 j = S.2 50 j := fun j a b => hM j (Or.inr ⟨a, b⟩)
  have k10 := (k 10 (by decide) (by decide)).1
  have k11 := (k 11 (by decide) (by decide)).1
  have k12 := (k 12 (by decide) (by decide)).1
  have k13 := (k 13 (by decide) (by decide)).1
  have k14 := (k 14 (by decide) (by decide)).1
  have k15 := (k 15 (by decide) (by decide)).1
  have k16 := (k 16 (by decide) (by decide)).2
  have k17 := (k 17 (by decide) (by decide)).2
  refine ⟨⟨⟨by rw [k10]; exact h0, hn, by rw [hM 1 (Or.inl rfl)]; exact h1, c2.2.1⟩, fun e he => ?_, fun e he he4 => ?_, fun e r he hr hc' => ?_, BD_of hn (fun j _ => by rw [k11]) (fun j _ => by rw [k14]) hB⟩, fun e r he hr hc' hu => ?_⟩
  · rw [k11, k12, k13, m (100 + e) (by omega) (by omega), m (140 + e) (by omega) (by omega), m (180 + e) (by omega) (by omega), m (220 + e) (by omega) (by omega), m (260 + e) (by omega) (by omega)]
    exact hE e he
  · rw [m (140 + e) (by omega) (by omega), m (220 + e) (by omega) (by omega), m (260 + e) (by omega) (by omega)]
    exact hZ e he he4
  · rw [k13] at hc'
    have q := hS' e r he hr hc'
    have a0 := q.1.1
    have a1 := q.1.2.1
    have ek : kdC T.1 (6 * e + r) = kdC S.1 (6 * e + r) := by
      unfold kdC
      rw [k15, c2.2.2 _ (by have := cl_toInt a0; omega)]
    rw [k12, ek, k15, k16, k17, m (300 + (6 * e + r)) (by omega) (by omega), m (540 + (6 * e + r)) (by omega) (by omega)]
    exact ⟨⟨a0, by omega, q.1.2.2⟩, q.2⟩
  · rw [k13] at hc'
    rw [k17] at hu ⊢
    rw [m (780 + (6 * e + r)) (by omega) (by omega)]
    exact hD e r he hr hc' hu
/-! entry, row -/
theorem Qfin {n : Nat} {T1 T2 : hS} (hf : Same [49, 50] T1 T2) (q : Q n T1.1 T1.2 (T2.2 50)) : Q n T2.1 T2.2 (T2.2 50) := Q_cells (fun a ha => hf a (by revert a; decide)) (fun _ _ => rfl) q
theorem late_eq {S S' : hS} (hR : Ra S.1 (S.2 50)) (h : S'.2 50 = S.2 50) (x : Int64) : FBO_isUnclosedDay S x = if FMO_isDay S' x = 0 then 0 else if FMO_isLate S' x = 0 then 1 else 0 := by
  have e : (S.1 1 5).toInt64 = S.2 50 2 := Int64.toInt_inj.mp (by rw [l32]; exact hR.2.1.1)
  rw [FBO_isUnclosedDay_e, isDay_eq S S' x, FMO_isLate_e, h, e]
  by_cases c : FMO_isDay S' x = 0
  · rw [if_pos c, if_pos c]
  · rw [if_neg c, if_neg c]
    by_cases d : S.2 50 2 ≤ x / 30
    · rw [if_pos d, if_pos rfl, if_neg (by rw [Int64.le_iff_toInt_le] at d; rw [Int64.lt_iff_toInt_lt]; omega)]
    · rw [if_neg d, if_neg (show ¬ (1 : Int32) = 0 by decide), if_pos (by rw [Int64.le_iff_toInt_le] at d; rw [Int64.lt_iff_toInt_lt]; omega)]
theorem full_eq {S : hS} {n : Nat} (hn : S.1 10 0 = nI n) (h40 : n ≤ 40) : FJO_isFull S = 0 ↔ n < 40 := by
  have i : S.1 10 0 < 40 ↔ n < 40 := by
    rw [hn, Int32.lt_iff_toInt_lt, nI_toInt (by omega), tl_40]
    omega
  rw [FJO_isFull_e]
  by_cases c : n < 40
  · rw [if_pos (i.mpr c)]
    exact ⟨fun _ => c, fun _ => rfl⟩
  · rw [if_neg (fun z => c (i.mp z))]
    exact ⟨fun z => absurd z (by decide), fun z => absurd z c⟩
theorem full_M {M : Nat → Int64} {n : Nat} (h1 : (M 1).toInt = (n : Int)) (h40 : n ≤ 40) : M 1 = 40 ↔ ¬ n < 40 := by
  rw [← Int64.toInt_inj, h1, tq_40]
  omega
theorem dayM (S S' : hS) (x : Int64) : FMO_isDay S x = FMO_isDay S' x := (isDay_eq S S x).symm.trans (isDay_eq S S' x)
theorem lateM {S S' : hS} (h : S'.2 50 = S.2 50) (x : Int64) : FMO_isLate S' x = FMO_isLate S x := by rw [FMO_isLate_e, FMO_isLate_e, h]
theorem q_entry {S : hS} (hI : I0 S) (hR : Rl S) (hJ : Rj S) (x : Int64) : (FHL_entry S x).1 = (FMO_entry (FHL_entry S x).2 x).1 ∧ Rj (FMO_entry (FHL_entry S x).2 x).2 := by
  obtain ⟨n, q⟩ := hJ.1
  have h0 := q.1.1.1
  have hn := q.1.1.2.1
  have h1 := q.1.1.2.2.1
  have f40 := full_eq h0 hn
  have m40 := full_M h1 hn
  have late := late_eq (S' := sI S 49 4 0) hR.2.1 rfl x
  have no : FHL_entry S x = (-1, S) → FMO_entry S x = (-1, sI S 49 4 0) → (FHL_entry S x).1 = (FMO_entry (FHL_entry S x).2 x).1 ∧ Rj (FMO_entry (FHL_entry S x).2 x).2 := fun a b => by
    rw [a]
    dsimp only
    rw [b]
    exact ⟨rfl, Rj_fault hJ⟩
  by_cases c1 : FMO_isDay (sI S 49 4 0) x = 0
  · refine no (by rw [FHL_entry_e, late, if_pos c1, if_pos rfl]) ?_
    rw [FMO_entry_e]
    by_cases z : S.2 50 1 = 40
    · rw [if_pos z]
    · rw [if_neg z, if_pos c1]
  by_cases c2 : FMO_isLate (sI S 49 4 0) x = 0
  · have uc : ¬ FBO_isUnclosedDay S x = 0 := by rw [late, if_neg c1, if_pos c2]; decide
    by_cases c3 : n < 40
    · have dr := isDay_r (S := S) (d := x) (by rw [isDay_eq S (sI S 49 4 0) x]; exact c1)
      obtain ⟨y, T, eT, hy, fT, t10, _, t11, t12, t13, tB⟩ := add_eff hI.1 x.toInt32 0 h0 c3
      have e1 : FHL_entry S x = (nI n, T) := by rw [FHL_entry_e, if_neg uc, eT]
      rw [e1]
      dsimp only
      have t50 : T.2 50 = S.2 50 := (fT 50 (by decide)).2
      have am := addEntry_M (S := sI T 49 4 0) (n := n) (by rw [sI_2, t50]; exact h1) c3 x 0
      have e2 : FMO_entry T x = FMO_addEntry (sI T 49 4 0) x 0 := by
        rw [FMO_entry_e, t50, if_neg (fun z => m40.mp z c3), dayM (sI T 49 4 0) (sI S 49 4 0) x, if_neg c1, lateM (S := sI S 49 4 0) (S' := sI T 49 4 0) t50 x, if_pos c2]
      refine ⟨by rw [e2, am.1], Rj_step hJ fT (by decide) (fr_FMO_entry T x) (by decide) (fq_FMO_entry T x) ⟨n + 1, Qfin (fr_FMO_entry T x) ?_⟩⟩
      rw [e2, am.2, sI_2, t50]
      have hz := q.1.2.2.1 n (Nat.le_refl _) c3
      refine ⟨Rk_add q.1 c3 t10 (congrFun (fT 2 (by decide)).1 0) (fun k => congrFun (fT 3 (by decide)).1 k) (fun e he => ⟨by rw [t11, if_neg (by omega)], by rw [t12, if_neg (by omega)], by rw [t13, if_neg (by omega)]⟩) (fun s _ => ⟨congrFun (fT 15 (by decide)).1 s, congrFun (fT 16 (by decide)).2 s, congrFun (fT 17 (by decide)).2 s⟩) ?_ (fun j _ _ _ _ _ _ _ _ _ => ?_) ?_ (fun r hr hc => absurd hc ?_) (tB q.1.2.2.2.2), Rd_add q.2 (fun e he => by rw [t13, if_neg (by omega)]) (fun s hs => ⟨congrFun (fT 17 (by decide)).2 s, ?_⟩) (fun r hr hc => absurd hc ?_)⟩
      · rw [up5_e, tj_add rfl tq_1 (by omega) (by omega), h1]
      · rw [up5_n (by omega), up5_n (by omega), up5_n (by omega)]
      · have u1 : ∀ v w : Int64, up5 (up5 (up5 (S.2 50) (100 + n) x) (180 + n) v) 1 w (100 + n) = x := fun v w => by rw [up5_n (by omega), up5_n (by omega), up5_e]
        have u2 : ∀ v w : Int64, up5 (up5 (up5 (S.2 50) (100 + n) x) (180 + n) v) 1 w (180 + n) = v := fun v w => by rw [up5_n (by omega), up5_e]
        have u3 : ∀ (v w : Int64) (j : Nat), 100 < j → j ≠ 100 + n → j ≠ 180 + n → up5 (up5 (up5 (S.2 50) (100 + n) x) (180 + n) v) 1 w j = S.2 50 j := fun v w j a b c => by rw [up5_n (by omega), up5_n c, up5_n b]
        rw [u1, u2, u3 _ _ (140 + n) (by omega) (by omega) (by omega), u3 _ _ (220 + n) (by omega) (by omega) (by omega), u3 _ _ (260 + n) (by omega) (by omega) (by omega), t11, if_pos rfl, t12, if_pos rfl, t13, if_pos rfl, hz.1, hz.2.1, hz.2.2]
        exact ⟨ti_32 rfl (by omega) (by omega), by rw [ti_32 rfl (by omega) (by omega)]; exact dr, ⟨by decide, by decide, by decide⟩, Or.inl ⟨rfl, rfl, by decide, rfl⟩⟩
      · rw [t13, if_pos rfl, tl_0]
        omega
      · rw [up5_n (by omega), up5_n (by omega), up5_n (by omega)]
      · rw [t13, if_pos rfl, tl_0]
        omega
    · refine no ?_ ?_
      · rw [FHL_entry_e, if_neg uc, FJO_add_e, if_neg (fun z => c3 (f40.mp z))]
      · rw [FMO_entry_e, if_pos (m40.mpr c3)]
  · refine no (by rw [FHL_entry_e, late, if_neg c1, if_neg c2, if_pos rfl]) ?_
    rw [FMO_entry_e]
    by_cases z : S.2 50 1 = 40
    · rw [if_pos z]
    · rw [if_neg z, if_neg c1, if_neg c2]
/-- an entry's number -/
theorem ent_or {S S' : hS} {n : Nat} (h0 : S.1 10 0 = nI n) (h1 : (S'.2 50 1).toInt = (n : Int)) (hn : n ≤ 40) (x : Int32) : (FMO_isEntry S' x = 0 ∧ (x < 0 ∨ (¬ x < 0 ∧ S.1 10 0 ≤ x))) ∨ (FMO_isEntry S' x = 1 ∧ ∃ e, e < n ∧ x = nI e) := by
  rw [FMO_isEntry_e]
  by_cases c : x < 0
  · rw [if_pos c]
    exact Or.inl ⟨rfl, Or.inl c⟩
  rw [if_neg c]
  have c0 : 0 ≤ x.toInt := by
    rw [Int32.lt_iff_toInt_lt, tl_0] at c
    omega
  by_cases d : S'.2 50 1 ≤ x.toInt64
  · rw [if_pos d]
    refine Or.inl ⟨rfl, Or.inr ⟨c, ?_⟩⟩
    rw [Int64.le_iff_toInt_le, l32, h1] at d
    rw [h0, Int32.le_iff_toInt_le, nI_toInt (by omega)]
    exact d
  · rw [if_neg d]
    rw [Int64.le_iff_toInt_le, l32, h1] at d
    refine Or.inr ⟨rfl, x.toNatClampNeg, ?_, (nI_cl c0).symm⟩
    have := cl_toInt c0
    omega
theorem open_no {S : hS} {x : Int32} (h : x < 0 ∨ (¬ x < 0 ∧ S.1 10 0 ≤ x)) : FJO_isOpen S x = 0 := by
  rw [FJO_isOpen_e]
  rcases h with h | h
  · rw [if_pos h]
  · rw [if_neg h.1, if_pos h.2]
theorem open_at {S : hS} {n e : Nat} (h0 : S.1 10 0 = nI n) (hn : n ≤ 40) (he : e < n) : FJO_isOpen S (nI e) = if S.1 12 e = 0 then 1 else 0 := by
  rw [FJO_isOpen_e, if_neg (nI_pos (by omega)), h0, if_neg (nI_ge he (by omega)), nI_clamp (by omega)]
/-- open on both sides -/
theorem st_open {d s c : Int32} {md mp ms mr mc : Int64} (h : RE d s c md mp ms mr mc) : (s = 0 ↔ ¬ 0 < mp) ∧ (s = 0 → mp = 0 ∧ ms = 0 ∧ mr = 0) := by
  rcases h.2.2.2 with ⟨a, b, e, f⟩ | ⟨a, b, e, f⟩ | ⟨a, b, e, f⟩ | ⟨a, b, e, f⟩ | ⟨a, b, e, f⟩
  · rw [a, b]
    exact ⟨by decide, fun _ => ⟨rfl, e, f⟩⟩
  all_goals
    rw [a, b]
    exact ⟨by decide, fun z => absurd z (by decide)⟩
theorem q_row {S : hS} (hI : I0 S) (hR : Rl S) (hJ : Rj S) (x1 x2 : Int32) (x3 : Int64) : (FHL_row S x1 x2 x3).1 = (FMO_row (FHL_row S x1 x2 x3).2 x1 x2 x3).1 ∧ Rj (FMO_row (FHL_row S x1 x2 x3).2 x1 x2 x3).2 := by
  obtain ⟨n, q⟩ := hJ.1
  have h0 := q.1.1.1
  have hn := q.1.1.2.1
  have h1 := q.1.1.2.2.1
  have no : FHL_row S x1 x2 x3 = (0, S) → FMO_row S x1 x2 x3 = (0, sI S 49 4 0) → (FHL_row S x1 x2 x3).1 = (FMO_row (FHL_row S x1 x2 x3).2 x1 x2 x3).1 ∧ Rj (FMO_row (FHL_row S x1 x2 x3).2 x1 x2 x3).2 := fun a b => by
    rw [a]
    dsimp only
    rw [b]
    exact ⟨rfl, Rj_fault hJ⟩
  have hm1 : (-100000000 : Int64).toInt = -100000000 := by decide
  have hp1 : (100000000 : Int64).toInt = 100000000 := by decide
  rcases ent_or (S' := sI S 49 4 0) h0 h1 hn x1 with ⟨a, b⟩ | ⟨a, e, he, rfl⟩
  · exact no (by rw [FHL_row_e, if_pos (open_no b)]) (by rw [FMO_row_e, if_pos a])
  have a' : ¬ FMO_isEntry (sI S 49 4 0) (nI e) = 0 := by rw [a]; decide
  have i140 : (140 + nI e).toNatClampNeg = 140 + e := ixC (c := 140) 140 rfl (by omega) (by omega)
  have i260 : (260 + nI e).toNatClampNeg = 260 + e := ixC (c := 260) 260 rfl (by omega) (by omega)
  have re := q.1.2.1 e he
  have so := st_open re
  have op := open_at h0 hn he
  have hh := has_eq (S' := sI S 49 4 0) hR.2.1 rfl x2
  by_cases c1 : FAC_has S x2 = 0
  · refine no ?_ (by rw [FMO_row_e, if_neg a', ← hh, if_pos c1])
    rw [FHL_row_e]
    by_cases z : FJO_isOpen S (nI e) = 0
    · rw [if_pos z]
    · rw [if_neg z, if_pos c1]
  by_cases c2 : S.1 12 e = 0
  · have p0 := so.1.mp c2
    have z := so.2 c2
    rw [if_pos c2] at op
    have op' : ¬ FJO_isOpen S (nI e) = 0 := by rw [op]; decide
    obtain ⟨k8, kn, ke⟩ := has_lt hI.1 c1
    -- rows
    have rc := re.2.2.1
    have er : S.1 13 e = nI (S.1 13 e).toNatClampNeg := (nI_cl rc.2.1).symm
    have cr := cl_toInt rc.2.1
    generalize hr : (S.1 13 e).toNatClampNeg = r at er cr
    have r6 : r ≤ 6 := by omega
    have m6 : S.2 50 (260 + e) = 6 ↔ r = 6 := by
      rw [← Int64.toInt_inj, tq_6, ← rc.1]
      omega
    by_cases c3 : x3 = 0
    · refine no (by rw [FHL_row_e, if_neg op', if_neg c1, if_pos c3]) ?_
      rw [FMO_row_e, if_neg a', ← hh, if_neg c1, i140, if_neg p0, i260]
      by_cases w : S.2 50 (260 + e) = 6
      · rw [if_pos w]
      · rw [if_neg w, if_pos c3]
    by_cases c4 : x3 < -100000000
    · refine no (by rw [FHL_row_e, if_neg op', if_neg c1, if_neg c3, if_pos c4]) ?_
      rw [FMO_row_e, if_neg a', ← hh, if_neg c1, i140, if_neg p0, i260]
      by_cases w : S.2 50 (260 + e) = 6
      · rw [if_pos w]
      · rw [if_neg w, if_neg c3, FMO_isIn_e, if_pos c4, if_pos rfl]
    by_cases c5 : x3 ≤ 100000000
    · have c5' : ¬ 100000000 < x3 := by
        rw [Int64.le_iff_toInt_le] at c5
        rw [Int64.lt_iff_toInt_lt]
        omega
      have isn : ¬ FMO_isIn (sI S 49 4 0) x3 (-100000000) 100000000 = 0 := by
        rw [FMO_isIn_e, if_neg c4, if_neg c5']
        decide
      by_cases c6 : r = 6
      · subst c6
        refine no (by rw [FHL_row_e, if_neg op', if_neg c1, if_neg c3, if_neg c4, if_pos c5, addRow_C6 h0 hn he er]) ?_
        rw [FMO_row_e, if_neg a', ← hh, if_neg c1, i140, if_neg p0, i260, if_pos (m6.mpr rfl)]
      · have w6 : ¬ S.2 50 (260 + e) = 6 := fun w => c6 (m6.mp w)
        obtain ⟨T, eT, fT, t13, t15, t16, t17⟩ := addRow_eff h0 hn he er (by omega) x2 x3
        have e1 : FHL_row S (nI e) x2 x3 = (1, T) := by
          rw [FHL_row_e, if_neg op', if_neg c1, if_neg c3, if_neg c4, if_pos c5, eT]
        rw [e1]
        dsimp only
        have t50 : T.2 50 = S.2 50 := (fT 50 (by decide)).2
        have am := addRow_M (S := sI T 49 4 0) (e := e) (r := r) (by omega) (by rw [sI_2, t50, ← rc.1]; omega) (by omega) x2 x3
        have hh2 := has_eq (S' := sI T 49 4 0) hR.2.1 t50 x2
        have a2 : ¬ FMO_isEntry (sI T 49 4 0) (nI e) = 0 := by
          rw [FMO_isEntry_e, sI_2, t50]
          rw [FMO_isEntry_e] at a'
          exact a'
        have isn2 : ¬ FMO_isIn (sI T 49 4 0) x3 (-100000000) 100000000 = 0 := by
          rw [FMO_isIn_e, if_neg c4, if_neg c5']
          decide
        have e2 : FMO_row T (nI e) x2 x3 = (1, FMO_addRow (sI T 49 4 0) (nI e) x2 x3) := by
          rw [FMO_row_e, if_neg a2, ← hh2, if_neg c1, i140, t50, if_neg p0, i260, if_neg w6, if_neg c3, if_neg isn2]
        refine ⟨by rw [e2], Rj_step hJ fT (by decide) (fr_FMO_row T (nI e) x2 x3) (by decide) (fq_FMO_row T (nI e) x2 x3) ⟨n, Qfin (fr_FMO_row T (nI e) x2 x3) ?_⟩⟩
        rw [e2]
        dsimp only
        rw [am, sI_2, t50]
        refine ⟨Rk_row q.1 he c2 er (by omega) (a := x2) (c := x3) ⟨by omega, by omega⟩ ⟨c3, ?_, ?_⟩ (congrFun (fT 10 (by decide)).1 0) (congrFun (fT 2 (by decide)).1 0) (fun k => congrFun (fT 3 (by decide)).1 k) (fun j => ⟨congrFun (fT 11 (by decide)).1 j, congrFun (fT 12 (by decide)).1 j, congrFun (fT 14 (by decide)).1 j, t13 j⟩) (fun s => ⟨t15 s, t16 s, t17 s⟩) (fun j => rfl), Rd_row q.2 er (by omega) t13 t17 (fun s hs => ?_) hn⟩
        · rw [Int64.lt_iff_toInt_lt, hm1] at c4
          omega
        · rw [Int64.le_iff_toInt_le, hp1] at c5
          exact c5
        · rw [up5_n (by omega), up5_n (by omega), up5_n (by omega)]
    · refine no (by rw [FHL_row_e, if_neg op', if_neg c1, if_neg c3, if_neg c4, if_neg c5]) ?_
      rw [FMO_row_e, if_neg a', ← hh, if_neg c1, i140, if_neg p0, i260]
      by_cases w : S.2 50 (260 + e) = 6
      · rw [if_pos w]
      · rw [if_neg w, if_neg c3, FMO_isIn_e, if_neg c4, if_pos (show 100000000 < x3 by rw [Int64.le_iff_toInt_le] at c5; rw [Int64.lt_iff_toInt_lt]; omega), if_pos rfl]
  · have pp : 0 < S.2 50 (140 + e) := Classical.not_not.mp (fun z => c2 (so.1.mpr z))
    rw [if_neg c2] at op
    exact no (by rw [FHL_row_e, if_pos op]) (by rw [FMO_row_e, if_neg a', ← hh, if_neg c1, i140, if_pos pp])

