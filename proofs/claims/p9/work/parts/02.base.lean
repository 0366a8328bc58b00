def shp : Nat → Nat × Nat × List Nat := fun k => match k with
  | 0 => (2, 0, [3, 27, 0, 0])
  | 1 => (2, 2, [4, 12, 22, 26, 0, 0, 1, 1])
  | 2 => (2, 1, [0, 5, 6, 7, 8, 9, 10, 11])
  | 3 => (0, 8, [])
  | 4 => (0, 8, [])
  | 5 => (0, 8, [])
  | 6 => (1, 8, [])
  | 7 => (1, 8, [])
  | 8 => (0, 8, [])
  | 9 => (0, 8, [])
  | 10 => (2, 3, [0, 13, 14, 15, 16, 17, 18, 19, 0, 20, 21])
  | 11 => (0, 40, [])
  | 12 => (0, 40, [])
  | 13 => (0, 40, [])
  | 14 => (0, 40, [])
  | 15 => (0, 240, [])
  | 16 => (1, 240, [])
  | 17 => (1, 240, [])
  | 18 => (0, 280, [])
  | 19 => (0, 280, [])
  | 20 => (2, 4, [0, 23, 24, 25])
  | 21 => (0, 10, [])
  | 22 => (1, 10, [])
  | 23 => (1, 10, [])
  | 24 => (1, 20, [])
  | 25 => (2, 2, [28, 36, 46, 50, 0, 0, 1, 1])
  | 26 => (2, 1, [0, 29, 30, 31, 32, 33, 34, 35])
  | 27 => (0, 8, [])
  | 28 => (0, 8, [])
  | 29 => (0, 8, [])
  | 30 => (1, 8, [])
  | 31 => (1, 8, [])
  | 32 => (0, 8, [])
  | 33 => (0, 8, [])
  | 34 => (2, 3, [0, 37, 38, 39, 40, 41, 42, 43, 0, 44, 45])
  | 35 => (0, 40, [])
  | 36 => (0, 40, [])
  | 37 => (0, 40, [])
  | 38 => (0, 40, [])
  | 39 => (0, 240, [])
  | 40 => (1, 240, [])
  | 41 => (1, 240, [])
  | 42 => (0, 280, [])
  | 43 => (0, 280, [])
  | 44 => (2, 4, [0, 47, 48, 49])
  | 45 => (0, 10, [])
  | 46 => (1, 10, [])
  | 47 => (1, 10, [])
  | 48 => (1, 20, [])
  | 49 => (2, 5, [52, 53, 0, 0, 0])
  | 50 => (1, 1220, [])
  | 51 => (1, 1220, [])
  | _ => (1, 1, [])
def NC : Nat := 53
/-! The state of all cells that the law makes: ints and longs by cell and place. -/
abbrev hS : Type := (Nat → Nat → Int32) × (Nat → Nat → Int64)
def sI (S : hS) (k j : Nat) (x : Int32) : hS := (fun a b => if a = k ∧ b = j then x else S.1 a b, S.2)
def sL (S : hS) (k j : Nat) (x : Int64) : hS := (S.1, fun a b => if a = k ∧ b = j then x else S.2 a b)
theorem sI_1 (S : hS) (k j : Nat) (x : Int32) (a b : Nat) : (sI S k j x).1 a b = if a = k ∧ b = j then x else S.1 a b := rfl
theorem sI_2 (S : hS) (k j : Nat) (x : Int32) : (sI S k j x).2 = S.2 := rfl
theorem sL_1 (S : hS) (k j : Nat) (x : Int64) : (sL S k j x).1 = S.1 := rfl
theorem sL_2 (S : hS) (k j : Nat) (x : Int64) (a b : Nat) : (sL S k j x).2 a b = if a = k ∧ b = j then x else S.2 a b := rfl
def fv (ad : Nat → Nat) (S : hS) (k j t : Nat) : Value := match t with
  | 0 => .int (S.1 k j)
  | 1 => .long (S.2 k j)
  | t + 2 => .ref (ad t)
def fvs (ad : Nat → Nat) (S : hS) (k : Nat) : Nat → List Nat → List Value
  | _, [] => []
  | j, t :: ts => fv ad S k j t :: fvs ad S k (j + 1) ts
def ce (ad : Nat → Nat) (cI cL : ClassId) (S : hS) (k : Nat) : va_E := match shp k with
  | (0, n, _) => .inl (cI, n, .inl (S.1 k))
  | (1, n, _) => .inl (cL, n, .inr (.inl (S.2 k)))
  | (_, ci, ts) => .inr (ci, fvs ad S k 0 ts)
def gw (ad : Nat → Nat) (cI cL : ClassId) (S : hS) : va_W := (List.range NC).map (fun k => (ad k, ce ad cI cL S k))
theorem gw_get (ad : Nat → Nat) (cI cL : ClassId) (S : hS) {k : Nat} (hk : k < NC) : (gw ad cI cL S)[k]? = some (ad k, ce ad cI cL S k) := by
  unfold gw
  rw [List.getElem?_map, List.getElem?_range hk]
  rfl
theorem gw_inv {ad : Nat → Nat} {cI cL : ClassId} {S : hS} {k : Nat} {q : Nat × va_E} (h : (gw ad cI cL S)[k]? = some q) : k < NC ∧ q = (ad k, ce ad cI cL S k) := by
  have hk : k < NC := by
    have h1 := (List.getElem?_eq_some_iff.mp h).1
    unfold gw at h1
    simpa using h1
  rw [gw_get ad cI cL S hk] at h
  exact ⟨hk, (Option.some.inj h).symm⟩
theorem fvs_congr {ad : Nat → Nat} {S S' : hS} {k : Nat} (h1 : S.1 k = S'.1 k) (h2 : S.2 k = S'.2 k) : ∀ (ts : List Nat) (j : Nat), fvs ad S k j ts = fvs ad S' k j ts
  | [], _ => rfl
  | t :: ts, j => by
    show fv ad S k j t :: fvs ad S k (j + 1) ts = fv ad S' k j t :: fvs ad S' k (j + 1) ts
    rw [fvs_congr h1 h2 ts (j + 1)]
    congr 1
    unfold fv
    rw [h1, h2]
theorem ce_congr {ad : Nat → Nat} {cI cL : ClassId} {S S' : hS} {k : Nat} (h1 : S.1 k = S'.1 k) (h2 : S.2 k = S'.2 k) : ce ad cI cL S k = ce ad cI cL S' k := by
  unfold ce
  rw [h1, h2]
  split <;> first | rfl | (rw [fvs_congr h1 h2])
theorem gw_set {ad : Nat → Nat} {cI cL : ClassId} {S S' : hS} {k : Nat} {x : va_E} (hk : k < NC) (hx : x = ce ad cI cL S' k) (h : ∀ a, a ≠ k → S.1 a = S'.1 a ∧ S.2 a = S'.2 a) : (gw ad cI cL S).set k (ad k, x) = gw ad cI cL S' := by
  subst hx
  apply List.ext_getElem?
  intro a
  by_cases ha : a < NC
  · rw [gw_get ad cI cL S' ha, List.getElem?_set]
    by_cases hak : k = a
    · subst hak
      rw [if_pos rfl, if_pos (by unfold gw; simpa using hk)]
    · rw [if_neg hak, gw_get ad cI cL S ha, ce_congr (h a (fun z => hak z.symm)).1 (h a (fun z => hak z.symm)).2]
  · rw [List.getElem?_eq_none (by simp [gw]; omega), List.getElem?_eq_none (by simp [gw]; omega)]
theorem fvs_get {ad : Nat → Nat} {S : hS} {k : Nat} : ∀ (ts : List Nat) (j0 j : Nat) {t : Nat}, ts[j]? = some t → (fvs ad S k j0 ts)[j]? = some (fv ad S k (j0 + j) t)
  | [], _, _, _, h => by simp at h
  | t0 :: ts, j0, 0, t, h => by
    have e : t0 = t := by simpa using h
    subst e
    rfl
  | t0 :: ts, j0, j + 1, t, h => by
    have h' : ts[j]? = some t := by simpa using h
    have := fvs_get (ad := ad) (S := S) (k := k) ts (j0 + 1) j h'
    show (fvs ad S k (j0 + 1) ts)[j]? = _
    rw [this, show j0 + 1 + j = j0 + (j + 1) by omega]
theorem fvs_len {ad : Nat → Nat} {S : hS} {k : Nat} : ∀ (ts : List Nat) (j0 : Nat), (fvs ad S k j0 ts).length = ts.length
  | [], _ => rfl
  | _ :: ts, j0 => by
    show (fvs ad S k (j0 + 1) ts).length + 1 = ts.length + 1
    rw [fvs_len ts (j0 + 1)]
theorem fvs_setI {ad : Nat → Nat} {S : hS} {k : Nat} {x : Int32} : ∀ (ts : List Nat) (j0 j : Nat), ts[j]? = some 0 → (fvs ad S k j0 ts).set j (.int x) = fvs ad (sI S k (j0 + j) x) k j0 ts := by
  intro ts j0 j h
  apply List.ext_getElem?
  intro a
  rw [List.getElem?_set]
  by_cases hja : j = a
  · subst hja
    rw [if_pos rfl, fvs_get ts j0 j h, if_pos (by rw [fvs_len]; exact (List.getElem?_eq_some_iff.mp h).1)]
    show some (Value.int x) = some (Value.int ((sI S k (j0 + j) x).1 k (j0 + j)))
    rw [sI_1, if_pos ⟨rfl, rfl⟩]
  · rw [if_neg hja]
    cases ht : ts[a]? with
    | none =>
      have hl : ts.length ≤ a := by simpa using ht
      rw [List.getElem?_eq_none (by rw [fvs_len]; exact hl), List.getElem?_eq_none (by rw [fvs_len]; exact hl)]
    | some t =>
      rw [fvs_get ts j0 a ht, fvs_get ts j0 a ht]
      congr 1
      unfold fv
      split
      · rw [sI_1, if_neg (by omega)]
      · rfl
      · rfl
theorem fvs_setL {ad : Nat → Nat} {S : hS} {k : Nat} {x : Int64} : ∀ (ts : List Nat) (j0 j : Nat), ts[j]? = some 1 → (fvs ad S k j0 ts).set j (.long x) = fvs ad (sL S k (j0 + j) x) k j0 ts := by
  intro ts j0 j h
  apply List.ext_getElem?
  intro a
  rw [List.getElem?_set]
  by_cases hja : j = a
  · subst hja
    rw [if_pos rfl, fvs_get ts j0 j h, if_pos (by rw [fvs_len]; exact (List.getElem?_eq_some_iff.mp h).1)]
    show some (Value.long x) = some (Value.long ((sL S k (j0 + j) x).2 k (j0 + j)))
    rw [sL_2, if_pos ⟨rfl, rfl⟩]
  · rw [if_neg hja]
    cases ht : ts[a]? with
    | none =>
      have hl : ts.length ≤ a := by simpa using ht
      rw [List.getElem?_eq_none (by rw [fvs_len]; exact hl), List.getElem?_eq_none (by rw [fvs_len]; exact hl)]
    | some t =>
      rw [fvs_get ts j0 a ht, fvs_get ts j0 a ht]
      congr 1
      unfold fv
      split
      · rfl
      · rw [sL_2, if_neg (by omega)]
      · rfl
theorem sI_off {S : hS} {k j : Nat} {x : Int32} {a : Nat} (h : a ≠ k) : S.1 a = (sI S k j x).1 a ∧ S.2 a = (sI S k j x).2 a := ⟨by funext b; rw [sI_1, if_neg (fun z => h z.1)], rfl⟩
theorem sL_off {S : hS} {k j : Nat} {x : Int64} {a : Nat} (h : a ≠ k) : S.1 a = (sL S k j x).1 a ∧ S.2 a = (sL S k j x).2 a := ⟨rfl, by funext b; rw [sL_2, if_neg (fun z => h z.1)]⟩
theorem ce_i (ad : Nat → Nat) (cI cL : ClassId) (S : hS) {k n : Nat} {ts : List Nat} (h : shp k = (0, n, ts)) : ce ad cI cL S k = .inl (cI, n, .inl (S.1 k)) := by
  unfold ce; rw [h]; rfl
theorem ce_l (ad : Nat → Nat) (cI cL : ClassId) (S : hS) {k n : Nat} {ts : List Nat} (h : shp k = (1, n, ts)) : ce ad cI cL S k = .inl (cL, n, .inr (.inl (S.2 k))) := by
  unfold ce; rw [h]; rfl
theorem ce_o (ad : Nat → Nat) (cI cL : ClassId) (S : hS) {k ci : Nat} {ts : List Nat} (h : shp k = (2, ci, ts)) : ce ad cI cL S k = .inr (ci, fvs ad S k 0 ts) := by
  unfold ce; rw [h]; rfl
/-- the addresses are apart -/
def adI (ad : Nat → Nat) : Prop := ∀ i j, i < NC → j < NC → ad i = ad j → i = j
/-- what a method may change: the cells, and what is new -/
def AA (ad : Nat → Nat) (sz : Nat) : Nat → Prop := fun q => (∃ k, k < NC ∧ q = ad k) ∨ sz ≤ q
abbrev tyL (cI cL : ClassId) : List (ClassId × FieldType) := [(cI, .int), (cL, .long)]
/-- a method's surroundings -/
def Bs (p : Program) (s : State) (m : MethodId) (args : Array Value) (c : Code) (own : String) (cc : ByteArray) (nL : Nat) (cI cL : ClassId) (dC : Nat → ClassId) (dI : Nat → Nat → Nat) : Prop :=
  p.tables.exec = Jvm.exec ∧ c.code = cc ∧ c.maxLocals = nL ∧ s.vm.findClass own = some m.cls ∧ (∀ w ∈ wALL, w.before args s = true) ∧ (∀ w ∈ wNW, va_Nw w s) ∧ va_K (dC, dI) vwCl (tyL cI cL) s
/-- the world -/
def Wd (ad : Nat → Nat) (cI cL : ClassId) (dC : Nat → ClassId) (dI : Nat → Nat → Nat) (A : Nat → Prop) (H0 : Heap) (S : hS) (H : Heap) (locs : List Loc) : Prop :=
  va_P (dC, dI) vwCl (gw ad cI cL S) H ∧ va_D A (gw ad cI cL S) ∧ va_S A H0 H locs
def PcW (ad : Nat → Nat) (cI cL : ClassId) (dC : Nat → ClassId) (dI : Nat → Nat → Nat) (S : hS) (sz : Nat) (av : List Value) : Array Value → State → Prop :=
  va_Pc av (fun U => U.heap.size = sz ∧ va_P (dC, dI) vwCl (gw ad cI cL S) U.heap ∧ va_K (dC, dI) vwCl (tyL cI cL) U ∧ ∀ w ∈ wNW, va_Nw w U)
def QcW (ad : Nat → Nat) (cI cL : ClassId) (dC : Nat → ClassId) (dI : Nat → Nat → Nat) (post : Option Value → hS → Prop) (A : Nat → Prop) : Array Value → State → Outcome → State → Prop :=
  fun _ st oc t => (∃ (r : Option Value) (S' : hS), oc = .returned r ∧ post r S' ∧ va_P (dC, dI) vwCl (gw ad cI cL S') t.heap) ∧ va_F A st t
/-- a method's contract -/
def Mt (l : Launch) (ad : Nat → Nat) (cI cL : ClassId) (dC : Nat → ClassId) (dI : Nat → Nat → Nat) (y : MethodName) (b : ByteArray) (n : Nat) (ret : Option FieldType) (rm : Room) (av : List Value) (S : hS) (post : Option Value → hS → Prop) : Prop :=
  ∀ sz, Met l y (.code y b n ret :: wALL) rm (PcW ad cI cL dC dI S sz av) (QcW ad cI cL dC dI post (AA ad sz)) 0 0 (AA ad sz)
theorem gw_D {ad : Nat → Nat} {cI cL : ClassId} {A : Nat → Prop} {S : hS} (hi : adI ad) (hA : ∀ k, k < NC → A (ad k)) : va_D A (gw ad cI cL S) := by
  refine ⟨fun i j p q hp hq e => ?_, fun k q hq => ?_⟩
  · obtain ⟨h1, rfl⟩ := gw_inv hp
    obtain ⟨h2, rfl⟩ := gw_inv hq
    exact hi i j h1 h2 e
  · obtain ⟨h1, rfl⟩ := gw_inv hq
    exact hA k h1
theorem nw_warm {s U : State} (hW : s.WarmedH U.vm) (h : ∀ w ∈ wNW, va_Nw w s) : ∀ w ∈ wNW, va_Nw w U := by
  intro w hw
  have hn := wNW_ok w hw
  have hs := h w hw
  unfold isNest at hn
  split at hn
  · exact va_Nw.warmF hW hs
  · exact va_Nw.warmM hW hs
  · cases hn
theorem nw_same {s U : State} (hvm : s.vm = U.vm) (h : ∀ w ∈ wNW, va_Nw w s) : ∀ w ∈ wNW, va_Nw w U := by
  intro w hw
  have hn := wNW_ok w hw
  have hs := h w hw
  unfold isNest at hn
  split at hn
  · exact va_Nw.same rfl hvm hs
  · exact va_Nw.same rfl hvm hs
  · cases hn
theorem PcW_blind {ad : Nat → Nat} {cI cL : ClassId} {dC : Nat → ClassId} {dI : Nat → Nat → Nat} {S : hS} {sz : Nat} {av : List Value} : FrameBlind (PcW ad cI cL dC dI S sz av) := by
  intro a U g mk q
  obtain ⟨q0, q1, q2, q3, q4⟩ := q
  exact ⟨q0, q1, q2, va_K.moved (u := U) (U := U.calling g mk a) (Vm.Alike.refl U.vm) q3, nw_same (s := U) (U := U.calling g mk a) rfl q4⟩
theorem AA_A {ad : Nat → Nat} {A : Nat → Prop} {H0 H : Heap} (hA : ∀ q, AA ad H0.size q → A q) (hz : H0.size ≤ H.size) : ∀ q, AA ad H.size q → A q := by
  intro q hq
  rcases hq with h | h
  · exact hA q (Or.inl h)
  · exact hA q (Or.inr (Nat.le_trans hz h))
section HLrows
variable {p : Program} {l : Launch} {e : Env} {R : Room} {s : State} {m : MethodId} {args : Array Value} {below : List Frame} {meth : Method} {c : Code} {H : Heap} {locs : List Loc} {cells slots : Nat} {Q : State → Prop}
variable {ad : Nat → Nat} {cI cL : ClassId} {dC : Nat → ClassId} {dI : Nat → Nat → Nat} {own : String} {cc : ByteArray} {nL pc : Nat} {ls : Array Slot} {rest : List Value} {A : Nat → Prop} {H0 : Heap} {S : hS}
theorem V_iald (B : Bs p s m args c own cc nL cI cL dC dI) (hw : Wd ad cI cL dC dI A H0 S H locs) {k n : Nat} {ts : List Nat} (hk : k < NC) (hsh : shp k = (0, n, ts)) {i v : Int32} {j : Nat} (hin : vp_in i n) (hj : i.toNatClampNeg = j) (hv : S.1 k j = v) (hdg : decode cc pc = .ok (.iaload, 1))
    (kk : W p l e R s m args below meth c H locs cells slots Q (F0 m (pc + 1) ls (.int v :: rest))) : W p l e R s m args below meth c H locs cells slots Q (F0 m pc ls (.int i :: .ref (ad k) :: rest)) := by
  subst hj
  subst hv
  exact va_iald B.1 B.2.1 B.2.2.2.2.2.2 hw.1 k 0 (by rw [gw_get ad cI cL S hk, ce_i ad cI cL S hsh]) rfl hin hdg kk
theorem V_lald (B : Bs p s m args c own cc nL cI cL dC dI) (hw : Wd ad cI cL dC dI A H0 S H locs) {k n : Nat} {ts : List Nat} (hk : k < NC) (hsh : shp k = (1, n, ts)) {i : Int32} {v : Int64} {j : Nat} (hin : vp_in i n) (hj : i.toNatClampNeg = j) (hv : S.2 k j = v) (hdg : decode cc pc = .ok (.laload, 1))
    (kk : W p l e R s m args below meth c H locs cells slots Q (F0 m (pc + 1) ls (.long v :: rest))) : W p l e R s m args below meth c H locs cells slots Q (F0 m pc ls (.int i :: .ref (ad k) :: rest)) := by
  subst hj
  subst hv
  exact va_lald B.1 B.2.1 B.2.2.2.2.2.2 hw.1 k 1 (by rw [gw_get ad cI cL S hk, ce_l ad cI cL S hsh]) rfl hin hdg kk
theorem V_iast (B : Bs p s m args c own cc nL cI cL dC dI) (hw : Wd ad cI cL dC dI A H0 S H locs) {k n : Nat} {ts : List Nat} (hk : k < NC) (hsh : shp k = (0, n, ts)) {i x : Int32} {j : Nat} (hin : vp_in i n) (hj : i.toNatClampNeg = j) (hdg : decode cc pc = .ok (.iastore, 1))
    (kk : ∀ (H1 : Heap) (locs1 : List Loc), Wd ad cI cL dC dI A H0 (sI S k j x) H1 locs1 → W p l e R s m args below meth c H1 locs1 cells slots Q (F0 m (pc + 1) ls rest)) : W p l e R s m args below meth c H locs cells slots Q (F0 m pc ls (.int x :: .int i :: .ref (ad k) :: rest)) := by
  subst hj
  refine va_iast B.1 B.2.1 B.2.2.2.2.2.2 hw.1 hw.2.1 hw.2.2 k 0 (by rw [gw_get ad cI cL S hk, ce_i ad cI cL S hsh]) rfl hin hdg (fun H1 locs1 h1 h2 h3 => ?_)
  have e : (gw ad cI cL S).set k (ad k, .inl (cI, n, .inl (upd (S.1 k) i.toNatClampNeg x))) = gw ad cI cL (sI S k i.toNatClampNeg x) := by
    refine gw_set hk ?_ (fun a ha => sI_off ha)
    rw [ce_i ad cI cL _ hsh]
    have e2 : upd (S.1 k) i.toNatClampNeg x = (sI S k i.toNatClampNeg x).1 k := by
      funext j
      rw [sI_1]
      unfold upd
      by_cases hj : j = i.toNatClampNeg
      · rw [if_pos hj, if_pos ⟨rfl, hj⟩]
      · rw [if_neg hj, if_neg (fun z => hj z.2)]
    rw [e2]
  rw [e] at h1 h2
  exact kk H1 locs1 ⟨h1, h2, h3⟩
theorem V_last (B : Bs p s m args c own cc nL cI cL dC dI) (hw : Wd ad cI cL dC dI A H0 S H locs) {k n : Nat} {ts : List Nat} (hk : k < NC) (hsh : shp k = (1, n, ts)) {i : Int32} {x : Int64} {j : Nat} (hin : vp_in i n) (hj : i.toNatClampNeg = j) (hdg : decode cc pc = .ok (.lastore, 1))
    (kk : ∀ (H1 : Heap) (locs1 : List Loc), Wd ad cI cL dC dI A H0 (sL S k j x) H1 locs1 → W p l e R s m args below meth c H1 locs1 cells slots Q (F0 m (pc + 1) ls rest)) : W p l e R s m args below meth c H locs cells slots Q (F0 m pc ls (.long x :: .int i :: .ref (ad k) :: rest)) := by
  subst hj
  refine va_last B.1 B.2.1 B.2.2.2.2.2.2 hw.1 hw.2.1 hw.2.2 k 1 (by rw [gw_get ad cI cL S hk, ce_l ad cI cL S hsh]) rfl hin hdg (fun H1 locs1 h1 h2 h3 => ?_)
  have e : (gw ad cI cL S).set k (ad k, .inl (cL, n, .inr (.inl (vp_updL (S.2 k) i.toNatClampNeg x)))) = gw ad cI cL (sL S k i.toNatClampNeg x) := by
    refine gw_set hk ?_ (fun a ha => sL_off ha)
    rw [ce_l ad cI cL _ hsh]
    have e2 : vp_updL (S.2 k) i.toNatClampNeg x = (sL S k i.toNatClampNeg x).2 k := by
      funext j
      rw [sL_2]
      unfold vp_updL
      by_cases hj : j = i.toNatClampNeg
      · rw [if_pos hj, if_pos ⟨rfl, hj⟩]
      · rw [if_neg hj, if_neg (fun z => hj z.2)]
    rw [e2]
  rw [e] at h1 h2
  exact kk H1 locs1 ⟨h1, h2, h3⟩
theorem V_ialen (B : Bs p s m args c own cc nL cI cL dC dI) (hw : Wd ad cI cL dC dI A H0 S H locs) {k n : Nat} {ts : List Nat} (hk : k < NC) (hsh : shp k = (0, n, ts)) {v : Int32} (hv : Int32.ofNat n = v) (hdg : decode cc pc = .ok (.arraylength, 1))
    (kk : W p l e R s m args below meth c H locs cells slots Q (F0 m (pc + 1) ls (.int v :: rest))) : W p l e R s m args below meth c H locs cells slots Q (F0 m pc ls (.ref (ad k) :: rest)) :=
  va_alen B.1 B.2.1 B.2.2.2.2.2.2 hw.1 k 0 (by rw [gw_get ad cI cL S hk, ce_i ad cI cL S hsh]) (ty := .int) rfl hv hdg kk
theorem V_lalen (B : Bs p s m args c own cc nL cI cL dC dI) (hw : Wd ad cI cL dC dI A H0 S H locs) {k n : Nat} {ts : List Nat} (hk : k < NC) (hsh : shp k = (1, n, ts)) {v : Int32} (hv : Int32.ofNat n = v) (hdg : decode cc pc = .ok (.arraylength, 1))
    (kk : W p l e R s m args below meth c H locs cells slots Q (F0 m (pc + 1) ls (.int v :: rest))) : W p l e R s m args below meth c H locs cells slots Q (F0 m pc ls (.ref (ad k) :: rest)) :=
  va_alen B.1 B.2.1 B.2.2.2.2.2.2 hw.1 k 1 (by rw [gw_get ad cI cL S hk, ce_l ad cI cL S hsh]) (ty := .long) rfl hv hdg kk
/-- a field of its own -/
theorem V_get (B : Bs p s m args c own cc nL cI cL dC dI) (hw : Wd ad cI cL dC dI A H0 S H locs) {k ci : Nat} {ts : List Nat} (hk : k < NC) (hsh : shp k = (2, ci, ts)) {C : String} {T : u_T} {N : Nat} (hc : vwCl[ci]? = some (C, T, N)) (hin : ∀ w ∈ u_ws C T N, w ∈ wALL) (j : Nat) {t index : Nat} (hj : j < N) (ht : ts[j]? = some t) (hl : Cond.fieldLink own index (T j).1 (T j).2.1 (T j).2.2.1 ∈ wALL) {v : Value} (hv : fv ad S k j t = v) (hdg : decode cc pc = .ok (.getfield index, 3))
    (kk : W p l e R s m args below meth c H locs cells slots Q (F0 m (pc + 3) ls (v :: rest))) : W p l e R s m args below meth c H locs cells slots Q (F0 m pc ls (.ref (ad k) :: rest)) := by
  subst hv
  exact va_get (D := (dC, dI)) (ci := ci) (C := C) (T := T) (N := N) B.1 B.2.1 B.2.2.2.2.1 hin B.2.2.2.1 B.2.2.2.2.2.2 hw.1 k (by rw [gw_get ad cI cL S hk, ce_o ad cI cL S hsh]) hc j hj (B.2.2.2.2.1 _ hl) (fun _ h9 => h9) (by rw [fvs_get ts 0 j ht, Nat.zero_add]) hdg kk
/-- a field of a nest mate -/
theorem V_getN (B : Bs p s m args c own cc nL cI cL dC dI) (hw : Wd ad cI cL dC dI A H0 S H locs) {k ci : Nat} {ts : List Nat} (hk : k < NC) (hsh : shp k = (2, ci, ts)) {C host : String} {T : u_T} {N : Nat} (hc : vwCl[ci]? = some (C, T, N)) (hin : ∀ w ∈ u_ws C T N, w ∈ wALL) (j : Nat) {t index : Nat} (hj : j < N) (ht : ts[j]? = some t) (hl : Cond.fieldLinkNest own index (T j).1 (T j).2.1 (T j).2.2.1 host ∈ wNW) {v : Value} (hv : fv ad S k j t = v) (hdg : decode cc pc = .ok (.getfield index, 3))
    (kk : W p l e R s m args below meth c H locs cells slots Q (F0 m (pc + 3) ls (v :: rest))) : W p l e R s m args below meth c H locs cells slots Q (F0 m pc ls (.ref (ad k) :: rest)) := by
  subst hv
  exact va_getN (D := (dC, dI)) (ci := ci) (C := C) (T := T) (N := N) B.1 B.2.1 B.2.2.2.2.1 hin B.2.2.2.1 B.2.2.2.2.2.2 hw.1 k (by rw [gw_get ad cI cL S hk, ce_o ad cI cL S hsh]) hc j hj (va_Nw.use rfl (B.2.2.2.2.2.1 _ hl)) (fun _ h9 => h9) (by rw [fvs_get ts 0 j ht, Nat.zero_add]) hdg kk
theorem setI_gw {k ci j : Nat} {ts : List Nat} {x : Int32} (hk : k < NC) (hsh : shp k = (2, ci, ts)) (ht : ts[j]? = some 0) : (gw ad cI cL S).set k (ad k, .inr (ci, (fvs ad S k 0 ts).set j (.int x))) = gw ad cI cL (sI S k j x) := by
  refine gw_set hk ?_ (fun a ha => sI_off ha)
  rw [ce_o ad cI cL _ hsh, fvs_setI ts 0 j ht, Nat.zero_add]
theorem setL_gw {k ci j : Nat} {ts : List Nat} {x : Int64} (hk : k < NC) (hsh : shp k = (2, ci, ts)) (ht : ts[j]? = some 1) : (gw ad cI cL S).set k (ad k, .inr (ci, (fvs ad S k 0 ts).set j (.long x))) = gw ad cI cL (sL S k j x) := by
  refine gw_set hk ?_ (fun a ha => sL_off ha)
  rw [ce_o ad cI cL _ hsh, fvs_setL ts 0 j ht, Nat.zero_add]
theorem V_putI (B : Bs p s m args c own cc nL cI cL dC dI) (hw : Wd ad cI cL dC dI A H0 S H locs) {k ci : Nat} {ts : List Nat} (hk : k < NC) (hsh : shp k = (2, ci, ts)) {C : String} {T : u_T} {N : Nat} (hc : vwCl[ci]? = some (C, T, N)) (hin : ∀ w ∈ u_ws C T N, w ∈ wALL) {tf : Nat → FieldType} (hty : ∀ k, k < N → parseFieldDescriptor (T k).2.2.1 = some (tf k)) (hnm : ∀ a, a < N → ∀ b, b < N → a ≠ b → (T a).2.1 ≠ (T b).2.1) (j : Nat) {index : Nat} (hj : j < N) (ht : ts[j]? = some 0) (hl : Cond.fieldLink own index (T j).1 (T j).2.1 (T j).2.2.1 ∈ wALL) (hfin : (T j).2.2.2 = false) {ty : FieldType} {x : Int32} (hd : parseFieldDescriptor (T j).2.2.1 = some ty) (hn : narrow ty (.int x) = .int x) (hfit : fits ty (.int x) = true) (hdg : decode cc pc = .ok (.putfield index, 3))
    (kk : ∀ (H1 : Heap) (locs1 : List Loc), Wd ad cI cL dC dI A H0 (sI S k j x) H1 locs1 → W p l e R s m args below meth c H1 locs1 cells slots Q (F0 m (pc + 3) ls rest)) : W p l e R s m args below meth c H locs cells slots Q (F0 m pc ls (.int x :: .ref (ad k) :: rest)) := by
  refine va_put (D := (dC, dI)) (ci := ci) (C := C) (T := T) (N := N) B.1 B.2.1 B.2.2.2.2.1 hin tf hty hnm B.2.2.2.1 B.2.2.2.2.2.2 hw.1 hw.2.1 hw.2.2 k (by rw [gw_get ad cI cL S hk, ce_o ad cI cL S hsh]) hc j hj (B.2.2.2.2.1 _ hl) (fun _ h9 => h9) hfin hd hn hfit (by rw [fvs_len]; exact (List.getElem?_eq_some_iff.mp ht).1) hdg (fun H1 locs1 h1 h2 h3 => ?_)
  rw [setI_gw hk hsh ht] at h1 h2
  exact kk H1 locs1 ⟨h1, h2, h3⟩
theorem V_putL (B : Bs p s m args c own cc nL cI cL dC dI) (hw : Wd ad cI cL dC dI A H0 S H locs) {k ci : Nat} {ts : List Nat} (hk : k < NC) (hsh : shp k = (2, ci, ts)) {C : String} {T : u_T} {N : Nat} (hc : vwCl[ci]? = some (C, T, N)) (hin : ∀ w ∈ u_ws C T N, w ∈ wALL) {tf : Nat → FieldType} (hty : ∀ k, k < N → parseFieldDescriptor (T k).2.2.1 = some (tf k)) (hnm : ∀ a, a < N → ∀ b, b < N → a ≠ b → (T a).2.1 ≠ (T b).2.1) (j : Nat) {index : Nat} (hj : j < N) (ht : ts[j]? = some 1) (hl : Cond.fieldLink own index (T j).1 (T j).2.1 (T j).2.2.1 ∈ wALL) (hfin : (T j).2.2.2 = false) {ty : FieldType} {x : Int64} (hd : parseFieldDescriptor (T j).2.2.1 = some ty) (hn : narrow ty (.long x) = .long x) (hfit : fits ty (.long x) = true) (hdg : decode cc pc = .ok (.putfield index, 3))
    (kk : ∀ (H1 : Heap) (locs1 : List Loc), Wd ad cI cL dC dI A H0 (sL S k j x) H1 locs1 → W p l e R s m args below meth c H1 locs1 cells slots Q (F0 m (pc + 3) ls rest)) : W p l e R s m args below meth c H locs cells slots Q (F0 m pc ls (.long x :: .ref (ad k) :: rest)) := by
  refine va_put (D := (dC, dI)) (ci := ci) (C := C) (T := T) (N := N) B.1 B.2.1 B.2.2.2.2.1 hin tf hty hnm B.2.2.2.1 B.2.2.2.2.2.2 hw.1 hw.2.1 hw.2.2 k (by rw [gw_get ad cI cL S hk, ce_o ad cI cL S hsh]) hc j hj (B.2.2.2.2.1 _ hl) (fun _ h9 => h9) hfin hd hn hfit (by rw [fvs_len]; exact (List.getElem?_eq_some_iff.mp ht).1) hdg (fun H1 locs1 h1 h2 h3 => ?_)
  rw [setL_gw hk hsh ht] at h1 h2
  exact kk H1 locs1 ⟨h1, h2, h3⟩
theorem V_putNI (B : Bs p s m args c own cc nL cI cL dC dI) (hw : Wd ad cI cL dC dI A H0 S H locs) {k ci : Nat} {ts : List Nat} (hk : k < NC) (hsh : shp k = (2, ci, ts)) {C host : String} {T : u_T} {N : Nat} (hc : vwCl[ci]? = some (C, T, N)) (hin : ∀ w ∈ u_ws C T N, w ∈ wALL) {tf : Nat → FieldType} (hty : ∀ k, k < N → parseFieldDescriptor (T k).2.2.1 = some (tf k)) (hnm : ∀ a, a < N → ∀ b, b < N → a ≠ b → (T a).2.1 ≠ (T b).2.1) (j : Nat) {index : Nat} (hj : j < N) (ht : ts[j]? = some 0) (hl : Cond.fieldLinkNest own index (T j).1 (T j).2.1 (T j).2.2.1 host ∈ wNW) (hfin : (T j).2.2.2 = false) {ty : FieldType} {x : Int32} (hd : parseFieldDescriptor (T j).2.2.1 = some ty) (hn : narrow ty (.int x) = .int x) (hfit : fits ty (.int x) = true) (hdg : decode cc pc = .ok (.putfield index, 3))
    (kk : ∀ (H1 : Heap) (locs1 : List Loc), Wd ad cI cL dC dI A H0 (sI S k j x) H1 locs1 → W p l e R s m args below meth c H1 locs1 cells slots Q (F0 m (pc + 3) ls rest)) : W p l e R s m args below meth c H locs cells slots Q (F0 m pc ls (.int x :: .ref (ad k) :: rest)) := by
  refine va_putN (D := (dC, dI)) (ci := ci) (C := C) (T := T) (N := N) B.1 B.2.1 B.2.2.2.2.1 hin tf hty hnm B.2.2.2.1 B.2.2.2.2.2.2 hw.1 hw.2.1 hw.2.2 k (by rw [gw_get ad cI cL S hk, ce_o ad cI cL S hsh]) hc j hj (va_Nw.use rfl (B.2.2.2.2.2.1 _ hl)) (fun _ h9 => h9) hfin hd hn hfit (by rw [fvs_len]; exact (List.getElem?_eq_some_iff.mp ht).1) hdg (fun H1 locs1 h1 h2 h3 => ?_)
  rw [setI_gw hk hsh ht] at h1 h2
  exact kk H1 locs1 ⟨h1, h2, h3⟩
theorem V_putNL (B : Bs p s m args c own cc nL cI cL dC dI) (hw : Wd ad cI cL dC dI A H0 S H locs) {k ci : Nat} {ts : List Nat} (hk : k < NC) (hsh : shp k = (2, ci, ts)) {C host : String} {T : u_T} {N : Nat} (hc : vwCl[ci]? = some (C, T, N)) (hin : ∀ w ∈ u_ws C T N, w ∈ wALL) {tf : Nat → FieldType} (hty : ∀ k, k < N → parseFieldDescriptor (T k).2.2.1 = some (tf k)) (hnm : ∀ a, a < N → ∀ b, b < N → a ≠ b → (T a).2.1 ≠ (T b).2.1) (j : Nat) {index : Nat} (hj : j < N) (ht : ts[j]? = some 1) (hl : Cond.fieldLinkNest own index (T j).1 (T j).2.1 (T j).2.2.1 host ∈ wNW) (hfin : (T j).2.2.2 = false) {ty : FieldType} {x : Int64} (hd : parseFieldDescriptor (T j).2.2.1 = some ty) (hn : narrow ty (.long x) = .long x) (hfit : fits ty (.long x) = true) (hdg : decode cc pc = .ok (.putfield index, 3))
    (kk : ∀ (H1 : Heap) (locs1 : List Loc), Wd ad cI cL dC dI A H0 (sL S k j x) H1 locs1 → W p l e R s m args below meth c H1 locs1 cells slots Q (F0 m (pc + 3) ls rest)) : W p l e R s m args below meth c H locs cells slots Q (F0 m pc ls (.long x :: .ref (ad k) :: rest)) := by
  refine va_putN (D := (dC, dI)) (ci := ci) (C := C) (T := T) (N := N) B.1 B.2.1 B.2.2.2.2.1 hin tf hty hnm B.2.2.2.1 B.2.2.2.2.2.2 hw.1 hw.2.1 hw.2.2 k (by rw [gw_get ad cI cL S hk, ce_o ad cI cL S hsh]) hc j hj (va_Nw.use rfl (B.2.2.2.2.2.1 _ hl)) (fun _ h9 => h9) hfin hd hn hfit (by rw [fvs_len]; exact (List.getElem?_eq_some_iff.mp ht).1) hdg (fun H1 locs1 h1 h2 h3 => ?_)
  rw [setL_gw hk hsh ht] at h1 h2
  exact kk H1 locs1 ⟨h1, h2, h3⟩
/-- compares of longs and the branch behind them -/
theorem V_leq (B : Bs p s m args c own cc nL cI cL dC dI) {x y : Int64} {off : Int} {tgt : Nat} (hd1 : decode cc pc = .ok (.lcmp, 1)) (hd2 : decode cc (pc + 1) = .ok (.ifCond .eq off, 3)) (ht : ((pc + 1 : Nat) : Int) + off = (tgt : Int))
    (kt : x = y → W p l e R s m args below meth c H locs cells slots Q (F0 m tgt ls rest)) (kf : ¬ x = y → W p l e R s m args below meth c H locs cells slots Q (F0 m (pc + 4) ls rest)) : W p l e R s m args below meth c H locs cells slots Q (F0 m pc ls (.long y :: .long x :: rest)) :=
  W.lcmp B.1 B.2.1 hd1 (lv_if_eq B.1 B.2.1 hd2 ht (fun h => kt ((lg_cmp_eq x y).mp h)) (fun h => kf (fun z => h ((lg_cmp_eq x y).mpr z))))
theorem V_lne (B : Bs p s m args c own cc nL cI cL dC dI) {x y : Int64} {off : Int} {tgt : Nat} (hd1 : decode cc pc = .ok (.lcmp, 1)) (hd2 : decode cc (pc + 1) = .ok (.ifCond .ne off, 3)) (ht : ((pc + 1 : Nat) : Int) + off = (tgt : Int))
    (kt : ¬ x = y → W p l e R s m args below meth c H locs cells slots Q (F0 m tgt ls rest)) (kf : x = y → W p l e R s m args below meth c H locs cells slots Q (F0 m (pc + 4) ls rest)) : W p l e R s m args below meth c H locs cells slots Q (F0 m pc ls (.long y :: .long x :: rest)) :=
  W.lcmp B.1 B.2.1 hd1 (lv_if_ne B.1 B.2.1 hd2 ht (fun h => kt (fun z => h ((lg_cmp_eq x y).mpr z))) (fun h => kf ((lg_cmp_eq x y).mp h)))
theorem V_llt (B : Bs p s m args c own cc nL cI cL dC dI) {x y : Int64} {off : Int} {tgt : Nat} (hd1 : decode cc pc = .ok (.lcmp, 1)) (hd2 : decode cc (pc + 1) = .ok (.ifCond .lt off, 3)) (ht : ((pc + 1 : Nat) : Int) + off = (tgt : Int))
    (kt : x < y → W p l e R s m args below meth c H locs cells slots Q (F0 m tgt ls rest)) (kf : ¬ x < y → W p l e R s m args below meth c H locs cells slots Q (F0 m (pc + 4) ls rest)) : W p l e R s m args below meth c H locs cells slots Q (F0 m pc ls (.long y :: .long x :: rest)) :=
  W.lcmp B.1 B.2.1 hd1 (lv_if_lt B.1 B.2.1 hd2 ht (fun h => kt ((lg_cmp_lt x y).mp h)) (fun h => kf (fun z => h ((lg_cmp_lt x y).mpr z))))
theorem V_lge (B : Bs p s m args c own cc nL cI cL dC dI) {x y : Int64} {off : Int} {tgt : Nat} (hd1 : decode cc pc = .ok (.lcmp, 1)) (hd2 : decode cc (pc + 1) = .ok (.ifCond .ge off, 3)) (ht : ((pc + 1 : Nat) : Int) + off = (tgt : Int))
    (kt : y ≤ x → W p l e R s m args below meth c H locs cells slots Q (F0 m tgt ls rest)) (kf : ¬ y ≤ x → W p l e R s m args below meth c H locs cells slots Q (F0 m (pc + 4) ls rest)) : W p l e R s m args below meth c H locs cells slots Q (F0 m pc ls (.long y :: .long x :: rest)) :=
  W.lcmp B.1 B.2.1 hd1 (lv_if_ge B.1 B.2.1 hd2 ht (fun h => kt ((lg_cmp_ge x y).mp h)) (fun h => kf (fun z => h ((lg_cmp_ge x y).mpr z))))
theorem V_lgt (B : Bs p s m args c own cc nL cI cL dC dI) {x y : Int64} {off : Int} {tgt : Nat} (hd1 : decode cc pc = .ok (.lcmp, 1)) (hd2 : decode cc (pc + 1) = .ok (.ifCond .gt off, 3)) (ht : ((pc + 1 : Nat) : Int) + off = (tgt : Int))
    (kt : y < x → W p l e R s m args below meth c H locs cells slots Q (F0 m tgt ls rest)) (kf : ¬ y < x → W p l e R s m args below meth c H locs cells slots Q (F0 m (pc + 4) ls rest)) : W p l e R s m args below meth c H locs cells slots Q (F0 m pc ls (.long y :: .long x :: rest)) :=
  W.lcmp B.1 B.2.1 hd1 (lv_if_gt B.1 B.2.1 hd2 ht (fun h => kt ((lg_cmp_gt x y).mp h)) (fun h => kf (fun z => h ((lg_cmp_gt x y).mpr z))))
theorem V_lle (B : Bs p s m args c own cc nL cI cL dC dI) {x y : Int64} {off : Int} {tgt : Nat} (hd1 : decode cc pc = .ok (.lcmp, 1)) (hd2 : decode cc (pc + 1) = .ok (.ifCond .le off, 3)) (ht : ((pc + 1 : Nat) : Int) + off = (tgt : Int))
    (kt : x ≤ y → W p l e R s m args below meth c H locs cells slots Q (F0 m tgt ls rest)) (kf : ¬ x ≤ y → W p l e R s m args below meth c H locs cells slots Q (F0 m (pc + 4) ls rest)) : W p l e R s m args below meth c H locs cells slots Q (F0 m pc ls (.long y :: .long x :: rest)) :=
  W.lcmp B.1 B.2.1 hd1 (lv_if_le B.1 B.2.1 hd2 ht (fun h => kt ((lg_cmp_le x y).mp h)) (fun h => kf (fun z => h ((lg_cmp_le x y).mpr z))))
end HLrows
def cpI (S : hS) (k0 k1 n0 : Nat) : hS := (fun a => if a = k1 then va_cpy (S.1 k0) (S.1 k1) 0 0 n0 else S.1 a, S.2)
def cpL (S : hS) (k0 k1 n0 : Nat) : hS := (S.1, fun a => if a = k1 then va_cpy (S.2 k0) (S.2 k1) 0 0 n0 else S.2 a)
/-- what a method answers, and the state behind it -/
def pI (v : Int32) (S1 : hS) : Option Value → hS → Prop := fun r S' => r = some (.int v) ∧ S' = S1
def pL (v : Int64) (S1 : hS) : Option Value → hS → Prop := fun r S' => r = some (.long v) ∧ S' = S1
def pV (S1 : hS) : Option Value → hS → Prop := fun r S' => r = none ∧ S' = S1
theorem pI_of {q : Int32 × hS} {v : Int32} {S' : hS} (h : q = (v, S')) : pI q.1 q.2 (some (.int v)) S' := by rw [h]; exact ⟨rfl, rfl⟩
theorem pL_of {q : Int64 × hS} {v : Int64} {S' : hS} (h : q = (v, S')) : pL q.1 q.2 (some (.long v)) S' := by rw [h]; exact ⟨rfl, rfl⟩
theorem pI_r {x v : Int32} {S : hS} (h : x = v) : pI x S (some (.int v)) S := by rw [h]; exact ⟨rfl, rfl⟩
theorem pL_r {x v : Int64} {S : hS} (h : x = v) : pL x S (some (.long v)) S := by rw [h]; exact ⟨rfl, rfl⟩
theorem pV_of {q S' : hS} (h : q = S') : pV q none S' := by rw [h]; exact ⟨rfl, rfl⟩
theorem good_cons {c : Cond} (h : c ∈ wALL) : GoodIn wALL (c :: wALL) := by
  intro w hw
  have hw' : w ∈ wALL := by
    rcases List.mem_cons.mp hw with e | e
    · rw [e]; exact h
    · exact e
  exact ⟨hw', good_of_word (wALL_ok w hw')⟩
section HLcalls
variable {p : Program} {l : Launch} {e : Env} {R : Room} {s : State} {m : MethodId} {args : Array Value} {below : List Frame} {meth : Method} {c : Code} {H : Heap} {locs : List Loc} {cells slots : Nat} {Q : State → Prop}
variable {ad : Nat → Nat} {cI cL : ClassId} {dC : Nat → ClassId} {dI : Nat → Nat → Nat} {own : String} {cc : ByteArray} {nL pc : Nat} {ls : Array Slot} {rest : List Value} {A : Nat → Prop} {H0 : Heap} {S : hS} {post : Option Value → hS → Prop}
theorem Mt_of {y : MethodName} {b : ByteArray} {n : Nat} {ret : Option FieldType} {rm : Room} {av : List Value} (hi : adI ad) (hy : plainName y.cls = true) (ho : y.cls = own) (hlen : (lg_sl av).length ≤ n)
    (body : ∀ (p : Program) (e : Env) (s : State) (m : MethodId) (args : Array Value) (below : List Frame) (meth : Method) (c : Code) (ls : Array Slot), Bs p s m args c own b n cI cL dC dI → meth.sig.returnType = ret → meth.locks = false → Wd ad cI cL dC dI (AA ad s.heap.size) s.heap S s.heap [] → lv_has ls n (lv_args 0 av) →
      W p l e rm s m args below meth c s.heap [] 0 0 (MQ below (QcW ad cI cL dC dI post (AA ad s.heap.size)) args s 0 0 (AA ad s.heap.size)) (F0 m 0 ls [])) : Mt l ad cI cL dC dI y b n ret rm av S post := by
  intro sz
  refine Met.ofW (cc := b) (maxL := n) (ret := ret) hy rfl ?_
  intro p e s m args below meth c s₁ Bo hml hv
  obtain ⟨rfl, hsz, hP, hK, hN⟩ := hv
  subst hsz
  have hts := atoms_spec (ws := .code y b n ret :: wALL) Bo.pre
  have hl := lv_entry av (n := n) hlen
  have hown : s.vm.findClass y.cls = some m.cls := findClass_of_methodNamed Bo.named
  rw [ho] at hown
  rw [lg_entry_eq]
  exact body p e s m _ below meth c _ ⟨Bo.exec, Bo.bytes, hml, hown, fun w h => hts w (List.mem_cons_of_mem _ h), hN, hK⟩ Bo.returns Bo.notSynchronized ⟨hP, gw_D hi (fun k hk => Or.inl ⟨k, hk, rfl⟩), va_S.rf⟩ hl
theorem V_iret (B : Bs p s m args c own cc nL cI cL dC dI) (hr : meth.sig.returnType = some .int) (hlk : meth.locks = false) (hw : Wd ad cI cL dC dI A s.heap S H locs) {v : Int32} (hp : post (some (.int v)) S) (hdg : decode cc pc = .ok (.ireturn, 1)) :
    W p l e R s m args below meth c H locs 0 0 (MQ below (QcW ad cI cL dC dI post A) args s 0 0 A) (F0 m pc ls [.int v]) :=
  W.iret B.1 B.2.1 hr (fun t ht hW => ⟨⟨some (.int v), S, rfl, hp, by rw [ht]; exact hw.1⟩, hw.2.2.F ht⟩) hw.2.2.2.2 hdg hlk
theorem V_zret (B : Bs p s m args c own cc nL cI cL dC dI) (hr : meth.sig.returnType = some .boolean) (hlk : meth.locks = false) (hw : Wd ad cI cL dC dI A s.heap S H locs) {v : Int32} (hn : v &&& 1 = v) (hp : post (some (.int v)) S) (hdg : decode cc pc = .ok (.ireturn, 1)) :
    W p l e R s m args below meth c H locs 0 0 (MQ below (QcW ad cI cL dC dI post A) args s 0 0 A) (F0 m pc ls [.int v]) :=
  W.zret B.1 B.2.1 hr (by show Value.int (v &&& 1) = Value.int v; rw [hn]) (fun t ht hW => ⟨⟨some (.int v), S, rfl, hp, by rw [ht]; exact hw.1⟩, hw.2.2.F ht⟩) hw.2.2.2.2 hdg hlk
theorem V_lret (B : Bs p s m args c own cc nL cI cL dC dI) (hr : meth.sig.returnType = some .long) (hlk : meth.locks = false) (hw : Wd ad cI cL dC dI A s.heap S H locs) {v : Int64} (hp : post (some (.long v)) S) (hdg : decode cc pc = .ok (.lreturn, 1)) :
    W p l e R s m args below meth c H locs 0 0 (MQ below (QcW ad cI cL dC dI post A) args s 0 0 A) (F0 m pc ls [.long v]) :=
  W.lret B.1 B.2.1 hr (fun t ht hW => ⟨⟨some (.long v), S, rfl, hp, by rw [ht]; exact hw.1⟩, hw.2.2.F ht⟩) hw.2.2.2.2 hdg hlk
theorem V_vret (B : Bs p s m args c own cc nL cI cL dC dI) (hr : meth.sig.returnType = none) (hlk : meth.locks = false) (hw : Wd ad cI cL dC dI A s.heap S H locs) (hp : post none S) (hdg : decode cc pc = .ok (.return_, 1)) :
    W p l e R s m args below meth c H locs 0 0 (MQ below (QcW ad cI cL dC dI post A) args s 0 0 A) (F0 m pc ls []) :=
  W.vret B.1 B.2.1 hr (fun t ht hW => ⟨⟨none, S, rfl, hp, by rw [ht]; exact hw.1⟩, hw.2.2.F ht⟩) hw.2.2.2.2 hdg hlk
theorem V_fin {st0 : List Value} {a : Array Value} (hr : va_Run p l e R s m args below meth c H locs cells slots 0 0 (F0 m pc ls st0) rest (QcW ad cI cL dC dI post (AA ad H.size) a) (AA ad H.size)) (hi : adI ad) (hw : Wd ad cI cL dC dI A H0 S H locs) (hA : ∀ q, AA ad H0.size q → A q)
    (kk : ∀ (r : Option Value) (S' : hS) (H1 : Heap) (locs1 : List Loc), post r S' → Wd ad cI cL dC dI A H0 S' H1 locs1 → W p l e R s m args below meth c H1 locs1 cells slots Q (F0 m (pc + 3) ls (r.toList ++ rest))) : W p l e R s m args below meth c H locs cells slots Q (F0 m pc ls st0) := by
  have hA1 := AA_A hA hw.2.2.1
  intro T hT X
  obtain ⟨v, st₀, t, T', L, h0, X', hL, e1, e2, ⟨⟨r, S', hv, hp, hP1⟩, hz, hk⟩, st⟩ := hr T hT X
  cases hv
  rw [h0] at hz hk
  obtain ⟨t2, a1, b1⟩ := kk v S' T'.heap (locs ++ L) hp ⟨by rw [e1]; exact hP1, gw_D hi (fun k hk => hA _ (Or.inl ⟨k, hk, rfl⟩)), Nat.le_trans hw.2.2.1 (by rw [e1]; exact hz), fun q h1 h2 => by rw [e1, hk q (Nat.lt_of_lt_of_le h1 hw.2.2.1) (fun z => h2 (hA1 q z))]; exact hw.2.2.2.1 q h1 h2, fun q hq => by
      rcases List.mem_append.mp hq with h | h
      · exact hw.2.2.2.2 q h
      · exact hA1 _ (hL q h)⟩ T' rfl X'
  exact ⟨t2, st t2 a1, b1⟩
theorem kI {v : Int32} {S1 : hS} (kk : ∀ (H1 : Heap) (locs1 : List Loc), Wd ad cI cL dC dI A H0 S1 H1 locs1 → W p l e R s m args below meth c H1 locs1 cells slots Q (F0 m pc ls (.int v :: rest))) : ∀ (r : Option Value) (S' : hS) (H1 : Heap) (locs1 : List Loc), pI v S1 r S' → Wd ad cI cL dC dI A H0 S' H1 locs1 → W p l e R s m args below meth c H1 locs1 cells slots Q (F0 m pc ls (r.toList ++ rest)) := by
  rintro r S' H1 locs1 ⟨rfl, rfl⟩ hw
  exact kk H1 locs1 hw
theorem kL {v : Int64} {S1 : hS} (kk : ∀ (H1 : Heap) (locs1 : List Loc), Wd ad cI cL dC dI A H0 S1 H1 locs1 → W p l e R s m args below meth c H1 locs1 cells slots Q (F0 m pc ls (.long v :: rest))) : ∀ (r : Option Value) (S' : hS) (H1 : Heap) (locs1 : List Loc), pL v S1 r S' → Wd ad cI cL dC dI A H0 S' H1 locs1 → W p l e R s m args below meth c H1 locs1 cells slots Q (F0 m pc ls (r.toList ++ rest)) := by
  rintro r S' H1 locs1 ⟨rfl, rfl⟩ hw
  exact kk H1 locs1 hw
theorem kV {S1 : hS} (kk : ∀ (H1 : Heap) (locs1 : List Loc), Wd ad cI cL dC dI A H0 S1 H1 locs1 → W p l e R s m args below meth c H1 locs1 cells slots Q (F0 m pc ls rest)) : ∀ (r : Option Value) (S' : hS) (H1 : Heap) (locs1 : List Loc), pV S1 r S' → Wd ad cI cL dC dI A H0 S' H1 locs1 → W p l e R s m args below meth c H1 locs1 cells slots Q (F0 m pc ls (r.toList ++ rest)) := by
  rintro r S' H1 locs1 ⟨rfl, rfl⟩ hw
  exact kk H1 locs1 hw
/-- what a call needs besides the link: the callee's words and its room -/
def Cw (R : Room) (cells slots : Nat) (y : MethodName) (b : ByteArray) (n : Nat) (ret : Option FieldType) (rm : Room) (k : Nat) : Prop :=
  Cond.code y b n ret ∈ wALL ∧ Cond.initialized y.cls ∈ wALL ∧ (y.cls ≠ "java/lang/invoke/MethodHandle" ∧ y.cls ≠ "java/lang/invoke/VarHandle" ∧ (parseMethodDescriptor y.desc).map (fun d => d.parameters.length) = some k) ∧ (rm.cells = 0 ∧ rm.slots = 0 ∧ rm.frames + 1 ≤ R.frames ∧ 8 + (n + 11) + rm.locals ≤ R.locals) ∧ cells ≤ R.cells ∧ slots ≤ R.slots
variable {y : MethodName} {b' : ByteArray} {n' : Nat} {ret' : Option FieldType} {rm' : Room} {k ci index : Nat} {ts : List Nat} {C host : String} {T : u_T} {N : Nat} {As st0 : List Value}
theorem pre_U (B : Bs p s m args c own cc nL cI cL dC dI) (hw : Wd ad cI cL dC dI A H0 S H locs) {av : List Value} : PreS s H (PcW ad cI cL dC dI S H.size av) av :=
  ⟨PcW_blind, fun U hU hWm => ⟨rfl, by rw [hU], by rw [hU]; exact hw.1, va_K.moved hWm.alike B.2.2.2.2.2.2, nw_warm hWm B.2.2.2.2.2.1⟩⟩
theorem pre_V (B : Bs p s m args c own cc nL cI cL dC dI) (hw : Wd ad cI cL dC dI A H0 S H locs) (hk : k < NC) (hsh : shp k = (2, ci, ts)) (hc : vwCl[ci]? = some (C, T, N)) : PreV s H C (ad k) (PcW ad cI cL dC dI S H.size (.ref (ad k) :: As)) As :=
  ⟨PcW_blind, va_recv (q := (C, T, N)) B.2.2.2.2.2.2 hw.1 hc (by rw [gw_get ad cI cL S hk, ce_o ad cI cL S hsh]), (pre_U B hw).2⟩
theorem V_callVN (B : Bs p s m args c own cc nL cI cL dC dI) (hi : adI ad) (hw : Wd ad cI cL dC dI A H0 S H locs) (hA : ∀ q, AA ad H0.size q → A q) (hls : ls.size = nL) (hM : Mt l ad cI cL dC dI y b' n' ret' rm' (.ref (ad k) :: As) S post) (hcw : Cw R cells slots y b' n' ret' rm' As.length) (hk : k < NC) (hsh : shp k = (2, ci, ts)) (hc : vwCl[ci]? = some (C, T, N)) (hl : Cond.methodLinkNest own index y host ∈ wNW) (hin : Cond.instanceMethod y ∈ wALL) (hse : Cond.selects C y y ∈ wALL) (hst : st0 = As.reverse ++ .ref (ad k) :: rest) (hW : (rest.map fun v => v.category).sum ≤ 8) (hdg : decode cc pc = .ok (.invokevirtual index, 3))
    (kk : ∀ (r : Option Value) (S' : hS) (H1 : Heap) (locs1 : List Loc), post r S' → Wd ad cI cL dC dI A H0 S' H1 locs1 → W p l e R s m args below meth c H1 locs1 cells slots Q (F0 m (pc + 3) ls (r.toList ++ rest))) : W p l e R s m args below meth c H locs cells slots Q (F0 m pc ls st0) :=
  V_fin (va_runVN (Ts := wALL) (C := C) (host := host) ⟨B.1, B.2.1, B.2.2.1, B.2.2.2.1, B.2.2.2.2.1⟩ (hM H.size) ⟨va_cnB As.length B.2.2.2.2.1 (good_cons hcw.1) rfl hcw.2.2.2.1.1 hcw.2.2.2.1.2.1 (B.2.2.2.2.2.1 _ hl) (B.2.2.2.2.1 _ hcw.2.1) hcw.2.2.1 hcw.2.2.2.1.2.2, B.2.2.2.2.1 _ hin, B.2.2.2.2.1 _ hse⟩ (pre_V B hw hk hsh hc) rfl rfl hls hst (lv_room hW) hdg hcw.2.2.2.2) hi hw hA kk
theorem V_callV (B : Bs p s m args c own cc nL cI cL dC dI) (hi : adI ad) (hw : Wd ad cI cL dC dI A H0 S H locs) (hA : ∀ q, AA ad H0.size q → A q) (hls : ls.size = nL) (hM : Mt l ad cI cL dC dI y b' n' ret' rm' (.ref (ad k) :: As) S post) (hcw : Cw R cells slots y b' n' ret' rm' As.length) (hk : k < NC) (hsh : shp k = (2, ci, ts)) (hc : vwCl[ci]? = some (C, T, N)) (hl : Cond.methodLink own index y ∈ wALL) (hin : Cond.instanceMethod y ∈ wALL) (hse : Cond.selects C y y ∈ wALL) (hst : st0 = As.reverse ++ .ref (ad k) :: rest) (hW : (rest.map fun v => v.category).sum ≤ 8) (hdg : decode cc pc = .ok (.invokevirtual index, 3))
    (kk : ∀ (r : Option Value) (S' : hS) (H1 : Heap) (locs1 : List Loc), post r S' → Wd ad cI cL dC dI A H0 S' H1 locs1 → W p l e R s m args below meth c H1 locs1 cells slots Q (F0 m (pc + 3) ls (r.toList ++ rest))) : W p l e R s m args below meth c H locs cells slots Q (F0 m pc ls st0) :=
  V_fin (va_runV (Ts := wALL) (C := C) ⟨B.1, B.2.1, B.2.2.1, B.2.2.2.1, B.2.2.2.2.1⟩ (hM H.size) ⟨callB_of As.length B.2.2.2.2.1 (good_cons hcw.1) rfl hcw.2.2.2.1.1 hcw.2.2.2.1.2.1 (B.2.2.2.2.1 _ hcw.2.1) (B.2.2.2.2.1 _ hl) hcw.2.2.1 hcw.2.2.2.1.2.2, B.2.2.2.2.1 _ hin, B.2.2.2.2.1 _ hse⟩ (pre_V B hw hk hsh hc) rfl rfl hls hst (lv_room hW) hdg hcw.2.2.2.2) hi hw hA kk
theorem V_callS (B : Bs p s m args c own cc nL cI cL dC dI) (hi : adI ad) (hw : Wd ad cI cL dC dI A H0 S H locs) (hA : ∀ q, AA ad H0.size q → A q) (hls : ls.size = nL) (hM : Mt l ad cI cL dC dI y b' n' ret' rm' As S post) (hcw : Cw R cells slots y b' n' ret' rm' As.length) (hl : Cond.methodLink own index y ∈ wALL) (hsa : Cond.static y ∈ wALL) (hst : st0 = As.reverse ++ rest) (hW : (rest.map fun v => v.category).sum ≤ 8) (hdg : decode cc pc = .ok (.invokestatic index, 3))
    (kk : ∀ (r : Option Value) (S' : hS) (H1 : Heap) (locs1 : List Loc), post r S' → Wd ad cI cL dC dI A H0 S' H1 locs1 → W p l e R s m args below meth c H1 locs1 cells slots Q (F0 m (pc + 3) ls (r.toList ++ rest))) : W p l e R s m args below meth c H locs cells slots Q (F0 m pc ls st0) :=
  V_fin (va_runS (Ts := wALL) ⟨B.1, B.2.1, B.2.2.1, B.2.2.2.1, B.2.2.2.2.1⟩ (hM H.size) ⟨callB_of As.length B.2.2.2.2.1 (good_cons hcw.1) rfl hcw.2.2.2.1.1 hcw.2.2.2.1.2.1 (B.2.2.2.2.1 _ hcw.2.1) (B.2.2.2.2.1 _ hl) hcw.2.2.1 hcw.2.2.2.1.2.2, B.2.2.2.2.1 _ hsa⟩ (pre_U B hw) rfl rfl hls hst (lv_room hW) hdg hcw.2.2.2.2) hi hw hA kk
theorem V_callSN (B : Bs p s m args c own cc nL cI cL dC dI) (hi : adI ad) (hw : Wd ad cI cL dC dI A H0 S H locs) (hA : ∀ q, AA ad H0.size q → A q) (hls : ls.size = nL) (hM : Mt l ad cI cL dC dI y b' n' ret' rm' As S post) (hcw : Cw R cells slots y b' n' ret' rm' As.length) (hl : Cond.methodLinkNest own index y host ∈ wNW) (hsa : Cond.static y ∈ wALL) (hst : st0 = As.reverse ++ rest) (hW : (rest.map fun v => v.category).sum ≤ 8) (hdg : decode cc pc = .ok (.invokestatic index, 3))
    (kk : ∀ (r : Option Value) (S' : hS) (H1 : Heap) (locs1 : List Loc), post r S' → Wd ad cI cL dC dI A H0 S' H1 locs1 → W p l e R s m args below meth c H1 locs1 cells slots Q (F0 m (pc + 3) ls (r.toList ++ rest))) : W p l e R s m args below meth c H locs cells slots Q (F0 m pc ls st0) :=
  V_fin (va_runSN (Ts := wALL) (host := host) ⟨B.1, B.2.1, B.2.2.1, B.2.2.2.1, B.2.2.2.2.1⟩ (hM H.size) ⟨va_cnB As.length B.2.2.2.2.1 (good_cons hcw.1) rfl hcw.2.2.2.1.1 hcw.2.2.2.1.2.1 (B.2.2.2.2.2.1 _ hl) (B.2.2.2.2.1 _ hcw.2.1) hcw.2.2.1 hcw.2.2.2.1.2.2, B.2.2.2.2.1 _ hsa, trivial⟩ (pre_U B hw) rfl rfl hls hst (lv_room hW) hdg hcw.2.2.2.2) hi hw hA kk
/-- a system copy between two int arrays of the world, from place 0 to place 0 -/
theorem V_acI (B : Bs p s m args c own cc nL cI cL dC dI) (hw : Wd ad cI cL dC dI A H0 S H locs) (hls : ls.size = nL) (hl : Cond.methodLink own index arraycopyName ∈ wALL) (hna : Cond.native arraycopyName ∈ wALL) (hsa : Cond.static arraycopyName ∈ wALL) (hini : Cond.initialized "java/lang/System" ∈ wALL) {k0 k1 n0 : Nat} {ts0 ts1 : List Nat} (hk0 : k0 < NC) (hk1 : k1 < NC) (h0 : shp k0 = (0, n0, ts0)) (h1 : shp k1 = (0, n0, ts1)) {x : Int32} (hx : x = nI n0) (hn : n0 < 2 ^ 31) (hfr : 1 ≤ R.frames) (hlo : (rest.map fun v => v.category).sum + (nativeFrameWords "java/lang/System" "arraycopy" 5 + 11) ≤ R.locals) (hdg : decode cc pc = .ok (.invokestatic index, 3))
    (kk : ∀ (H1 : Heap) (locs1 : List Loc), Wd ad cI cL dC dI A H0 (cpI S k0 k1 n0) H1 locs1 → W p l e R s m args below meth c H1 locs1 cells slots Q (F0 m (pc + 3) ls rest)) : W p l e R s m args below meth c H locs cells slots Q (F0 m pc ls (.int x :: .int 0 :: .ref (ad k1) :: .int 0 :: .ref (ad k0) :: rest)) := by
  subst hx
  have z0 : (0 : Int32).toNatClampNeg = 0 := by decide
  have zn : (nI n0).toNatClampNeg = n0 := nI_clamp hn
  refine va_copyi B.1 B.2.1 (by rw [B.2.2.1, hls]) B.2.2.2.1 (B.2.2.2.2.1 _ hl) (B.2.2.2.2.1 _ hna) (B.2.2.2.2.1 _ hsa) (B.2.2.2.2.1 _ hini) B.2.2.2.2.2.2 hw.1 hw.2.1 hw.2.2 k0 k1 0 0 (by rw [gw_get ad cI cL S hk0, ce_i ad cI cL S h0]) (by rw [gw_get ad cI cL S hk1, ce_i ad cI cL S h1]) (ty := .int) rfl rfl rfl (by decide) (by decide) (nI_pos hn) (by rw [z0, zn]; omega) (by rw [z0, zn]; omega) (fun i _ => rfl) hfr hlo hdg (fun H1 locs1 g1 g2 g3 => ?_)
  rw [z0, zn] at g1 g2
  have e : (gw ad cI cL S).set k1 (ad k1, .inl (cI, n0, .inl (va_cpy (S.1 k0) (S.1 k1) 0 0 n0))) = gw ad cI cL (cpI S k0 k1 n0) := by
    refine gw_set hk1 ?_ (fun a ha => ⟨by simp [cpI, ha], rfl⟩)
    rw [ce_i ad cI cL _ h1]
    simp [cpI]
  rw [e] at g1 g2
  exact kk H1 locs1 ⟨g1, g2, g3⟩
theorem V_acL (B : Bs p s m args c own cc nL cI cL dC dI) (hw : Wd ad cI cL dC dI A H0 S H locs) (hls : ls.size = nL) (hl : Cond.methodLink own index arraycopyName ∈ wALL) (hna : Cond.native arraycopyName ∈ wALL) (hsa : Cond.static arraycopyName ∈ wALL) (hini : Cond.initialized "java/lang/System" ∈ wALL) {k0 k1 n0 : Nat} {ts0 ts1 : List Nat} (hk0 : k0 < NC) (hk1 : k1 < NC) (h0 : shp k0 = (1, n0, ts0)) (h1 : shp k1 = (1, n0, ts1)) {x : Int32} (hx : x = nI n0) (hn : n0 < 2 ^ 31) (hfr : 1 ≤ R.frames) (hlo : (rest.map fun v => v.category).sum + (nativeFrameWords "java/lang/System" "arraycopy" 5 + 11) ≤ R.locals) (hdg : decode cc pc = .ok (.invokestatic index, 3))
    (kk : ∀ (H1 : Heap) (locs1 : List Loc), Wd ad cI cL dC dI A H0 (cpL S k0 k1 n0) H1 locs1 → W p l e R s m args below meth c H1 locs1 cells slots Q (F0 m (pc + 3) ls rest)) : W p l e R s m args below meth c H locs cells slots Q (F0 m pc ls (.int x :: .int 0 :: .ref (ad k1) :: .int 0 :: .ref (ad k0) :: rest)) := by
  subst hx
  have z0 : (0 : Int32).toNatClampNeg = 0 := by decide
  have zn : (nI n0).toNatClampNeg = n0 := nI_clamp hn
  refine va_copyl B.1 B.2.1 (by rw [B.2.2.1, hls]) B.2.2.2.1 (B.2.2.2.2.1 _ hl) (B.2.2.2.2.1 _ hna) (B.2.2.2.2.1 _ hsa) (B.2.2.2.2.1 _ hini) B.2.2.2.2.2.2 hw.1 hw.2.1 hw.2.2 k0 k1 1 1 (by rw [gw_get ad cI cL S hk0, ce_l ad cI cL S h0]) (by rw [gw_get ad cI cL S hk1, ce_l ad cI cL S h1]) (ty := .long) rfl rfl rfl (by decide) (by decide) (nI_pos hn) (by rw [z0, zn]; omega) (by rw [z0, zn]; omega) (fun i _ => rfl) hfr hlo hdg (fun H1 locs1 g1 g2 g3 => ?_)
  rw [z0, zn] at g1 g2
  have e : (gw ad cI cL S).set k1 (ad k1, .inl (cL, n0, .inr (.inl (va_cpy (S.2 k0) (S.2 k1) 0 0 n0)))) = gw ad cI cL (cpL S k0 k1 n0) := by
    refine gw_set hk1 ?_ (fun a ha => ⟨rfl, by simp [cpL, ha]⟩)
    rw [ce_l ad cI cL _ h1]
    simp [cpL]
  rw [e] at g1 g2
  exact kk H1 locs1 ⟨g1, g2, g3⟩
end HLcalls
/-! what keeps places within their arrays -/
def rg (x : Int32) (n : Int) : Prop := 0 ≤ x.toInt ∧ x.toInt < n
def bt (x : Int32) (n : Int) : Prop := 0 ≤ x.toInt ∧ x.toInt ≤ n
def lp (i e : Int32) : Prop := 0 ≤ i.toInt ∧ i.toInt ≤ 240 ∧ e.toInt ≤ 240
def wfC (S : hS) : Prop := bt (S.1 2 0) 8 ∧ bt (S.1 10 0) 40 ∧ bt (S.1 10 8) 280 ∧ bt (S.1 20 0) 10 ∧ bt (S.1 1 4) 20 ∧ (∀ k, k < 40 → bt (S.1 13 k) 6) ∧ (∀ k, k < 40 → rg (S.1 14 k) 40) ∧ (1 ≤ (S.2 1 7).toInt ∧ (S.2 1 7).toInt ≤ 100)
def wfM (S : hS) : Prop := (0 ≤ (S.2 50 0).toInt ∧ (S.2 50 0).toInt ≤ 8) ∧ (0 ≤ (S.2 50 1).toInt ∧ (S.2 50 1).toInt ≤ 40) ∧ (0 ≤ (S.2 50 3).toInt ∧ (S.2 50 3).toInt ≤ 10) ∧ (0 ≤ (S.2 50 4).toInt ∧ (S.2 50 4).toInt ≤ 20) ∧ (∀ k, k < 40 → 0 ≤ (S.2 50 (260 + k)).toInt ∧ (S.2 50 (260 + k)).toInt ≤ 6) ∧ (∀ k, k < 240 → 0 ≤ (S.2 50 (300 + k)).toInt ∧ (S.2 50 (300 + k)).toInt < 8) ∧ (1 ≤ (S.2 50 6).toInt ∧ (S.2 50 6).toInt ≤ 100) ∧ (∀ k : Nat, k < 40 → (S.2 50 1).toInt ≤ k → (S.2 50 (260 + k)).toInt = 0)
