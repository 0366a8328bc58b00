theorem nw_of {args : Array Value} {s : State} {w : Cond} (hw : w ∈ wNW) (h : w.before args s = true) : va_Nw w s := by
  have hn := wNW_ok w hw
  unfold isNest at hn
  split at hn
  · exact va_tabs (A := args) (u := s) rfl rfl h
  · exact va_tabs (A := args) (u := s) rfl rfl h
  · cases hn
theorem ra_eqI {U : State} {a b : ClassId} (h : va_RA U a .int) (h' : va_RA U b .int) : a = b := Option.some.inj (Eq.trans (Eq.symm (show U.vm.findClass ("[" ++ FieldType.int.toString) = some a from h)) h')
theorem ra_eqL {U : State} {a b : ClassId} (h : va_RA U a .long) (h' : va_RA U b .long) : a = b := Option.some.inj (Eq.trans (Eq.symm (show U.vm.findClass ("[" ++ FieldType.long.toString) = some a from h)) h')
def adOf (l : List Nat) : Nat → Nat := fun k => l.getD k 0
theorem ad_I {ad : Nat → Nat} {cI cL : ClassId} {S : hS} {A : Nat → Prop} (h : va_D A (gw ad cI cL S)) : adI ad := fun i j hi hj e => h.1 i j _ _ (gw_get ad cI cL S hi) (gw_get ad cI cL S hj) e
theorem AA_law {ad : Nat → Nat} {cI cL : ClassId} {S : hS} {A : Nat → Prop} {sz : Nat} (hA : ∀ q : Nat, sz ≤ q → A q) (h : va_D A (gw ad cI cL S)) : ∀ q, AA ad sz q → A q := by
  rintro q (⟨k, hk, rfl⟩ | hq)
  · exact h.2 k _ (gw_get ad cI cL S hk)
  · exact hA q hq
theorem ixs {t L : Nat} {k : Int32} (kn : Nat) (hk : k = nI kn) (hkn : kn < 6) (h6 : 6 * t + 6 ≤ L) (hL : L ≤ 3072) : vp_in (nI (6 * t) + k) L := by
  subst hk
  rw [nI_add]
  exact vp_in_nI (by omega) (by omega)
theorem ixs_0 {t L : Nat} (h6 : 6 * t + 6 ≤ L) (hL : L ≤ 3072) : vp_in (nI (6 * t)) L := vp_in_nI (by omega) (by omega)
theorem ixs_1 {t L : Nat} (h6 : 6 * t + 6 ≤ L) (hL : L ≤ 3072) : vp_in (nI (6 * t) + 1) L := ixs 1 (by decide) (by decide) h6 hL
theorem ixs_2 {t L : Nat} (h6 : 6 * t + 6 ≤ L) (hL : L ≤ 3072) : vp_in (nI (6 * t) + 2) L := ixs 2 (by decide) (by decide) h6 hL
theorem ixs_3 {t L : Nat} (h6 : 6 * t + 6 ≤ L) (hL : L ≤ 3072) : vp_in (nI (6 * t) + 3) L := ixs 3 (by decide) (by decide) h6 hL
theorem ixs_4 {t L : Nat} (h6 : 6 * t + 6 ≤ L) (hL : L ≤ 3072) : vp_in (nI (6 * t) + 4) L := ixs 4 (by decide) (by decide) h6 hL
theorem ixs_5 {t L : Nat} (h6 : 6 * t + 6 ≤ L) (hL : L ≤ 3072) : vp_in (nI (6 * t) + 5) L := ixs 5 (by decide) (by decide) h6 hL
theorem lw_turn {t L : Nat} (ht : 6 * t ≤ L) (hL : L ≤ 3072) (c : ¬ Int32.ofNat L - 6 < nI (6 * t)) : 6 * t + 6 ≤ L := by
  rw [Int32.lt_iff_toInt_lt, nI_toInt (by omega), ti_sub (show (Int32.ofNat L).toInt = (L : Int) from nI_toInt (n := L) (by omega)) (show (6 : Int32).toInt = 6 by decide) (by omega) (by omega)] at c
  omega
theorem nI_6 (t : Nat) : nI (6 * t) + Int32.ofInt 6 = nI (6 * (t + 1)) := by
  rw [show Int32.ofInt 6 = nI 6 from by decide, nI_add]
  rfl
theorem sw23 (z : Int32) : z = 0 ∨ z = 1 ∨ z = 2 ∨ z = 3 ∨ z = 4 ∨ z = 5 ∨ z = 6 ∨ z = 7 ∨ z = 8 ∨ z = 9 ∨ z = 10 ∨ z = 11 ∨ z = 12 ∨ z = 13 ∨ z = 14 ∨ z = 15 ∨ z = 16 ∨ z = 17 ∨ z = 18 ∨ z = 19 ∨ z = 20 ∨ z = 21 ∨ z = 22 ∨ (z.toInt < 0 ∨ 22 < z.toInt) := by
  rw [← Int32.toInt_inj (y := 0), ← Int32.toInt_inj (y := 1), ← Int32.toInt_inj (y := 2), ← Int32.toInt_inj (y := 3), ← Int32.toInt_inj (y := 4), ← Int32.toInt_inj (y := 5), ← Int32.toInt_inj (y := 6), ← Int32.toInt_inj (y := 7), ← Int32.toInt_inj (y := 8), ← Int32.toInt_inj (y := 9), ← Int32.toInt_inj (y := 10), ← Int32.toInt_inj (y := 11), ← Int32.toInt_inj (y := 12), ← Int32.toInt_inj (y := 13), ← Int32.toInt_inj (y := 14), ← Int32.toInt_inj (y := 15), ← Int32.toInt_inj (y := 16), ← Int32.toInt_inj (y := 17), ← Int32.toInt_inj (y := 18), ← Int32.toInt_inj (y := 19), ← Int32.toInt_inj (y := 20), ← Int32.toInt_inj (y := 21), ← Int32.toInt_inj (y := 22)]
  rw [show (0 : Int32).toInt = 0 by decide, show (1 : Int32).toInt = 1 by decide, show (2 : Int32).toInt = 2 by decide, show (3 : Int32).toInt = 3 by decide, show (4 : Int32).toInt = 4 by decide, show (5 : Int32).toInt = 5 by decide, show (6 : Int32).toInt = 6 by decide, show (7 : Int32).toInt = 7 by decide, show (8 : Int32).toInt = 8 by decide, show (9 : Int32).toInt = 9 by decide, show (10 : Int32).toInt = 10 by decide, show (11 : Int32).toInt = 11 by decide, show (12 : Int32).toInt = 12 by decide, show (13 : Int32).toInt = 13 by decide, show (14 : Int32).toInt = 14 by decide, show (15 : Int32).toInt = 15 by decide, show (16 : Int32).toInt = 16 by decide, show (17 : Int32).toInt = 17 by decide, show (18 : Int32).toInt = 18 by decide, show (19 : Int32).toInt = 19 by decide, show (20 : Int32).toInt = 20 by decide, show (21 : Int32).toInt = 21 by decide, show (22 : Int32).toInt = 22 by decide]
  omega
section HLlaw
variable {p : Program} {l : Launch} {e : Env} {R : Room} {s : State} {m : MethodId} {args : Array Value} {below : List Frame} {meth : Method} {c : Code} {H : Heap} {locs : List Loc} {cells slots mc ms : Nat} {Q : State → Prop}
variable {ad : Nat → Nat} {cI cL : ClassId} {dC : Nat → ClassId} {dI : Nat → Nat → Nat} {own : String} {cc : ByteArray} {nL pc index : Nat} {ls : Array Slot} {rest As st0 : List Value} {A : Nat → Prop} {H0 : Heap} {S : hS} {post : Option Value → hS → Prop}
variable {y : MethodName} {b' : ByteArray} {n' sa : Nat} {ret' : Option FieldType} {rm' : Room} {hh : List (Nat × Nat × Nat × Nat)}
/-- a contract of a method with a table, that may make cells -/
def Mtx (l : Launch) (ad : Nat → Nat) (cI cL : ClassId) (dC : Nat → ClassId) (dI : Nat → Nat → Nat) (y : MethodName) (b : ByteArray) (n : Nat) (ret : Option FieldType) (hh : List (Nat × Nat × Nat × Nat)) (rm : Room) (av : List Value) (S : hS) (post : Option Value → hS → Prop) (mc ms sa : Nat) : Prop :=
  ∀ sz, Met l y (.codeWith y b n ret hh :: wALL) rm (PcX ad cI cL dC dI S sz av RHL sIX sTX sa) (QcW ad cI cL dC dI post (AA ad sz)) mc ms (AA ad sz)
theorem Mtx_of {av : List Value} (hi : adI ad) (hy : plainName y.cls = true) (ho : y.cls = own) (hlen : (lg_sl av).length ≤ n')
    (body : ∀ (p : Program) (e : Env) (s : State) (m : MethodId) (args : Array Value) (below : List Frame) (meth : Method) (c : Code) (ls : Array Slot), Bs p s m args c own b' n' cI cL dC dI → meth.sig.returnType = ret' → meth.locks = false → c.exceptionTable.toList.map (fun h => (h.startPc, h.endPc, h.handlerPc, h.catchType)) = hh → zz (AA ad s.heap.size) s s.heap → vk_R RHL sIX sTX sa s → Wd ad cI cL dC dI (AA ad s.heap.size) s.heap S s.heap [] → lv_has ls n' (lv_args 0 av) →
      W p l e rm' s m args below meth c s.heap [] 0 0 (MQ below (QcW ad cI cL dC dI post (AA ad s.heap.size)) args s mc ms (AA ad s.heap.size)) (F0 m 0 ls [])) : Mtx l ad cI cL dC dI y b' n' ret' hh rm' av S post mc ms sa := by
  intro sz
  refine va_MetW (cc := b') (maxL := n') (ret := ret') (hh := hh) hy rfl ?_
  intro p e s m args below meth c s₁ Bo hml hv
  obtain ⟨rfl, hsz, hP, hK, hN, hz, hst⟩ := hv
  subst hsz
  have hts := atoms_spec (ws := .codeWith y b' n' ret' hh :: wALL) Bo.pre
  have hl := lv_entry av (n := n') hlen
  have hown : s.vm.findClass y.cls = some m.cls := findClass_of_methodNamed Bo.named
  rw [ho] at hown
  have htab : c.exceptionTable.toList.map (fun h => (h.startPc, h.endPc, h.handlerPc, h.catchType)) = hh := by
    obtain ⟨m9, meth9, c9, n1, n2, n3, -, -, n6, -⟩ := Cond.codeWith_spec (hts _ List.mem_cons_self)
    cases Bo.named.symm.trans n1
    cases Bo.method.symm.trans n2
    cases (Stand.of_body Bo).code.symm.trans n3
    exact n6
  rw [lg_entry_eq]
  exact body p e s m _ below meth c _ ⟨Bo.exec, Bo.bytes, hml, hown, fun w h => hts w (List.mem_cons_of_mem _ h), hN, hK⟩ Bo.returns Bo.notSynchronized htab hz hst ⟨hP, gw_D hi (fun k hk => Or.inl ⟨k, hk, rfl⟩), va_S.rf⟩ hl
theorem V_iretx (B : Bs p s m args c own cc nL cI cL dC dI) (hr : meth.sig.returnType = some .int) (hlk : meth.locks = false) (hw : Wd ad cI cL dC dI A s.heap S H locs) {v : Int32} (hp : post (some (.int v)) S) (hdg : decode cc pc = .ok (.ireturn, 1)) :
    W p l e R s m args below meth c H locs cells slots (MQ below (QcW ad cI cL dC dI post A) args s cells slots A) (F0 m pc ls [.int v]) :=
  W.iret B.1 B.2.1 hr (fun t ht hW => ⟨⟨some (.int v), S, rfl, hp, by rw [ht]; exact hw.1⟩, hw.2.2.F ht⟩) hw.2.2.2.2 hdg hlk
theorem V_finx {a : Array Value} (hr : va_Run p l e R s m args below meth c H locs cells slots mc ms (F0 m pc ls st0) rest (QcW ad cI cL dC dI post (AA ad H.size) a) (AA ad H.size)) (hi : adI ad) (hw : Wd ad cI cL dC dI A H0 S H locs) (hA : ∀ q, AA ad H0.size q → A q)
    (kk : ∀ (r : Option Value) (S' : hS) (H1 : Heap) (locs1 : List Loc), post r S' → Wd ad cI cL dC dI A H0 S' H1 locs1 → W p l e R s m args below meth c H1 locs1 (cells + mc) (slots + ms) Q (F0 m (pc + 3) ls (r.toList ++ rest))) : W p l e R s m args below meth c H locs cells slots Q (F0 m pc ls st0) := by
  have hA1 := AA_A hA hw.2.2.1
  intro T hT X
  obtain ⟨v, st₀, t, T', L, h0, X', hL, e1, e2, ⟨⟨r, S', hv, hp, hP1⟩, hz, hk⟩, st⟩ := hr T hT X
  cases hv
  rw [h0] at hz hk
  obtain ⟨t2, a1, b1⟩ := kk v S' T'.heap (locs ++ L) hp ⟨by rw [e1]; exact hP1, gw_D hi (fun k hk => hA _ (Or.inl ⟨k, hk, rfl⟩)), Nat.le_trans hw.2.2.1 (by rw [e1]; exact hz), fun q h1 h2 => by rw [e1, hk q (Nat.lt_of_lt_of_le h1 hw.2.2.1) (fun z => h2 (hA1 q z))]; exact hw.2.2.2.1 q h1 h2, fun q hq => by
      rcases List.mem_append.mp hq with h | h
      · exact hw.2.2.2.2 q h
      · exact hA1 _ (hL q h)⟩ T' rfl X'
  exact ⟨t2, st t2 a1, b1⟩
/-- the call of a static method with a table -/
theorem V_callSW (B : Bs p s m args c own cc nL cI cL dC dI) (hi : adI ad) (hw : Wd ad cI cL dC dI A H0 S H locs) (hA : ∀ q, AA ad H0.size q → A q) (hls : ls.size = nL) (hM : Mtx l ad cI cL dC dI y b' n' ret' hh rm' As S post mc ms sa) (hz : zz (AA ad H.size) s H) (hstr : vk_R RHL sIX sTX sa s)
    (hcw : Cond.initialized y.cls ∈ wALL ∧ (y.cls ≠ "java/lang/invoke/MethodHandle" ∧ y.cls ≠ "java/lang/invoke/VarHandle" ∧ (parseMethodDescriptor y.desc).map (fun d => d.parameters.length) = some As.length) ∧ rm'.cells = mc ∧ rm'.slots = ms ∧ rm'.frames + 1 ≤ R.frames ∧ 8 + (n' + 11) + rm'.locals ≤ R.locals)
    (hl : Cond.methodLink own index y ∈ wALL) (hsa : Cond.static y ∈ wALL) (hcode : Cond.codeWith y b' n' ret' hh ∈ wALL) (hst : st0 = As.reverse ++ rest) (hW : (rest.map fun v => v.category).sum ≤ 8) (hdg : decode cc pc = .ok (.invokestatic index, 3)) (hc : cells + mc ≤ R.cells) (hs : slots + ms ≤ R.slots)
    (kk : ∀ (r : Option Value) (S' : hS) (H1 : Heap) (locs1 : List Loc), post r S' → Wd ad cI cL dC dI A H0 S' H1 locs1 → W p l e R s m args below meth c H1 locs1 (cells + mc) (slots + ms) Q (F0 m (pc + 3) ls (r.toList ++ rest))) : W p l e R s m args below meth c H locs cells slots Q (F0 m pc ls st0) := by
  have hts := B.2.2.2.2.1
  refine V_finx (a := As.toArray) ?_ hi hw hA kk
  have hp : PreS s H (PcX ad cI cL dC dI S H.size As RHL sIX sTX sa) As := ⟨PcX_blind, fun U hU hWm => ⟨rfl, by rw [hU], by rw [hU]; exact hw.1, va_K.moved hWm.alike B.2.2.2.2.2.2, nw_warm hWm B.2.2.2.2.2.1, by rw [hU]; exact hz.moved hWm.alike, vk_R.warm hWm hstr⟩⟩
  have hK : Back l R p e below s args y 3 8 (PreOf R mc ms (PcX ad cI cL dC dI S H.size As RHL sIX sTX sa)) (PostOf (QcW ad cI cL dC dI post (AA ad H.size)) mc ms (AA ad H.size)) :=
    va_backW (hh := hh) (bytes := b') (maxL := n') (ret := ret') (hM H.size) hp.1 hcw.2.2.1 hcw.2.2.2.1 hcw.2.2.2.2.1 hcw.2.2.2.2.2 (pay_in hts (good_cons hcode)) List.mem_cons_self (fun a' U hW => word_at hW (Or.inl rfl) (hts _ hcw.1))
  obtain ⟨mk, methM, cM, hnamed, hmethM, -, -, -, -, -, -, hsig⟩ := Cond.codeWith_spec (hts _ hcode)
  intro T hT X
  obtain ⟨v, vm₁, ⟨U', l2, c2, s2⟩, hW₁, X', ⟨g', mk', t, L, e1, e2, hq, h1, hL, h2, h3⟩, st⟩ := X.staticBack B.1 B.2.2.2.1 (hts _ hl) (hts _ hsa) (hts _ hcw.1) hnamed hmethM hsig ⟨hcw.2.1.1, hcw.2.1.2.1⟩ hK (g := F0 m pc ls st0) rfl (hls.trans B.2.2.1.symm) (Steps.refl _) (argsL := As) (rest := rest)
    (fun sig h => by have h2 := hcw.2.1.2.2; rw [h] at h2; exact (Option.some.inj h2).symm) hst (lv_room hW) (by rw [B.2.1]; exact hdg) (fun vm₁ hW₁ => ⟨hc, hs, hp.2 (T.setVm vm₁) hT hW₁⟩)
  dsimp only [Pt.U, Pt.locs, Pt.cells, Pt.slots] at X' e1 e2 h1 h2 h3 st
  subst h1; subst h2; subst h3
  exact ⟨v, (T.setVm vm₁).calling g' mk' As.toArray, t, U', L, hT, X', hL, e1, e2, hq, fun target h => st.trans h⟩
end HLlaw
theorem tr_off {l : Launch} {e : Env} (h : l.admits e) (hfl : l.flags = flags0) : e.platform.stackTraces = false := by
  have h1 := h.2.2.2.2.1
  rw [h1]
  show (!l.flags.contains noTraceFlag) = false
  rw [hfl]
  decide
theorem vk_some {own tx : String} {k : Nat} {A : Array Value} {U : State} (h : (Cond.stringRef own k tx).before A U = true) : ∃ sa : Nat, vk_R own k tx sa U := by
  cases hc : U.vm.findClass own with
  | none => simp [Cond.before, Cond.holds, Cond.value, hc] at h
  | some cur =>
    obtain ⟨_, _, _, a, _, _, _, _, _, hev⟩ := Cond.stringRef_spec hc h
    exact ⟨a, vk_R.of h hev⟩
/-- HouseLedger.close returns -/
abbrev NT (S : hS) (x : Int32) : Prop := FJO_isOpen S x = 0 ∨ FBO_isUnclosedDay S ((S.1 11 x.toNatClampNeg).toInt64) = 0 ∨ FJO_sumOf S x = 0
/-- what the law's close answers, and the state behind it -/
def FLA_close (S : hS) (x : Int32) : Int32 × hS := if NT S x then (0, sL (FHL_close S x).2 52 0 (FHL_close S x).1.toInt64) else (1, S)
theorem FLA_0 {S : hS} {x : Int32} (h : NT S x) : FLA_close S x = (0, sL (FHL_close S x).2 52 0 (FHL_close S x).1.toInt64) := if_pos h
theorem FLA_1 {S : hS} {x : Int32} (h : ¬ NT S x) : FLA_close S x = (1, S) := if_neg h

