def IAEup : List String := ["java/lang/RuntimeException", "java/lang/Exception"]
/-- the words of a throw that lie in the tables -/
def xno (w : Cond) : Bool := decide (w ≠ .isRef (.static Bundle.tN "UNASSIGNED_STACK" Bundle.steD)) && decide (w ≠ .isRef (.static Bundle.tN "SUPPRESSED_SENTINEL" Bundle.listD)) && decide (w ≠ .laysStatic Bundle.tN "UNASSIGNED_STACK" Bundle.steD) && decide (w ≠ .laysStatic Bundle.tN "SUPPRESSED_SENTINEL" Bundle.listD) && decide (w ≠ .castable IAE IAE)
def isDecl : Cond → Bool
  | .declares _ => true
  | _ => false
def xnd (w : Cond) : Bool := xno w && !isDecl w
theorem dec_of {args : Array Value} {s : State} {x : MethodName} {b : ByteArray} {n : Nat} {r : Option FieldType} (h1 : (Cond.instanceMethod x).before args s = true) (h2 : (Cond.code x b n r).before args s = true) : (Cond.declares x).before args s = true := by
  obtain ⟨mk, meth, hn, hm, hst, -⟩ := Cond.instanceMethod_spec h1
  obtain ⟨meth', c, hm', -, -, -, -, -, -, hsig⟩ := Cond.code_spec hn h2
  cases hm.symm.trans hm'
  simp [Cond.before, Cond.holds, Cond.value, hn, hm, hst, hsig]
theorem x_atoms {args : Array Value} {s : State} {A : Nat → Prop} {L : List Cond} (hz : zz A s s.heap) (h : ∀ w ∈ L.filter xnd, w.before args s = true) (hd : ∀ w ∈ L.filter isDecl, w.before args s = true) : ∀ w ∈ L, w.before args s = true := by
  intro w hw
  by_cases cd : isDecl w = true
  · exact hd w (List.mem_filter.mpr ⟨hw, cd⟩)
  by_cases c : xno w = true
  · exact h w (List.mem_filter.mpr ⟨hw, by unfold xnd; rw [c]; simpa using cd⟩)
  · by_cases c1 : w = .isRef (.static Bundle.tN "UNASSIGNED_STACK" Bundle.steD)
    · rw [c1]; exact hz.1.ref
    by_cases c2 : w = .isRef (.static Bundle.tN "SUPPRESSED_SENTINEL" Bundle.listD)
    · rw [c2]; exact hz.2.1.ref
    by_cases c3 : w = .laysStatic Bundle.tN "UNASSIGNED_STACK" Bundle.steD
    · rw [c3]; exact hz.1.lays
    by_cases c4 : w = .laysStatic Bundle.tN "SUPPRESSED_SENTINEL" Bundle.listD
    · rw [c4]; exact hz.2.1.lays
    by_cases c5 : w = .castable IAE IAE
    · rw [c5]; exact hz.2.2.word
    · exact absurd (by unfold xno; simp [c1, c2, c3, c4, c5]) c
theorem va_lt {D : va_G} {cl : List vw_C} {q : Nat × va_E} {H : Heap} (h : va_at D cl q H) : q.1 < H.size := by
  unfold va_at at h
  split at h
  · exact (Array.getElem?_eq_some_iff.mp h).1
  · obtain ⟨r, h1, cell, g1, -⟩ := h
    exact (Array.getElem?_eq_some_iff.mp g1).1
theorem va_P.old {D : va_G} {cl : List vw_C} {ws : va_W} {H H1 : Heap} (h : va_P D cl ws H) (hq : ∀ a : Nat, a < H.size → H1[a]? = H[a]?) : va_P D cl ws H1 := va_P.kept h (fun k q hk => hq _ (va_lt (h k q hk)))
section HLthrow2
variable {p : Program} {l : Launch} {e : Env} {R : Room} {s : State} {m : MethodId} {args : Array Value} {below : List Frame} {meth : Method} {c : Code} {H : Heap} {locs : List Loc} {cells slots : Nat} {Q : State → Prop}
variable {ad : Nat → Nat} {cI cL : ClassId} {dC : Nat → ClassId} {dI : Nat → Nat → Nat} {own : String} {cc : ByteArray} {nL pc : Nat} {ls : Array Slot} {rest As st0 : List Value} {A : Nat → Prop} {H0 : Heap} {S : hS}
/-- how a method that throws ends -/
def QX (ad : Nat → Nat) (cI cL : ClassId) (dC : Nat → ClassId) (dI : Nat → Nat → Nat) (S : hS) (A : Nat → Prop) (st : State) (o : Outcome) (t : State) : Prop :=
  ∃ (q : Addr) (ce : Cell) (L : List Loc), o = .threw q ∧ t.heap[q]? = some ce ∧ ce.vm = .none ∧ st.vm.findClass IAE = some ce.cls ∧ va_P (dC, dI) vwCl (gw ad cI cL S) t.heap ∧ va_F A st t ∧ st.WarmedH t.vm ∧ st.sameButNew ({ t with vm := st.vm } : State) L 1 6 ∧ ∀ z ∈ L, A z.base
def XQ (below : List Frame) (ad : Nat → Nat) (cI cL : ClassId) (dC : Nat → ClassId) (dI : Nat → Nat → Nat) (S : hS) (A : Nat → Prop) (s : State) : State → Prop := fun t => t.status = .running ∧ ∃ o, Ended t below o ∧ QX ad cI cL dC dI S A s o t
theorem X_leaf (B : Bs p s m args c own cc nL cI cL dC dI) (hfl : e.platform.stackTraces = false) (hw : Wd ad cI cL dC dI (AA ad s.heap.size) s.heap S H locs) (hz : zz (AA ad s.heap.size) s s.heap) (hls : ls.size = nL) (hlk : meth.locks = false) (hout : c.exceptionTable.toList = [])
    {ik is ic sa : Nat} {tx : String} (hstr : vk_R own is tx sa s) (hcl : Cond.classLink own ik IAE ∈ wALL) (hini : Cond.initialized IAE ∈ wALL) (hins : Cond.instantiable IAE 6 ∈ wALL) (hat : ∀ w ∈ (Bundle.ownAtoms own ic IAE IAEup).filter xnd, w ∈ wALL) (hdc : ∀ (a : Array Value) (u : State), (∀ w ∈ (Bundle.ownAtoms own ic IAE IAEup).filter xnd, w.before a u = true) → ∀ w ∈ (Bundle.ownAtoms own ic IAE IAEup).filter isDecl, w.before a u = true)
    (hR : 1 ≤ R.cells ∧ 6 ≤ R.slots ∧ 5 < R.frames ∧ 82 ≤ R.locals) (d0 : decode cc pc = .ok (.new ik, 3)) (d3 : decode cc (pc + 3) = .ok (.dup, 1)) (d4 : decode cc (pc + 4) = .ok (.ldc is, 2)) (d6 : decode cc (pc + 6) = .ok (.invokespecial ic, 3)) (d9 : decode cc (pc + 9) = .ok (.athrow, 1)) :
    W p l e R s m args below meth c H locs 0 0 (XQ below ad cI cL dC dI S (AA ad s.heap.size) s) (F0 m pc ls []) := by
  intro T hT X
  have X' := x_again X
  have hTw : ∀ w ∈ wALL, ∀ a' : Array Value, w.before a' (T.setFrames s.frames) = true := fun w h a' => word_at (U := T.setFrames s.frames) X.warmed (good_of_word (wALL_ok w h)) (B.2.2.2.2.1 w h)
  have hown' : (T.setFrames s.frames).vm.findClass own = some m.cls := by
    show T.vm.findClass own = _
    rw [X.warmed.alike.findClass]
    exact B.2.2.2.1
  have hz' : zz (AA ad s.heap.size) (T.setFrames s.frames) (T.setFrames s.frames).heap := by
    have h1 : zz (AA ad s.heap.size) (T.setFrames s.frames) s.heap := hz.moved X.warmed.alike
    show zz _ _ T.heap
    rw [hT]
    exact h1.kept hw.2.2.2.1
  have hstr' : vk_R own is tx sa (T.setFrames s.frames) := vk_R.warm (U := T.setFrames s.frames) X.warmed hstr
  have K : W p l e R (T.setFrames s.frames) m args below meth c T.heap [] 0 0 (fun t => t.status = .running ∧ ∃ (q : Addr) (ce : Cell), Ended t below (.threw q) ∧ (T.setFrames s.frames).WarmedH t.vm ∧ (T.setFrames s.frames).sameButNew ({ t with vm := (T.setFrames s.frames).vm } : State) [] 1 6 ∧ t.heap[q]? = some ce ∧ ce.vm = .none ∧ (T.setFrames s.frames).vm.findClass IAE = some ce.cls) (F0 m pc ls []) := by
    refine W.newc B.1 B.2.1 hown' (hTw _ hcl _) (hTw _ hins _) (hTw _ hini _) (g := F0 m pc ls []) rfl d0 (by omega) (by omega) (fun cC kC h1 h2 h3 h4 => ?_)
    refine W.eq (g2 := F0 m (pc + 3) ls [.ref T.heap.size]) rfl ?_
    refine lv_dup B.1 B.2.1 d3 rfl ?_
    refine va_ldcS B.1 B.2.1 hown' hstr' d4 ?_
    intro T2 hT2 X2
    obtain ⟨U, hst, hrun, hend, hWU, hsame, ce, hce, ho⟩ := X2.ctorThrowS B.1 hfl hown' (cls := IAE) (names := IAEup) (ic := ic) (by decide) (by decide) (x_atoms hz' (fun w h => hTw w (hat w h) _) (hdc _ _ (fun w h => hTw w (hat w h) _))) (fun x hx => by cases hx) (a := T.heap.size) h1 h2 (by rw [hT2]; exact Array.getElem?_push_size) (Nat.le_refl _) (msg := .ref sa) rfl (g := F0 m (pc + 6) ls [.ref sa, .ref T.heap.size, .ref T.heap.size]) rfl (hls.trans B.2.2.1.symm) rfl rfl (rest := []) rfl (by rw [B.2.1]; exact d6) (by rw [B.2.1]; exact d9) (fun x hx => by rw [hout] at hx; cases hx) hR.2.2.1 hR.2.2.2 hlk
    exact ⟨U, hst, hrun, T.heap.size, ce, hend, hWU, hsame, hce, ho.vm, ho.cls⟩
  obtain ⟨t, a1, hrun, q, ce, hend, hWt, hsame, hce, hcv, hcls⟩ := K T rfl X'
  obtain ⟨hW2, hs2⟩ := x_back X hWt hsame
  have hold : ∀ a : Nat, a < H.size → t.heap[a]? = H[a]? := fun a ha => by
    rw [← hT] at ha ⊢
    have h1 : T.heap[a]? = some T.heap[a] := Array.getElem?_eq_getElem ha
    rw [h1]
    exact hsame.old_cell h1
  have hsz : H.size ≤ t.heap.size := by rw [← hT]; exact hsame.2.1
  refine ⟨t, a1, hrun, .threw q, hend, q, ce, locs, rfl, hce, hcv, ?_, hw.1.old hold, ⟨Nat.le_trans hw.2.2.1 hsz, fun a ha hn => by rw [hold a (Nat.lt_of_lt_of_le ha hw.2.2.1)]; exact hw.2.2.2.1 a ha hn⟩, hW2, hs2, hw.2.2.2.2⟩
  have h1 : T.vm.findClass IAE = some ce.cls := hcls
  rw [X.warmed.alike.findClass] at h1
  exact h1
def PcX (ad : Nat → Nat) (cI cL : ClassId) (dC : Nat → ClassId) (dI : Nat → Nat → Nat) (S : hS) (sz : Nat) (av : List Value) (own : String) (is : Nat) (tx : String) (sa : Nat) : Array Value → State → Prop :=
  va_Pc av (fun U => U.heap.size = sz ∧ va_P (dC, dI) vwCl (gw ad cI cL S) U.heap ∧ va_K (dC, dI) vwCl (tyL cI cL) U ∧ (∀ w ∈ wNW, va_Nw w U) ∧ zz (AA ad sz) U U.heap ∧ vk_R own is tx sa U)
theorem PcX_blind {sz : Nat} {av : List Value} {is sa : Nat} {tx : String} : FrameBlind (PcX ad cI cL dC dI S sz av own is tx sa) := by
  intro a U g mk q
  obtain ⟨q0, q1, q2, q3, q4, q5, q6⟩ := q
  exact ⟨q0, q1, q2, va_K.moved (u := U) (U := U.calling g mk a) (Vm.Alike.refl U.vm) q3, nw_same (s := U) (U := U.calling g mk a) rfl q4, zz.moved (u := U) (U := U.calling g mk a) (Vm.Alike.refl U.vm) q5, vk_R.same (u := U) (U := U.calling g mk a) rfl q6⟩
/-- a method that throws -/
def MXt (l : Launch) (ad : Nat → Nat) (cI cL : ClassId) (dC : Nat → ClassId) (dI : Nat → Nat → Nat) (y : MethodName) (b : ByteArray) (n : Nat) (ret : Option FieldType) (rm : Room) (av : List Value) (S : hS) (own : String) (is : Nat) (tx : String) (sa : Nat) : Prop :=
  ∀ sz, MetFree l y (headSpec (.code y b n ret :: wALL) rm) (PcX ad cI cL dC dI S sz av own is tx sa) (fun _ _ _ _ _ => True) (fun _ st o t => QX ad cI cL dC dI S (AA ad sz) st o t)
theorem MXt_of {y : MethodName} {b : ByteArray} {n : Nat} {ret : Option FieldType} {rm : Room} {av : List Value} {is sa : Nat} {tx own' : String} (hi : adI ad) (hy : plainName y.cls = true) (ho : y.cls = own) (hlen : (lg_sl av).length ≤ n)
    (body : ∀ (p : Program) (e : Env) (s : State) (m : MethodId) (args : Array Value) (below : List Frame) (meth : Method) (c : Code) (ls : Array Slot), l.admits e → Bs p s m args c own b n cI cL dC dI → meth.sig.returnType = ret → meth.locks = false → c.exceptionTable.toList = [] → Wd ad cI cL dC dI (AA ad s.heap.size) s.heap S s.heap [] → zz (AA ad s.heap.size) s s.heap → vk_R own' is tx sa s → lv_has ls n (lv_args 0 av) →
      W p l e rm s m args below meth c s.heap [] 0 0 (XQ below ad cI cL dC dI S (AA ad s.heap.size) s) (F0 m 0 ls [])) : MXt l ad cI cL dC dI y b n ret rm av S own' is tx sa := by
  intro sz
  refine MetFree.of_bodyS (code := b) (maxLocals := n) (ret := ret) hy ?_ ?_
  · intro args s m h hn
    obtain ⟨meth, c, h1, h2, h3, h4, h5, h6, -, -⟩ := Cond.code_spec hn (atoms_spec (ws := .code y b n ret :: wALL) h _ List.mem_cons_self)
    exact ⟨meth, c, h1, h2, h3, h4, h5, h6⟩
  · intro p e s m args below meth c s₁ Bo hml hP _
    have hh0 : s₁.heap = s.heap := by rw [Bo.state]; rfl
    obtain ⟨rfl, hsz, hPw, hK, hN, hz, hv⟩ := hP
    subst hsz
    have hts := atoms_spec (ws := .code y b n ret :: wALL) Bo.pre
    have hl := lv_entry av (n := n) hlen
    have hown : s.vm.findClass y.cls = some m.cls := findClass_of_methodNamed Bo.named
    rw [ho] at hown
    have X0 := Stand.of_body Bo
    have htab : c.exceptionTable.toList = [] := by
      obtain ⟨m9, c9, h1, h2, -, -, -, -, h7, -⟩ := Cond.code_spec Bo.named (hts _ List.mem_cons_self)
      cases Bo.method.symm.trans h1
      cases X0.code.symm.trans h2
      have h0 : c.exceptionTable.size = 0 := by simpa [Array.isEmpty] using h7
      exact List.eq_nil_of_length_eq_zero (by simpa using h0)
    have K : W p l e rm s m av.toArray below meth c s₁.heap [] 0 0 (XQ below ad cI cL dC dI S (AA ad s.heap.size) s) (entryFrame m av.toArray n) := by
      rw [hh0, lg_entry_eq]
      exact body p e s m _ below meth c _ Bo.admits ⟨Bo.exec, Bo.bytes, hml, hown, fun w h => hts w (List.mem_cons_of_mem _ h), hN, hK⟩ Bo.returns Bo.notSynchronized htab ⟨hPw, gw_D hi (fun k hk => Or.inl ⟨k, hk, rfl⟩), va_S.rf⟩ hz hv hl
    obtain ⟨t, a1, hrun, o, hend, hq⟩ := K s₁ rfl X0
    exact ⟨t, o, a1, hrun, hend, hq⟩
/-- the call of a method that throws, under a table of one row that takes it -/
theorem X_callV {y : MethodName} {b' : ByteArray} {n' : Nat} {ret' : Option FieldType} {rm' : Room} {is sa k ci index N : Nat} {tx own' C : String} {T' : u_T} {ts : List Nat} {x : ExceptionTableEntry}
    (B : Bs p s m args c own cc nL cI cL dC dI) (hi : adI ad) (hw : Wd ad cI cL dC dI A H0 S H locs) (hA : ∀ q, AA ad H0.size q → A q) (hls : ls.size = nL) (hM : MXt l ad cI cL dC dI y b' n' ret' rm' (.ref (ad k) :: As) S own' is tx sa)
    (hcw : Cond.code y b' n' ret' ∈ wALL ∧ Cond.initialized y.cls ∈ wALL ∧ (y.cls ≠ "java/lang/invoke/MethodHandle" ∧ y.cls ≠ "java/lang/invoke/VarHandle" ∧ (parseMethodDescriptor y.desc).map (fun d => d.parameters.length) = some As.length) ∧ rm'.cells = 1 ∧ rm'.slots = 6 ∧ rm'.frames + 1 ≤ R.frames ∧ 8 + (n' + 11) + rm'.locals ≤ R.locals)
    (hk : k < NC) (hsh : shp k = (2, ci, ts)) (hc : vwCl[ci]? = some (C, T', N)) (hl : Cond.methodLink own index y ∈ wALL) (hin : Cond.instanceMethod y ∈ wALL) (hse : Cond.selects C y y ∈ wALL) (hst : st0 = As.reverse ++ .ref (ad k) :: rest) (hW : (rest.map fun v => v.category).sum ≤ 8) (hdg : decode cc pc = .ok (.invokevirtual index, 3)) (hcc : cells + 1 ≤ R.cells) (hss : slots + 6 ≤ R.slots)
    (hz : zz (AA ad H.size) s H) (hstr : vk_R own' is tx sa s) (htab : c.exceptionTable.toList = [x]) (hx : covers x pc = true) (hct : x.catchType ≠ 0) (hlink : Cond.classLink own x.catchType IAE ∈ wALL)
    (kk : ∀ (q : Addr) (H1 : Heap) (locs1 : List Loc), Wd ad cI cL dC dI A H0 S H1 locs1 → W p l e R s m args below meth c H1 locs1 (cells + 1) (slots + 6) Q (F0 m x.handlerPc ls [.ref q])) : W p l e R s m args below meth c H locs cells slots Q (F0 m pc ls st0) := by
  have hts := B.2.2.2.2.1
  have hA1 := AA_A hA hw.2.2.1
  have hy : y.cls ≠ "java/lang/invoke/MethodHandle" ∧ y.cls ≠ "java/lang/invoke/VarHandle" := ⟨hcw.2.2.1.1, hcw.2.2.1.2.1⟩
  intro T hT X
  obtain ⟨mk, methM, hnamed, hmethM, hstM, habM⟩ := Cond.instanceMethod_spec (hts _ hin)
  obtain ⟨methM', cM, hmethM', hcM, -, hlM, -, -, -, hsigM⟩ := Cond.code_spec hnamed (hts _ hcw.1)
  cases hmethM.symm.trans hmethM'
  obtain ⟨c2, r2, m2, q1, q2, q3, q4, kP, hkP, hkPi⟩ := Cond.selects_spec (hts _ hse)
  obtain ⟨cellB, hcB, hoB, hclB⟩ := va_recv (q := (C, T', N)) B.2.2.2.2.2.2 hw.1 hc (by rw [gw_get ad cI cL S hk, ce_o ad cI cL S hsh])
  cases hclB.symm.trans q1
  cases (State.methodFound?_of_named hnamed hy).symm.trans q2
  cases hnamed.symm.trans q3
  have hselP : selectMethod e.platform s.vm cellB.cls mk = .method mk := by rw [Launch.admits_selectMethod X.admits]; exact q4
  have hlen : As.length = methM.sig.parameters.length := by
    have h2 := hcw.2.2.1.2.2
    rw [hsigM] at h2
    exact (Option.some.inj h2).symm
  obtain ⟨vm₁, X₁, hstep₁⟩ := X.invokevirtual B.1 B.2.2.2.1 (hts _ hl) hnamed hmethM hstM hkP hkPi hy (a := ad k) (cell := cellB) (by rw [hT]; exact hcB) (fun z h => by rw [h] at hoB; cases hoB) hselP hmethM habM hkP hkPi (g := F0 m pc ls st0) rfl (argsL := As) (rest := rest) hlen hst (by rw [B.2.1]; exact hdg)
  have hdg' : decode c.code (F0 m pc ls rest).pc = .ok (.invokevirtual index, 3) := by rw [B.2.1]; exact hdg
  have h : At (T.setVm vm₁) (F0 m pc ls rest).method c below := X₁.here
  have hwW : ∀ w ∈ wALL, ∀ a' : Array Value, w.before a' (T.setVm vm₁) = true := fun w hw9 a' => word_at (U := T.setVm vm₁) X₁.warmed (good_of_word (wALL_ok w hw9)) (hts w hw9)
  have hnY : (T.setVm vm₁).methodNamed? y = some mk := X₁.named hnamed
  obtain ⟨methY, cY, hmY, hcY, -, hlY, -, -, -, -⟩ := Cond.code_spec hnY (hwW _ hcw.1 #[])
  obtain ⟨kY, hkY, -⟩ := className_of_methodNamed hnY
  have hinitY : kY.init = .initialized := Cond.initialized_spec (findClass_of_methodNamed hnY) hkY (hwW _ hcw.2.1 #[])
  have hroom : ((T.setVm vm₁).calling (F0 m pc ls rest) mk (Value.ref (ad k) :: As).toArray).hasRoom e.platform rm' = true :=
    X₁.room_calling (g := F0 m pc ls rest) (R' := rm') (hls.trans B.2.2.1.symm) hmY hcY hcw.2.2.2.2.2.1 (by rw [hlY]; have := lv_room (m := m) (pc := pc) (ls := ls) (rest := rest) hW; have h9 := hcw.2.2.2.2.2.2; show 2 * (F0 m pc ls rest).monitorRoom + (rest.map fun v => v.category).sum + (n' + 11) + rm'.locals ≤ R.locals; omega) (by rw [hcw.2.2.2.1]; exact hcc) (by rw [hcw.2.2.2.2.1]; exact hss)
  have happ : (headSpec (.code y b' n' ret' :: wALL) rm').appliesLoose y e.platform ((T.setVm vm₁).calling (F0 m pc ls rest) mk (Value.ref (ad k) :: As).toArray) = true :=
    Spec.appliesLoose_calling (g := F0 m pc ls rest) h hdg' hnY hkY hinitY hroom (atoms_intro fun w hw9 => by
      rcases List.mem_cons.mp hw9 with rfl | h9
      · exact hwW _ hcw.1 _
      · exact hwW _ h9 _)
  obtain ⟨mid, hmid⟩ := h.above
  have hfr : ((T.setVm vm₁).setTop (F0 m pc ls rest)).frames = (.java (F0 m pc ls rest) :: mid) ++ below := by rw [State.frames_setTop' _ h.top, hmid]; rfl
  have hPc : PcX ad cI cL dC dI S H.size (.ref (ad k) :: As) own' is tx sa (Value.ref (ad k) :: As).toArray ((T.setVm vm₁).calling (F0 m pc ls rest) mk (Value.ref (ad k) :: As).toArray) := by
    refine PcX_blind _ (T.setVm vm₁) _ _ ⟨rfl, by show T.heap.size = _; rw [hT], by show va_P _ _ _ T.heap; rw [hT]; exact hw.1, va_K.moved X₁.warmed.alike B.2.2.2.2.2.2, nw_warm X₁.warmed B.2.2.2.2.2.1, ?_, vk_R.warm X₁.warmed hstr⟩
    show zz _ _ T.heap
    rw [hT]
    exact hz.moved X₁.warmed.alike
  obtain ⟨o, s₂, hsteps, -, hend, hq⟩ := Steps.callFree (hM H.size) p X₁.admits X₁.cas X₁.clock (acts := []) hfr happ hPc trivial
  obtain ⟨q, ce, L, rfl, hce, hcv, hcl, hP1, hF, hW₂, hs₂, hL⟩ := hq
  rw [State.frames_setTop' _ h.top, X₁.tail] at hend
  obtain ⟨T2, X2, hW2, hB2, rfl⟩ := X₁.outOfThrown (g := F0 m pc ls rest) (mk := mk) (a := (Value.ref (ad k) :: As).toArray) rfl hend hW₂ hs₂
  have hcl' : s.vm.findClass IAE = some ce.cls := by
    have h1 : (T.setVm vm₁).vm.findClass IAE = some ce.cls := hcl
    rw [X₁.warmed.alike.findClass] at h1
    exact h1
  have hasg : s.vm.assignable ce.cls ce.cls = true := by
    obtain ⟨c9, h1, h2⟩ := hz.2.2
    cases hcl'.symm.trans h1
    exact h2
  obtain ⟨vm2, X3, st2⟩ := x_catch X2 (g := F0 m pc ls rest) rfl (q := q) (ce := ce) hce hcv B.2.2.2.1 hcl' (hts _ hlink) hasg htab hx rfl hct
  have hP1' : va_P (dC, dI) vwCl (gw ad cI cL S) T2.heap := hP1
  have hF1 : T.heap.size ≤ T2.heap.size := hF.1
  have hF2 : ∀ a : Nat, a < T.heap.size → ¬ AA ad H.size a → T2.heap[a]? = T.heap[a]? := hF.2
  rw [hT] at hF1 hF2
  obtain ⟨t, a1, b1⟩ := kk q T2.heap (locs ++ L) ⟨hP1', gw_D hi (fun k hk => hA _ (Or.inl ⟨k, hk, rfl⟩)), Nat.le_trans hw.2.2.1 hF1, fun a h1 h2 => by rw [hF2 a (Nat.lt_of_lt_of_le h1 hw.2.2.1) (fun z => h2 (hA1 a z))]; exact hw.2.2.2.1 a h1 h2, fun z hz9 => by
      rcases List.mem_append.mp hz9 with h9 | h9
      · exact hw.2.2.2.2 z h9
      · exact hA1 _ (hL z h9)⟩ (T2.setVm vm2) rfl X3
  exact ⟨t, hstep₁ _ (fun acts => by rw [doInvoke_state]; exact hsteps.trans (st2 _ a1)), b1⟩
end HLthrow2
/-- the one row of the law's own table -/
theorem x_row {c : Code} (h : c.exceptionTable.toList.map (fun h => (h.startPc, h.endPc, h.handlerPc, h.catchType)) = [(0, 9, 12, 13)]) : ∃ x : ExceptionTableEntry, c.exceptionTable.toList = [x] ∧ covers x 4 = true ∧ x.handlerPc = 12 ∧ x.catchType = 13 := by
  cases hq : c.exceptionTable.toList with
  | nil => rw [hq] at h; cases h
  | cons x r =>
    cases r with
    | nil =>
      rw [hq] at h
      simp only [List.map_cons, List.map_nil, List.cons.injEq, Prod.mk.injEq, and_true] at h
      obtain ⟨h1, h2, h3, h4⟩ := h
      exact ⟨x, rfl, by simp [covers, h1, h2], h3, h4⟩
    | cons y r => rw [hq] at h; simp at h

