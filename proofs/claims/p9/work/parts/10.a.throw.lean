def sIX : Nat := 75
def sTX : String := "the rows of the entry are not 0 together"
section HLthrow
variable {p : Program} {l : Launch} {e : Env} {R : Room} {s : State} {m : MethodId} {args : Array Value} {below : List Frame} {meth : Method} {c : Code} {T : State} {locs : List Loc} {cells slots : Nat}
/-- the walk, told anew from where it stands -/
theorem x_again (X : Stand p l e R s m args below meth c T locs 0 0) : Stand p l e R (T.setFrames s.frames) m args below meth c T [] 0 0 := by
  obtain ⟨g₀, hfr⟩ := X.frames_eq
  have hcur : T.cur < T.threads.size := State.cur_lt_of_frames hfr
  obtain ⟨th, hth, -⟩ := State.frames_cons hfr
  have hF : (T.setFrames s.frames).frames = .invoking m args :: below := by rw [State.frames_setFrames _ hcur, X.frames]
  have hm : (T.setFrames s.frames).vm.method? m = some meth := X.method'
  have hroom : (T.setFrames s.frames).hasRoom e.platform R = true := by
    have h := X.room
    simp only [State.hasRoom, Bool.and_eq_true, decide_eq_true_eq] at h ⊢
    rw [State.localsInUse_invoking hF hm X.code, hF, State.stackLimits_setFrames, State.stackBytes_setFrames, X.limits, X.bytes]
    rw [State.localsInUse_invoking X.frames X.method X.code, X.frames] at h
    have h1 := X.heapSize
    have h2 := X.used
    refine ⟨⟨⟨h.1.1.1, ?_⟩, ?_⟩, X.book⟩
    · have := h.1.1.2
      show T.heap.size + R.cells ≤ _
      omega
    · have := h.1.2
      show T.slotsUsed + R.slots ≤ _
      omega
  have hmm : ∀ k, T.vm.method? k = s.vm.method? k := fun k => by rw [X.warmed.alike.method?]
  have hcc : ∀ k, (T.setFrames s.frames).code? k = s.code? k := fun k => by
    rw [State.code?_eq, State.code?_eq]
    show (T.vm.method? k).bind _ = _
    rw [hmm]
  have hhear : (T.setFrames s.frames).hears m below = true := by
    have h := X.hears
    have hvm : ∀ k, (T.setFrames s.frames).vm.method? k = s.vm.method? k := hmm
    cases below with
    | nil => simpa [State.hears, hvm, hmm] using h
    | cons f r => cases f <;> simpa [State.hears, hcc, hvm, hmm] using h
  obtain ⟨t1, ht1, -⟩ := State.frames_cons hF
  have hsame : (T.setFrames s.frames).sameButNew (T.setVm (T.setFrames s.frames).vm) [] 0 0 := by
    have h := (State.sameButNew.refl (T.setFrames s.frames) ht1).setFrames T.frames (State.cur_lt_of_frames hF)
    have e1 : (T.setFrames s.frames).setFrames T.frames = T := by rw [State.setFrames_setFrames, State.setFrames_self hth]
    rw [e1] at h
    exact h
  exact ⟨X.admits, X.cas, X.clock, hF, hroom, hhear, hm, X.code, X.here, X.tail, State.WarmedH.refl _, (State.stackLimits_setFrames ..).symm, (State.stackBytes_setFrames ..).symm, hsame⟩
/-- .. and back: what has come to pass since then, told from the method's own start -/
theorem x_back (X : Stand p l e R s m args below meth c T locs 0 0) {U : State} {k n : Nat} (hW : (T.setFrames s.frames).WarmedH U.vm) (h : (T.setFrames s.frames).sameButNew ({ U with vm := (T.setFrames s.frames).vm } : State) [] k n) : s.WarmedH U.vm ∧ s.sameButNew ({ U with vm := s.vm } : State) locs k n := by
  have hW' : T.WarmedH U.vm := hW
  refine ⟨State.WarmedH.trans X.warmed hW', ?_⟩
  obtain ⟨e1, q2, q3, q4, q5, q6⟩ := h
  have h1 : T.sameButNew ({ U with vm := T.vm } : State) [] k n := ⟨by
    rw [State.setFrames_setFrames] at e1
    exact e1, q2, q3, q4, q5, q6⟩
  have h2 := X.same.trans (h1.setVm s.vm)
  rw [List.append_nil, Nat.zero_add, Nat.zero_add] at h2
  exact h2
theorem x_find {u : State} {f : JFrame} {a : Addr} {x : ExceptionTableEntry} {ce : Cell} {vm' : Vm} {Q : Handler → Pre} {E : CtlPost} {d : Bool} {acts : List Action} (hx : covers x f.pc = true) (h0 : x.catchType ≠ 0) (hg : (resolveClass f.method.cls x.catchType).Gives e.toSetting u.vm (.ok ce.cls) vm') (hcell : u.heap[a]? = some ce) (hobj : ∀ k, ce.vm ≠ .statics k) (hk : ∃ k, vm'.classes[ce.cls]? = some k) (hfit : vm'.assignable ce.cls ce.cls = true) (hsz : vm'.classes.size ≤ u.vm.classes.size) :
    wp (findHandler.go f a [x]) Q E e d acts u ↔ Q (.found x.handlerPc) d acts (u.setVm vm') := by
  simp only [covers] at hx
  obtain ⟨ha, ht⟩ := hg.op (op := VmOp.resolveClass f.method.cls x.catchType) rfl
  obtain ⟨k1, hk1⟩ := hk
  simp [findHandler.go, hx, h0, ha, VmOp.lands_eq ht hsz, hcell, hobj, hk1, hfit, VmOp.dirties, VmOp.acts]
/-- a table of one row: a throw at a place that it covers goes on at its handler, its class linked on the way -/
theorem x_catch (X : Stand p l e R s m args below meth c T locs cells slots) {g : JFrame} (hg : g.method = m) {q : Addr} {ce : Cell} (hcell : T.heap[q]? = some ce) (hv : ce.vm = .none) {own E : String} {ct : Nat} (hown : s.vm.findClass own = some m.cls) (hcl : s.vm.findClass E = some ce.cls)
    (hlink : (Cond.classLink own ct E).before args s = true) (hasg : s.vm.assignable ce.cls ce.cls = true) {x : ExceptionTableEntry} (htab : c.exceptionTable.toList = [x]) (hx : covers x g.pc = true) (hxc : x.catchType = ct) (hct : ct ≠ 0) :
    ∃ vm', Stand p l e R s m args below meth c (T.setVm vm') locs cells slots ∧ ∀ target, Steps p.tables e below ((T.setVm vm').setTop { g with pc := x.handlerPc, stack := [.ref q] }) target → Steps p.tables e below ((T.setTop g).pushFrame (.throwing q)) target := by
  subst hg
  subst hxc
  have hpl : e.platform.magicAccessors = ({} : Platform).magicAccessors := by rw [X.admits.platform]
  obtain ⟨c1, hc1, hl⟩ := Cond.classLink_spec hown hlink e.platform hpl
  cases hcl.symm.trans hc1
  obtain ⟨hgv, hwarm, -⟩ := State.classEntry (e := e) X.warmed hl
  obtain ⟨kc, hkc⟩ := Vm.classAt_of_findClass hcl
  obtain ⟨k1, hk1, -⟩ := hwarm.alike.2.2 _ _ hkc
  have hfit : (T.vm.noted g.method.cls x.catchType (.cls ce.cls)).assignable ce.cls ce.cls = true := by rw [hwarm.alike.assignable]; exact hasg
  refine ⟨T.vm.noted g.method.cls x.catchType (.cls ce.cls), X.noted hwarm, fun target hrest => ?_⟩
  have hobj : ∀ k, ce.vm ≠ .statics k := fun k h => by rw [hv] at h; cases h
  have hm : ((T.setTop g).pushFrame (.throwing q)).vm.method? g.method = some meth := X.method'
  have hcell' : ((T.setTop g).pushFrame (.throwing q)).heap[q]? = some ce := hcell
  have hfind : ∀ (Q : Handler → Pre) (E : CtlPost) (d : Bool) (acts : List Action), wp (findHandler g q) Q E e d acts ((T.setTop g).pushFrame (.throwing q)) ↔ Q (.found x.handlerPc) d acts (((T.setTop g).pushFrame (.throwing q)).setVm (T.vm.noted g.method.cls x.catchType (.cls ce.cls))) := by
    intro Q E d acts
    rw [W.findHandler_eq hm X.code, htab]
    exact x_find (u := (T.setTop g).pushFrame (.throwing q)) hx hct hgv hcell' hobj ⟨k1, hk1⟩ hfit (by show (T.vm.noted g.method.cls x.catchType (.cls ce.cls)).classes.size ≤ T.vm.classes.size; rw [hwarm.2.1, X.warmed.2.1]; exact Nat.le_refl _)
  obtain ⟨hgo, hw⟩ := X.here.throwing q
  refine Steps.head hgo hw ?_
  have hstep : ∀ r, (stepThrowing e ((T.setTop g).pushFrame (.throwing q)) q (.java g :: r)).Is ((((T.setTop g).pushFrame (.throwing q)).setVm (T.vm.noted g.method.cls x.catchType (.cls ce.cls))).setFrames (.java { g with pc := x.handlerPc, stack := [.ref q] } :: r)) [] := by
    intro r
    simp only [stepThrowing, searchFrame, vmDo]
    generalize hr : Sem.go _ e false [] _ = res
    obtain ⟨as, rfl, ha⟩ := Sem.eq_ok_of hr (a := Handler.found x.handlerPc) (s' := ((T.setTop g).pushFrame (.throwing q)).setVm (T.vm.noted g.method.cls x.catchType (.cls ce.cls))) (acts' := []) (by simp [hfind _ _ _ _])
    exact ⟨rfl, ha⟩
  rw [stepThread_throwing (frames_entered X.here.top _), (hstep _).1]
  obtain ⟨g₀, hg0⟩ := Option.isSome_iff_exists.mp X.here.top
  obtain ⟨r, hr⟩ := State.topJava?_eq_some.mp hg0
  have hr' : (T.setVm (T.vm.noted g.method.cls x.catchType (.cls ce.cls))).frames = .java g₀ :: r := hr
  rw [State.setTop_of_frames _ hr'] at hrest
  have e1 : (((T.setTop g).pushFrame (.throwing q)).setVm (T.vm.noted g.method.cls x.catchType (.cls ce.cls))).setFrames (.java { g with pc := x.handlerPc, stack := [.ref q] } :: T.frames.tail) = (T.setVm (T.vm.noted g.method.cls x.catchType (.cls ce.cls))).setFrames (.java { g with pc := x.handlerPc, stack := [.ref q] } :: r) := by
    rw [hr, State.pushFrame, State.setTop_of_frames _ hr, State.setFrames_setFrames]
    show ((T.setFrames _).setFrames _).setVm _ = _
    rw [State.setFrames_setFrames]
    rfl
  rw [e1]
  exact hrest
end HLthrow
/-- a static of Throwable that holds a reference, in a cell outside A -/
def zl (n d : String) (A : Nat → Prop) (U : State) (H : Heap) : Prop := ∃ (c : ClassId) (k : Class) (i : Nat) (f : Field) (a : Nat) (cell : Cell) (v : Value), U.vm.findClass Bundle.tN = some c ∧ U.fieldFound? Bundle.tN n d = some (c, k, i, f) ∧ f.isStatic = true ∧ k.statics = some a ∧ H[a]? = some cell ∧ cell.vm.isStatics = true ∧ cell.cls = c ∧ f.slot < cell.slots.size ∧ k.staticTypes[f.slot]? = some f.type ∧ ¬ A a ∧ cell.slots[f.slot]? = some v ∧ v.isRef = true
theorem zl.moved {n d : String} {A : Nat → Prop} {u U : State} {H : Heap} (hvm : u.vm.Alike U.vm) (h : zl n d A u H) : zl n d A U H := by
  obtain ⟨c, k, i, f, a, cell, v, h0, h1, h2, h3, h4, h5, h6, h7, h8, h9, h10, h11⟩ := h
  obtain ⟨k', hi', he⟩ := State.fieldFound?_setVm hvm h1
  exact ⟨c, k', i, f, a, cell, v, by rw [hvm.findClass]; exact h0, hi', h2, by rw [he]; exact h3, h4, h5, h6, h7, by rw [he]; exact h8, h9, h10, h11⟩
theorem zl.kept {n d : String} {A : Nat → Prop} {U : State} {H H1 : Heap} (h : zl n d A U H) (hq : ∀ a : Nat, a < H.size → ¬ A a → H1[a]? = H[a]?) : zl n d A U H1 := by
  obtain ⟨c, k, i, f, a, cell, v, h0, h1, h2, h3, h4, h5, h6, h7, h8, h9, h10, h11⟩ := h
  exact ⟨c, k, i, f, a, cell, v, h0, h1, h2, h3, by rw [hq a (Array.getElem?_eq_some_iff.mp h4).1 h9]; exact h4, h5, h6, h7, h8, h9, h10, h11⟩
theorem zl.narrow {n d : String} {A B : Nat → Prop} {U : State} {H : Heap} (h : zl n d A U H) (hAB : ∀ q, B q → A q) : zl n d B U H := by
  obtain ⟨c, k, i, f, a, cell, v, h0, h1, h2, h3, h4, h5, h6, h7, h8, h9, h10, h11⟩ := h
  exact ⟨c, k, i, f, a, cell, v, h0, h1, h2, h3, h4, h5, h6, h7, h8, fun z => h9 (hAB a z), h10, h11⟩
theorem zl.of {args : Array Value} {s : State} {n d : String} {A : Nat → Prop} (hl : (Cond.laysStatic Bundle.tN n d).before args s = true) (h : (Cond.isRef (.static Bundle.tN n d)).before args s = true) (hA : ∀ a : Nat, a < s.heap.size → ¬ A a) : zl n d A s s.heap := by
  obtain ⟨c, k, i, f, a, cell, h0, h1, h2, h3, h4, h5, h6, h7, h8⟩ := Cond.laysStatic_spec hl
  obtain ⟨u, hu⟩ := Cond.staticRefV h1 h2 h3 h4 h5 h
  exact ⟨c, k, i, f, a, cell, u.v, h0, h1, h2, h3, h4, h5, h6, h7, h8, hA a (Array.getElem?_eq_some_iff.mp h4).1, hu, u.2⟩
theorem zl.lays {args : Array Value} {s : State} {n d : String} {A : Nat → Prop} (h : zl n d A s s.heap) : (Cond.laysStatic Bundle.tN n d).before args s = true := by
  obtain ⟨c, k, i, f, a, cell, v, h0, h1, h2, h3, h4, h5, h6, h7, h8, h9, h10, h11⟩ := h
  simp [Cond.before, Cond.holds, Cond.value, h0, h1, h2, h3, h4, h5, h6, h7, h8]
theorem zl.ref {args : Array Value} {s : State} {n d : String} {A : Nat → Prop} (h : zl n d A s s.heap) : (Cond.isRef (.static Bundle.tN n d)).before args s = true := by
  obtain ⟨c, k, i, f, a, cell, v, h0, h1, h2, h3, h4, h5, h6, h7, h8, h9, h10, h11⟩ := h
  have he : (Term.static Bundle.tN n d).eval args s none [] s = some v := by
    simp [Term.eval, State.fieldNamed?, h1, h2, h3, h4, h5, h10]
  cases v with
  | null => simp [Cond.before, Cond.holds, Cond.value, he]
  | ref x => simp [Cond.before, Cond.holds, Cond.value, he]
  | _ => cases h11
/-- the exception's class takes its own objects -/
def zc (U : State) : Prop := ∃ c : ClassId, U.vm.findClass IAE = some c ∧ U.vm.assignable c c = true
theorem zc.moved {u U : State} (hvm : u.vm.Alike U.vm) (h : zc u) : zc U := by
  obtain ⟨c, h1, h2⟩ := h
  exact ⟨c, by rw [hvm.findClass]; exact h1, by rw [hvm.assignable]; exact h2⟩
theorem zc.of {args : Array Value} {s : State} (h : (Cond.castable IAE IAE).before args s = true) : zc s := by
  obtain ⟨c, t, h1, h2, h3⟩ := Cond.castable_spec h
  cases h1.symm.trans h2
  exact ⟨c, h1, h3⟩
theorem zc.word {args : Array Value} {s : State} (h : zc s) : (Cond.castable IAE IAE).before args s = true := by
  obtain ⟨c, h1, h2⟩ := h
  simp [Cond.before, Cond.holds, Cond.value, h1, h2]
/-- all of them -/
def zz (A : Nat → Prop) (U : State) (H : Heap) : Prop := zl "UNASSIGNED_STACK" Bundle.steD A U H ∧ zl "SUPPRESSED_SENTINEL" Bundle.listD A U H ∧ zc U
theorem zz.moved {A : Nat → Prop} {u U : State} {H : Heap} (hvm : u.vm.Alike U.vm) (h : zz A u H) : zz A U H := ⟨h.1.moved hvm, h.2.1.moved hvm, h.2.2.moved hvm⟩
theorem zz.kept {A : Nat → Prop} {U : State} {H H1 : Heap} (h : zz A U H) (hq : ∀ a : Nat, a < H.size → ¬ A a → H1[a]? = H[a]?) : zz A U H1 := ⟨h.1.kept hq, h.2.1.kept hq, h.2.2⟩
theorem zz.narrow {A B : Nat → Prop} {U : State} {H : Heap} (h : zz A U H) (hAB : ∀ q, B q → A q) : zz B U H := ⟨h.1.narrow hAB, h.2.1.narrow hAB, h.2.2⟩

