abbrev rmLA : Room := ({ frames := 7, cells := 1, slots := 6, locals := 112 } : Room)
theorem cw_LA_close : Cond.initialized yLA_close.cls ∈ wALL ∧ (yLA_close.cls ≠ "java/lang/invoke/MethodHandle" ∧ yLA_close.cls ≠ "java/lang/invoke/VarHandle" ∧ (parseMethodDescriptor yLA_close.desc).map (fun d => d.parameters.length) = some 3) ∧ rmLA.cells = 1 ∧ rmLA.slots = 6 ∧ rmLA.frames + 1 ≤ room_1.frames ∧ 8 + (4 + 11) + rmLA.locals ≤ room_1.locals := ⟨wm_648, by decide +kernel, rfl, rfl, Nat.le_of_ble_eq_true rfl, Nat.le_of_ble_eq_true rfl⟩
set_option maxHeartbeats 4000000 in
set_option maxRecDepth 100000 in
theorem M_LA_close0 (l : Launch) {ad : Nat → Nat} {cI cL : ClassId} {dC : Nat → ClassId} {dI : Nat → Nat → Nat} (hi : adI ad) (S : hS) (x1 : Int32) {sa : Nat} (hp : wfC S ∧ NT S x1) : Mtx l ad cI cL dC dI yLA_close bLA_close 4 (some .int) hhLA_close rmLA [.ref (ad 0), .int x1, .ref (ad 52)] S (pI (FLA_close S x1).1 (FLA_close S x1).2) 1 6 sa := by
  refine Mtx_of (own := RLA) hi (by decide) rfl (Nat.le_of_ble_eq_true rfl) ?_
  intro p e s m args below meth c ls B hr hlk htb hz hst hw hl
  obtain ⟨hx, hb, -, hown, hts, -, -⟩ := id B
  have hA : ∀ q, AA ad s.heap.size q → AA ad s.heap.size q := fun _ h => h
  have hl : lv_has ls 4 [(0, .ref (ad 0)), (1, .int x1), (2, .ref (ad 52))] := hl
  refine W.widen (k := 1) (n := 6) (Nat.zero_le _) (Nat.zero_le _) ?_
  refine lv_aload_n hx hb dLA_close_0 rfl (lv_at hl 2 rfl) ?_
  refine lv_iconst (v := 0) hx hb dLA_close_1 (by decide) ?_
  refine lv_aload_n hx hb dLA_close_2 rfl (lv_at hl 0 rfl) ?_
  refine lv_iload_n hx hb dLA_close_3 rfl (lv_at hl 1 rfl) ?_
  refine V_callV (rest := [.int 0, .ref (ad 52)]) B hi hw hA hl.1 (M_FHL_close l hi S x1 ⟨hp.1, hp.2⟩) (cw_FHL_close (Nat.le_of_ble_eq_true rfl) (Nat.le_of_ble_eq_true rfl) (Nat.le_of_ble_eq_true rfl) (Nat.le_of_ble_eq_true rfl)) (by decide) rfl rfl wm_647 wm_649 wm_650 rfl (Nat.le_of_ble_eq_true rfl) dLA_close_4 (kI (fun H locs hw => ?_))
  refine lv_i2l hx hb dLA_close_7 rfl ?_
  refine V_last (j := 0) B hw (by decide) rfl (vp_in_iff.mpr (by decide)) (by decide) dLA_close_8 (fun H locs hw => ?_)
  refine lv_goto (tgt := 15) hx hb dLA_close_9 (by decide) ?_
  refine lv_iconst (v := 0) hx hb dLA_close_15 (by decide) ?_
  exact V_iretx B hr hlk hw (pI_of (FLA_0 hp.2)) dLA_close_16
abbrev rmX : Room := { frames := 6, cells := 1, slots := 6, locals := 90 }
theorem x_words : ∀ w ∈ (Bundle.ownAtoms RHL 77 IAE IAEup).filter xnd, w ∈ wALL := by
  have h : ((Bundle.ownAtoms RHL 77 IAE IAEup).filter xnd).all (fun w => decide (w ∈ tables_1) && goodWord w) = true := by decide +kernel
  intro w hw
  have h1 := List.all_eq_true.mp h w hw
  rw [Bool.and_eq_true, decide_eq_true_eq] at h1
  exact List.mem_filter.mpr ⟨List.mem_append_right _ h1.1, h1.2⟩
theorem x_decl (a : Array Value) (u : State) (h : ∀ w ∈ (Bundle.ownAtoms RHL 77 IAE IAEup).filter xnd, w.before a u = true) : ∀ w ∈ (Bundle.ownAtoms RHL 77 IAE IAEup).filter isDecl, w.before a u = true := by
  have e : (Bundle.ownAtoms RHL 77 IAE IAEup).filter isDecl = [.declares (Bundle.initS "java/lang/RuntimeException"), .declares (Bundle.initS "java/lang/Exception"), .declares (Bundle.initS Bundle.tN)] := by decide +kernel
  rw [e]
  intro w hw
  simp only [List.mem_cons, List.not_mem_nil, or_false] at hw
  rcases hw with rfl | rfl | rfl
  · exact dec_of (h (.instanceMethod (Bundle.initS "java/lang/RuntimeException")) (by decide +kernel)) (h (.code (Bundle.initS "java/lang/RuntimeException") Bundle.six 2 none) (by decide +kernel))
  · exact dec_of (h (.instanceMethod (Bundle.initS "java/lang/Exception")) (by decide +kernel)) (h (.code (Bundle.initS "java/lang/Exception") Bundle.six 2 none) (by decide +kernel))
  · exact dec_of (h (.instanceMethod (Bundle.initS Bundle.tN)) (by decide +kernel)) (h (.code (Bundle.initS Bundle.tN) LibCode.Throwable.InitS.code 2 none) (by decide +kernel))
set_option maxHeartbeats 4000000 in
set_option maxRecDepth 100000 in
theorem MX_close (l : Launch) {ad : Nat → Nat} {cI cL : ClassId} {dC : Nat → ClassId} {dI : Nat → Nat → Nat} (hi : adI ad) (hfl : l.flags = flags0) (S : hS) (x1 : Int32) {sa : Nat} (hp : wfC S ∧ ¬ NT S x1) : MXt l ad cI cL dC dI yHL_close bHL_close 3 (some .int) rmX [.ref (ad 0), .int x1] S RHL sIX sTX sa := by
  refine MXt_of (own := RHL) hi (by decide) rfl (Nat.le_of_ble_eq_true rfl) ?_
  intro p e s m args below meth c ls hadm B hr hlk htb hw hz hst hl
  obtain ⟨hx, hb, -, hown, hts, -, -⟩ := id B
  have hA : ∀ q, AA ad s.heap.size q → AA ad s.heap.size q := fun _ h => h
  have hl : lv_has ls 3 [(0, .ref (ad 0)), (1, .int x1)] := hl
  refine lv_aload_n hx hb dHL_close_0 rfl (lv_at hl 0 rfl) ?_
  refine V_get B hw (v := .ref (ad 1)) (by decide) rfl rfl hin_HL 0 (by decide) rfl wm_0 rfl dHL_close_1 ?_
  refine V_getN B hw (v := .ref (ad 10)) (by decide) rfl rfl hin_BO 1 (by decide) rfl wn_22 rfl dHL_close_4 ?_
  refine lv_astore_n (lv' := [(2, .ref (ad 10)), (0, .ref (ad 0)), (1, .int x1)]) hx hb dHL_close_7 rfl hl (by decide) rfl (fun ls hl => ?_)
  refine lv_aload_n hx hb dHL_close_8 rfl (lv_at hl 0 rfl) ?_
  refine lv_iload_n hx hb dHL_close_9 rfl (lv_at hl 2 rfl) ?_
  refine V_callVN (rest := []) B hi hw hA hl.1 (M_FJO_isOpen l hi S x1 hp.1) (cw_FJO_isOpen (Nat.le_of_ble_eq_true rfl) (Nat.le_of_ble_eq_true rfl) (Nat.zero_le _) (Nat.zero_le _)) (by decide) rfl rfl wn_34 wm_35 wm_36 rfl (Nat.le_of_ble_eq_true rfl) dHL_close_10 (kI (fun H locs hw => ?_))
  refine lv_if_eq (tgt := 33) hx hb dHL_close_13 (by decide) (fun c2 => absurd (Or.inl c2) hp.2) (fun c2 => ?_)
  refine lv_aload_n hx hb dHL_close_16 rfl (lv_at hl 1 rfl) ?_
  refine V_get B hw (v := .ref (ad 1)) (by decide) rfl rfl hin_HL 0 (by decide) rfl wm_0 rfl dHL_close_17 ?_
  refine lv_aload_n hx hb dHL_close_20 rfl (lv_at hl 0 rfl) ?_
  refine V_getN B hw (v := .ref (ad 11)) (by decide) rfl rfl hin_JO 1 (by decide) rfl wn_49 rfl dHL_close_21 ?_
  refine lv_iload_n hx hb dHL_close_24 rfl (lv_at hl 2 rfl) ?_
  refine V_iald (j := x1.toNatClampNeg) (v := S.1 11 x1.toNatClampNeg) B hw (by decide) rfl (vp_rg.mpr (opC hp.1 c2)) rfl rfl dHL_close_25 ?_
  refine lv_i2l hx hb dHL_close_26 rfl ?_
  refine V_callVN (rest := []) B hi hw hA hl.1 (M_FBO_isUnclosedDay l hi S ((S.1 11 x1.toNatClampNeg).toInt64) hp.1) (cw_FBO_isUnclosedDay (Nat.le_of_ble_eq_true rfl) (Nat.le_of_ble_eq_true rfl) (Nat.zero_le _) (Nat.zero_le _)) (by decide) rfl rfl wn_19 wm_20 wm_21 rfl (Nat.le_of_ble_eq_true rfl) dHL_close_27 (kI (fun H locs hw => ?_))
  refine lv_if_ne (tgt := 35) hx hb dHL_close_30 (by decide) (fun c5 => ?_) (fun c5 => absurd (Or.inr (Or.inl c5)) hp.2)
  refine lv_aload_n hx hb dHL_close_35 rfl (lv_at hl 0 rfl) ?_
  refine lv_iload_n hx hb dHL_close_36 rfl (lv_at hl 2 rfl) ?_
  refine V_callVN (rest := []) B hi hw hA hl.1 (M_FJO_sumOf l hi S x1 ⟨hp.1, opC hp.1 c2⟩) (cw_FJO_sumOf (Nat.le_of_ble_eq_true rfl) (Nat.le_of_ble_eq_true rfl) (Nat.zero_le _) (Nat.zero_le _)) (by decide) rfl rfl wn_50 wm_51 wm_52 rfl (Nat.le_of_ble_eq_true rfl) dHL_close_37 (kL (fun H locs hw => ?_))
  refine lv_lconst (v := 0) hx hb dHL_close_40 (by decide) ?_
  refine V_leq (tgt := 55) B dHL_close_41 dHL_close_42 (by decide) (fun c9 => absurd (Or.inr (Or.inr c9)) hp.2) (fun _ => ?_)
  exact X_leaf B (tr_off hadm hfl) hw hz hl.1 hlk htb hst wm_651 wm_652 wm_653 x_words x_decl ⟨(Nat.le_of_ble_eq_true rfl), (Nat.le_of_ble_eq_true rfl), (Nat.le_of_ble_eq_true rfl), (Nat.le_of_ble_eq_true rfl)⟩ dHL_close_45 dHL_close_48 dHL_close_49 dHL_close_51 dHL_close_54
set_option maxHeartbeats 4000000 in
set_option maxRecDepth 100000 in
theorem M_LA_close1 (l : Launch) {ad : Nat → Nat} {cI cL : ClassId} {dC : Nat → ClassId} {dI : Nat → Nat → Nat} (hi : adI ad) (hfl : l.flags = flags0) (S : hS) (x1 : Int32) {sa : Nat} (hp : wfC S ∧ ¬ NT S x1) : Mtx l ad cI cL dC dI yLA_close bLA_close 4 (some .int) hhLA_close rmLA [.ref (ad 0), .int x1, .ref (ad 52)] S (pI (FLA_close S x1).1 (FLA_close S x1).2) 1 6 sa := by
  refine Mtx_of (own := RLA) hi (by decide) rfl (Nat.le_of_ble_eq_true rfl) ?_
  intro p e s m args below meth c ls B hr hlk htb hz hst hw hl
  obtain ⟨hx, hb, -, hown, hts, -, -⟩ := id B
  have hA : ∀ q, AA ad s.heap.size q → AA ad s.heap.size q := fun _ h => h
  have hl : lv_has ls 4 [(0, .ref (ad 0)), (1, .int x1), (2, .ref (ad 52))] := hl
  obtain ⟨x, hx1, hx2, hx3, hx4⟩ := x_row htb
  refine lv_aload_n hx hb dLA_close_0 rfl (lv_at hl 2 rfl) ?_
  refine lv_iconst (v := 0) hx hb dLA_close_1 (by decide) ?_
  refine lv_aload_n hx hb dLA_close_2 rfl (lv_at hl 0 rfl) ?_
  refine lv_iload_n hx hb dLA_close_3 rfl (lv_at hl 1 rfl) ?_
  refine X_callV (x := x) (rest := [.int 0, .ref (ad 52)]) B hi hw hA hl.1 (MX_close l hi hfl S x1 hp) ⟨wm_368, wm_353, (show yHL_close.cls ≠ "java/lang/invoke/MethodHandle" ∧ yHL_close.cls ≠ "java/lang/invoke/VarHandle" ∧ (parseMethodDescriptor yHL_close.desc).map (fun d => d.parameters.length) = some 1 by decide +kernel), rfl, rfl, (Nat.le_of_ble_eq_true rfl), (Nat.le_of_ble_eq_true rfl)⟩ (by decide) rfl rfl wm_647 wm_649 wm_650 rfl (Nat.le_of_ble_eq_true rfl) dLA_close_4 (Nat.le_of_ble_eq_true rfl) (Nat.le_of_ble_eq_true rfl) hz hst hx1 hx2 (by rw [hx4]; decide) (by rw [hx4]; exact wm_654) (fun q H locs hw => ?_)
  rw [hx3]
  refine lv_astore_n (lv' := [(3, .ref q), (0, .ref (ad 0)), (1, .int x1), (2, .ref (ad 52))]) hx hb dLA_close_12 rfl hl (by decide) rfl (fun ls hl => ?_)
  refine lv_iconst (v := 1) hx hb dLA_close_13 (by decide) ?_
  exact V_iretx B hr hlk hw (pI_of (FLA_1 hp.2)) dLA_close_14
theorem M_LA_close (l : Launch) {ad : Nat → Nat} {cI cL : ClassId} {dC : Nat → ClassId} {dI : Nat → Nat → Nat} (hfl : l.flags = flags0) (hi : adI ad) (S : hS) (x1 : Int32) {sa : Nat} (hp : wfC S) : Mtx l ad cI cL dC dI yLA_close bLA_close 4 (some .int) hhLA_close rmLA [.ref (ad 0), .int x1, .ref (ad 52)] S (pI (FLA_close S x1).1 (FLA_close S x1).2) 1 6 sa := by
  by_cases c : NT S x1
  · exact M_LA_close0 l hi S x1 ⟨hp, c⟩
  · exact M_LA_close1 l hi hfl S x1 ⟨hp, c⟩
