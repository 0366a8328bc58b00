theorem cw_FMO_isItemOf {R : Room} {cells slots : Nat} (h1 : 2 ≤ R.frames) (h2 : 45 ≤ R.locals) (h3 : cells ≤ R.cells) (h4 : slots ≤ R.slots) : Cw R cells slots yMO_isItemOf bMO_isItemOf 3 (some .boolean) ({ frames := 1, cells := 0, slots := 0, locals := 23 } : Room) 2 := ⟨wm_440, wm_426, by decide +kernel, ⟨rfl, rfl, h1, h2⟩, h3, h4⟩
set_option maxHeartbeats 4000000 in
set_option maxRecDepth 100000 in
theorem M_FMO_isItemOf (l : Launch) {ad : Nat → Nat} {cI cL : ClassId} {dC : Nat → ClassId} {dI : Nat → Nat → Nat} (hi : adI ad) (S : hS) (x1 : Int32) (x2 : Int32) (hp : wfM S ∧ rg x1 240) : Mt l ad cI cL dC dI yMO_isItemOf bMO_isItemOf 3 (some .boolean) ({ frames := 1, cells := 0, slots := 0, locals := 23 } : Room) [.ref (ad 49), .int x1, .int x2] S (pI (FMO_isItemOf S x1 x2) S) := by
  refine Mt_of (own := RMO) hi (by decide) rfl (Nat.le_of_ble_eq_true rfl) ?_
  intro p e s m args below meth c ls B hr hlk hw hl
  obtain ⟨hx, hb, -, hown, hts, -, -⟩ := id B
  have hA : ∀ q, AA ad s.heap.size q → AA ad s.heap.size q := fun _ h => h
  have hl : lv_has ls 3 [(0, .ref (ad 49)), (1, .int x1), (2, .int x2)] := hl
  have hF := FMO_isItemOf_e S x1 x2
  refine lv_aload_n hx hb dMO_isItemOf_0 rfl (lv_at hl 0 rfl) ?_
  refine lv_iload_n hx hb dMO_isItemOf_1 rfl (lv_at hl 1 rfl) ?_
  refine lv_bipush (v := 6) hx hb dMO_isItemOf_2 (by decide) ?_
  refine lv_idiv hx hb dMO_isItemOf_4 (by decide) ?_
  refine lv_iload_n hx hb dMO_isItemOf_5 rfl (lv_at hl 1 rfl) ?_
  refine lv_bipush (v := 6) hx hb dMO_isItemOf_6 (by decide) ?_
  refine lv_irem hx hb dMO_isItemOf_8 (by decide) ?_
  refine V_callV (rest := []) B hi hw hA hl.1 (M_FMO_isItem l hi S (x1 / 6) (x1 - x1 / 6 * 6) (vc_FMO_isItemOf_pre9_1 S x1 x2 hp)) (cw_FMO_isItem (Nat.le_of_ble_eq_true rfl) (Nat.le_of_ble_eq_true rfl) (Nat.zero_le _) (Nat.zero_le _)) (by decide) rfl rfl wm_262 wm_263 wm_264 rfl (Nat.le_of_ble_eq_true rfl) dMO_isItemOf_9 (kI (fun H locs hw => ?_))
  refine lv_if_eq (tgt := 35) hx hb dMO_isItemOf_12 (by decide) (fun c2 => ?_) (fun c2 => ?_)
  · have hF := hF.trans (if_pos c2)
    refine lv_iconst (v := 0) hx hb dMO_isItemOf_35 (by decide) ?_
    exact V_zret B hr hlk hw (by decide) (pI_r hF) dMO_isItemOf_36
  · have hF := hF.trans (if_neg c2)
    refine lv_aload_n hx hb dMO_isItemOf_15 rfl (lv_at hl 0 rfl) ?_
    refine V_get B hw (v := .ref (ad 50)) (by decide) rfl rfl hin_MO 0 (by decide) rfl wm_234 rfl dMO_isItemOf_16 ?_
    refine lv_sipush (v := 300) hx hb dMO_isItemOf_19 (by decide) ?_
    refine lv_iload_n hx hb dMO_isItemOf_22 rfl (lv_at hl 1 rfl) ?_
    refine lv_iadd hx hb dMO_isItemOf_23 ?_
    refine V_lald (j := (300 + x1).toNatClampNeg) (v := S.2 50 ((300 + x1).toNatClampNeg)) B hw (by decide) rfl (vc_FMO_isItemOf_ix24_3 S x1 x2 hp c2) rfl rfl dMO_isItemOf_24 ?_
    refine lv_iload_n hx hb dMO_isItemOf_25 rfl (lv_at hl 2 rfl) ?_
    refine lv_i2l hx hb dMO_isItemOf_26 rfl ?_
    refine V_lne (tgt := 35) B dMO_isItemOf_27 dMO_isItemOf_28 (by decide) (fun c4 => ?_) (fun c4 => ?_)
    · have hF := hF.trans (if_neg c4)
      refine lv_iconst (v := 0) hx hb dMO_isItemOf_35 (by decide) ?_
      exact V_zret B hr hlk hw (by decide) (pI_r hF) dMO_isItemOf_36
    · have hF := hF.trans (if_pos c4)
      refine lv_iconst (v := 1) hx hb dMO_isItemOf_31 (by decide) ?_
      refine lv_goto (tgt := 36) hx hb dMO_isItemOf_32 (by decide) ?_
      exact V_zret B hr hlk hw (by decide) (pI_r hF) dMO_isItemOf_36
theorem cw_FMO_isBefore {R : Room} {cells slots : Nat} (h1 : 1 ≤ R.frames) (h2 : 26 ≤ R.locals) (h3 : cells ≤ R.cells) (h4 : slots ≤ R.slots) : Cw R cells slots yMO_isBefore bMO_isBefore 7 (some .boolean) ({ frames := 0, cells := 0, slots := 0, locals := 0 } : Room) 2 := ⟨wm_441, wm_426, by decide +kernel, ⟨rfl, rfl, h1, h2⟩, h3, h4⟩
set_option maxHeartbeats 4000000 in
set_option maxRecDepth 100000 in
theorem M_FMO_isBefore (l : Launch) {ad : Nat → Nat} {cI cL : ClassId} {dC : Nat → ClassId} {dI : Nat → Nat → Nat} (hi : adI ad) (S : hS) (x1 : Int32) (x2 : Int32) (hp : wfM S ∧ rg x1 240 ∧ rg x2 240) : Mt l ad cI cL dC dI yMO_isBefore bMO_isBefore 7 (some .boolean) ({ frames := 0, cells := 0, slots := 0, locals := 0 } : Room) [.ref (ad 49), .int x1, .int x2] S (pI (FMO_isBefore S x1 x2) S) := by
  refine Mt_of (own := RMO) hi (by decide) rfl (Nat.le_of_ble_eq_true rfl) ?_
  intro p e s m args below meth c ls B hr hlk hw hl
  obtain ⟨hx, hb, -, hown, hts, -, -⟩ := id B
  have hA : ∀ q, AA ad s.heap.size q → AA ad s.heap.size q := fun _ h => h
  have hl : lv_has ls 7 [(0, .ref (ad 49)), (1, .int x1), (2, .int x2)] := hl
  have hF := FMO_isBefore_e S x1 x2
  refine lv_aload_n hx hb dMO_isBefore_0 rfl (lv_at hl 0 rfl) ?_
  refine V_get B hw (v := .ref (ad 50)) (by decide) rfl rfl hin_MO 0 (by decide) rfl wm_234 rfl dMO_isBefore_1 ?_
  refine lv_bipush (v := 100) hx hb dMO_isBefore_4 (by decide) ?_
  refine lv_iload_n hx hb dMO_isBefore_6 rfl (lv_at hl 1 rfl) ?_
  refine lv_bipush (v := 6) hx hb dMO_isBefore_7 (by decide) ?_
  refine lv_idiv hx hb dMO_isBefore_9 (by decide) ?_
  refine lv_iadd hx hb dMO_isBefore_10 ?_
  refine V_lald (j := (100 + (x1 / 6)).toNatClampNeg) (v := S.2 50 ((100 + (x1 / 6)).toNatClampNeg)) B hw (by decide) rfl (vc_FMO_isBefore_ix11_1 S x1 x2 hp) rfl rfl dMO_isBefore_11 ?_
  refine lv_lstore_n (lv' := [(3, .long (S.2 50 ((100 + (x1 / 6)).toNatClampNeg))), (0, .ref (ad 49)), (1, .int x1), (2, .int x2)]) hx hb dMO_isBefore_12 rfl hl (by decide) rfl (fun ls hl => ?_)
  refine lv_aload_n hx hb dMO_isBefore_13 rfl (lv_at hl 1 rfl) ?_
  refine V_get B hw (v := .ref (ad 50)) (by decide) rfl rfl hin_MO 0 (by decide) rfl wm_234 rfl dMO_isBefore_14 ?_
  refine lv_bipush (v := 100) hx hb dMO_isBefore_17 (by decide) ?_
  refine lv_iload_n hx hb dMO_isBefore_19 rfl (lv_at hl 3 rfl) ?_
  refine lv_bipush (v := 6) hx hb dMO_isBefore_20 (by decide) ?_
  refine lv_idiv hx hb dMO_isBefore_22 (by decide) ?_
  refine lv_iadd hx hb dMO_isBefore_23 ?_
  refine V_lald (j := (100 + (x2 / 6)).toNatClampNeg) (v := S.2 50 ((100 + (x2 / 6)).toNatClampNeg)) B hw (by decide) rfl (vc_FMO_isBefore_ix24_2 S x1 x2 hp) rfl rfl dMO_isBefore_24 ?_
  refine lv_lstore (lv' := [(5, .long (S.2 50 ((100 + (x2 / 6)).toNatClampNeg))), (3, .long (S.2 50 ((100 + (x1 / 6)).toNatClampNeg))), (0, .ref (ad 49)), (1, .int x1), (2, .int x2)]) hx hb dMO_isBefore_25 hl (by decide) rfl (fun ls hl => ?_)
  refine lv_lload_n hx hb dMO_isBefore_27 rfl (lv_at hl 1 rfl) ?_
  refine lv_lload hx hb dMO_isBefore_28 (lv_at hl 0 rfl) ?_
  refine V_leq (tgt := 49) B dMO_isBefore_30 dMO_isBefore_31 (by decide) (fun c3 => ?_) (fun c3 => ?_)
  · have hF := hF.trans (if_pos c3)
    refine lv_iload_n hx hb dMO_isBefore_49 rfl (lv_at hl 3 rfl) ?_
    refine lv_iload_n hx hb dMO_isBefore_50 rfl (lv_at hl 4 rfl) ?_
    refine lv_icmp_ge (tgt := 58) hx hb dMO_isBefore_51 (by decide) (fun c4 => ?_) (fun c4 => ?_)
    · have hF := hF.trans (if_pos c4)
      refine lv_iconst (v := 0) hx hb dMO_isBefore_58 (by decide) ?_
      exact V_zret B hr hlk hw (by decide) (pI_r hF) dMO_isBefore_59
    · have hF := hF.trans (if_neg c4)
      refine lv_iconst (v := 1) hx hb dMO_isBefore_54 (by decide) ?_
      refine lv_goto (tgt := 59) hx hb dMO_isBefore_55 (by decide) ?_
      exact V_zret B hr hlk hw (by decide) (pI_r hF) dMO_isBefore_59
  · have hF := hF.trans (if_neg c3)
    refine lv_lload_n hx hb dMO_isBefore_34 rfl (lv_at hl 1 rfl) ?_
    refine lv_lload hx hb dMO_isBefore_35 (lv_at hl 0 rfl) ?_
    refine V_lge (tgt := 45) B dMO_isBefore_37 dMO_isBefore_38 (by decide) (fun c5 => ?_) (fun c5 => ?_)
    · have hF := hF.trans (if_pos c5)
      refine lv_iconst (v := 0) hx hb dMO_isBefore_45 (by decide) ?_
      refine lv_goto (tgt := 59) hx hb dMO_isBefore_46 (by decide) ?_
      exact V_zret B hr hlk hw (by decide) (pI_r hF) dMO_isBefore_59
    · have hF := hF.trans (if_neg c5)
      refine lv_iconst (v := 1) hx hb dMO_isBefore_41 (by decide) ?_
      refine lv_goto (tgt := 59) hx hb dMO_isBefore_42 (by decide) ?_
      exact V_zret B hr hlk hw (by decide) (pI_r hF) dMO_isBefore_59
set_option maxHeartbeats 4000000 in
set_option maxRecDepth 100000 in
theorem LPMO_itemAt_24 (l : Launch) {ad : Nat → Nat} {cI cL : ClassId} {dC : Nat → ClassId} {dI : Nat → Nat → Nat} (hi : adI ad) {p : Program} {e : Env} {s : State} {m : MethodId} {args : Array Value} {below : List Frame} {meth : Method} {c : Code} {A : Nat → Prop} {post : Option Value → hS → Prop} (B : Bs p s m args c RMO bMO_itemAt 6 cI cL dC dI) (hr : meth.sig.returnType = (some .int)) (hlk : meth.locks = false) (hA : ∀ q, AA ad s.heap.size q → A q) : ∀ (n : Nat) (S : hS) (x1 : Int32) (x2 : Int32) (x3 : Int32) (x4 : Int32) (x5 : Int32) (H : Heap) (locs : List Loc) (ls : Array Slot), wfM S ∧ bt x5 240 ∧ rg x3 240 → ((240 - x5.toInt).toNat) < n → Wd ad cI cL dC dI A s.heap S H locs → lv_has ls 6 [(0, .ref (ad 49)), (1, .int x1), (2, .int x2), (3, .int x3), (4, .int x4), (5, .int x5)] → (∀ (H : Heap) (locs : List Loc) (ls : Array Slot) (y4 : Int32) (y5 : Int32), LMO_itemAt_24 n S x1 x2 x3 x4 x5 = (y4, y5) → Wd ad cI cL dC dI A s.heap S H locs → lv_has ls 6 [(0, .ref (ad 49)), (1, .int x1), (2, .int x2), (3, .int x3), (4, .int y4), (5, .int y5)] → W p l e ({ frames := 2, cells := 0, slots := 0, locals := 45 } : Room) s m args below meth c H locs 0 0 (MQ below (QcW ad cI cL dC dI post A) args s 0 0 A) (F0 m 68 ls [])) → W p l e ({ frames := 2, cells := 0, slots := 0, locals := 45 } : Room) s m args below meth c H locs 0 0 (MQ below (QcW ad cI cL dC dI post A) args s 0 0 A) (F0 m 24 ls []) := by
  intro n
  obtain ⟨hx, hb, -, hown, hts, -, -⟩ := id B
  induction n with
  | zero => exact fun S x1 x2 x3 x4 x5 H locs ls _ hmu => absurd hmu (Nat.not_lt_zero _)
  | succ n ih =>
    intro S x1 x2 x3 x4 x5 H locs ls hJ hmu hw hl hexit
    have hF := LMO_itemAt_24_s n S x1 x2 x3 x4 x5
    refine lv_iload hx hb dMO_itemAt_24 (lv_at hl 5 rfl) ?_
    refine lv_sipush (v := 240) hx hb dMO_itemAt_26 (by decide) ?_
    refine lv_icmp_ge (tgt := 68) hx hb dMO_itemAt_29 (by decide) (fun c6 => ?_) (fun c6 => ?_)
    · have hF := hF.trans (if_pos c6)
      exact hexit _ _ _ x4 x5 hF hw (lv_sub hl [0, 1, 2, 3, 4, 5] rfl)
    · have hF := hF.trans (if_neg c6)
      refine lv_iload hx hb dMO_itemAt_32 (lv_at hl 4 rfl) ?_
      refine lv_aload_n hx hb dMO_itemAt_34 rfl (lv_at hl 0 rfl) ?_
      refine lv_iload hx hb dMO_itemAt_35 (lv_at hl 5 rfl) ?_
      refine lv_iload_n hx hb dMO_itemAt_37 rfl (lv_at hl 1 rfl) ?_
      refine V_callV (rest := [.int x4]) B hi hw hA hl.1 (M_FMO_isItemOf l hi S x5 x1 (vc_FMO_itemAt_pre38_7 S x1 x2 x3 x4 x5 hJ c6)) (cw_FMO_isItemOf (Nat.le_of_ble_eq_true rfl) (Nat.le_of_ble_eq_true rfl) (Nat.zero_le _) (Nat.zero_le _)) (by decide) rfl rfl wm_265 wm_266 wm_267 rfl (Nat.le_of_ble_eq_true rfl) dMO_itemAt_38 (kI (fun H locs hw => ?_))
      refine lv_if_eq (tgt := 58) hx hb dMO_itemAt_41 (by decide) (fun c8 => ?_) (fun c8 => ?_)
      · have hF := hF.trans (if_pos c8)
        refine lv_iconst (v := 0) hx hb dMO_itemAt_58 (by decide) ?_
        refine lv_iadd hx hb dMO_itemAt_59 ?_
        refine lv_istore (lv' := [(4, .int (x4 + 0)), (0, .ref (ad 49)), (1, .int x1), (2, .int x2), (3, .int x3), (5, .int x5)]) hx hb dMO_itemAt_60 hl (by decide) rfl (fun ls hl => ?_)
        refine lv_iinc (v := x5 + 1) (lv' := [(5, .int (x5 + 1)), (4, .int (x4 + 0)), (0, .ref (ad 49)), (1, .int x1), (2, .int x2), (3, .int x3)]) hx hb dMO_itemAt_62 hl (k := 5) rfl rfl (by decide) rfl (fun ls hl => ?_)
        refine lv_goto (tgt := 24) hx hb dMO_itemAt_65 (by decide) ?_
        exact ih S x1 x2 x3 (x4 + 0) (x5 + 1) _ _ _ (vc_FMO_itemAt_inv24_9 S x1 x2 x3 x4 x5 hJ c6 c8) (Nat.lt_of_lt_of_le (vc_FMO_itemAt_mu24_10 S x1 x2 x3 x4 x5 hJ c6 c8) (Nat.le_of_lt_succ hmu)) hw (lv_sub hl [2, 3, 4, 5, 1, 0] rfl) (fun H locs ls y4 y5 h hw hl => hexit H locs ls y4 y5 (hF.trans h) hw hl)
      · have hF := hF.trans (if_neg c8)
        refine lv_aload_n hx hb dMO_itemAt_44 rfl (lv_at hl 0 rfl) ?_
        refine lv_iload hx hb dMO_itemAt_45 (lv_at hl 5 rfl) ?_
        refine lv_iload_n hx hb dMO_itemAt_47 rfl (lv_at hl 3 rfl) ?_
        refine V_callV (rest := [.int x4]) B hi hw hA hl.1 (M_FMO_isBefore l hi S x5 x3 (vc_FMO_itemAt_pre48_11 S x1 x2 x3 x4 x5 hJ c6 c8)) (cw_FMO_isBefore (Nat.le_of_ble_eq_true rfl) (Nat.le_of_ble_eq_true rfl) (Nat.zero_le _) (Nat.zero_le _)) (by decide) rfl rfl wm_268 wm_269 wm_270 rfl (Nat.le_of_ble_eq_true rfl) dMO_itemAt_48 (kI (fun H locs hw => ?_))
        refine lv_if_eq (tgt := 58) hx hb dMO_itemAt_51 (by decide) (fun c12 => ?_) (fun c12 => ?_)
        · have hF := hF.trans (if_pos c12)
          refine lv_iconst (v := 0) hx hb dMO_itemAt_58 (by decide) ?_
          refine lv_iadd hx hb dMO_itemAt_59 ?_
          refine lv_istore (lv' := [(4, .int (x4 + 0)), (0, .ref (ad 49)), (1, .int x1), (2, .int x2), (3, .int x3), (5, .int x5)]) hx hb dMO_itemAt_60 hl (by decide) rfl (fun ls hl => ?_)
          refine lv_iinc (v := x5 + 1) (lv' := [(5, .int (x5 + 1)), (4, .int (x4 + 0)), (0, .ref (ad 49)), (1, .int x1), (2, .int x2), (3, .int x3)]) hx hb dMO_itemAt_62 hl (k := 5) rfl rfl (by decide) rfl (fun ls hl => ?_)
          refine lv_goto (tgt := 24) hx hb dMO_itemAt_65 (by decide) ?_
          exact ih S x1 x2 x3 (x4 + 0) (x5 + 1) _ _ _ (vc_FMO_itemAt_inv24_13 S x1 x2 x3 x4 x5 hJ c6 c8 c12) (Nat.lt_of_lt_of_le (vc_FMO_itemAt_mu24_14 S x1 x2 x3 x4 x5 hJ c6 c8 c12) (Nat.le_of_lt_succ hmu)) hw (lv_sub hl [2, 3, 4, 5, 1, 0] rfl) (fun H locs ls y4 y5 h hw hl => hexit H locs ls y4 y5 (hF.trans h) hw hl)
        · have hF := hF.trans (if_neg c12)
          refine lv_iconst (v := 1) hx hb dMO_itemAt_54 (by decide) ?_
          refine lv_goto (tgt := 59) hx hb dMO_itemAt_55 (by decide) ?_
          refine lv_iadd hx hb dMO_itemAt_59 ?_
          refine lv_istore (lv' := [(4, .int (x4 + 1)), (0, .ref (ad 49)), (1, .int x1), (2, .int x2), (3, .int x3), (5, .int x5)]) hx hb dMO_itemAt_60 hl (by decide) rfl (fun ls hl => ?_)
          refine lv_iinc (v := x5 + 1) (lv' := [(5, .int (x5 + 1)), (4, .int (x4 + 1)), (0, .ref (ad 49)), (1, .int x1), (2, .int x2), (3, .int x3)]) hx hb dMO_itemAt_62 hl (k := 5) rfl rfl (by decide) rfl (fun ls hl => ?_)
          refine lv_goto (tgt := 24) hx hb dMO_itemAt_65 (by decide) ?_
          exact ih S x1 x2 x3 (x4 + 1) (x5 + 1) _ _ _ (vc_FMO_itemAt_inv24_15 S x1 x2 x3 x4 x5 hJ c6 c8 c12) (Nat.lt_of_lt_of_le (vc_FMO_itemAt_mu24_16 S x1 x2 x3 x4 x5 hJ c6 c8 c12) (Nat.le_of_lt_succ hmu)) hw (lv_sub hl [2, 3, 4, 5, 1, 0] rfl) (fun H locs ls y4 y5 h hw hl => hexit H locs ls y4 y5 (hF.trans h) hw hl)
set_option maxHeartbeats 4000000 in
set_option maxRecDepth 100000 in
theorem LPMO_itemAt_2 (l : Launch) {ad : Nat → Nat} {cI cL : ClassId} {dC : Nat → ClassId} {dI : Nat → Nat → Nat} (hi : adI ad) {p : Program} {e : Env} {s : State} {m : MethodId} {args : Array Value} {below : List Frame} {meth : Method} {c : Code} {A : Nat → Prop} {post : Option Value → hS → Prop} (B : Bs p s m args c RMO bMO_itemAt 6 cI cL dC dI) (hr : meth.sig.returnType = (some .int)) (hlk : meth.locks = false) (hA : ∀ q, AA ad s.heap.size q → A q) : ∀ (n : Nat) (S : hS) (x1 : Int32) (x2 : Int32) (x3 : Int32) (H : Heap) (locs : List Loc) (ls : Array Slot), wfM S ∧ bt x3 240 → ((240 - x3.toInt).toNat) < n → Wd ad cI cL dC dI A s.heap S H locs → lv_has ls 6 [(0, .ref (ad 49)), (1, .int x1), (2, .int x2), (3, .int x3)] → (∀ (v : Int32), LMO_itemAt_2 n S x1 x2 x3 = .inl v → post (some (.int v)) S) → (∀ (H : Heap) (locs : List Loc) (ls : Array Slot) (y3 : Int32), LMO_itemAt_2 n S x1 x2 x3 = .inr y3 → Wd ad cI cL dC dI A s.heap S H locs → lv_has ls 6 [(0, .ref (ad 49)), (1, .int x1), (2, .int x2), (3, .int y3)] → W p l e ({ frames := 2, cells := 0, slots := 0, locals := 45 } : Room) s m args below meth c H locs 0 0 (MQ below (QcW ad cI cL dC dI post A) args s 0 0 A) (F0 m 82 ls [])) → W p l e ({ frames := 2, cells := 0, slots := 0, locals := 45 } : Room) s m args below meth c H locs 0 0 (MQ below (QcW ad cI cL dC dI post A) args s 0 0 A) (F0 m 2 ls []) := by
  intro n
  obtain ⟨hx, hb, -, hown, hts, -, -⟩ := id B
  induction n with
  | zero => exact fun S x1 x2 x3 H locs ls _ hmu => absurd hmu (Nat.not_lt_zero _)
  | succ n ih =>
    intro S x1 x2 x3 H locs ls hJ hmu hw hl hret hexit
    have hF := LMO_itemAt_2_s n S x1 x2 x3
    refine lv_iload_n hx hb dMO_itemAt_2 rfl (lv_at hl 3 rfl) ?_
    refine lv_sipush (v := 240) hx hb dMO_itemAt_3 (by decide) ?_
    refine lv_icmp_ge (tgt := 82) hx hb dMO_itemAt_6 (by decide) (fun c1 => ?_) (fun c1 => ?_)
    · have hF := hF.trans (if_pos c1)
      exact hexit _ _ _ x3 hF hw (lv_sub hl [0, 1, 2, 3] rfl)
    · have hF := hF.trans (if_neg c1)
      refine lv_aload_n hx hb dMO_itemAt_9 rfl (lv_at hl 0 rfl) ?_
      refine lv_iload_n hx hb dMO_itemAt_10 rfl (lv_at hl 3 rfl) ?_
      refine lv_iload_n hx hb dMO_itemAt_11 rfl (lv_at hl 1 rfl) ?_
      refine V_callV (rest := []) B hi hw hA hl.1 (M_FMO_isItemOf l hi S x3 x1 (vc_FMO_itemAt_pre12_2 S x1 x2 x3 hJ c1)) (cw_FMO_isItemOf (Nat.le_of_ble_eq_true rfl) (Nat.le_of_ble_eq_true rfl) (Nat.zero_le _) (Nat.zero_le _)) (by decide) rfl rfl wm_265 wm_266 wm_267 rfl (Nat.le_of_ble_eq_true rfl) dMO_itemAt_12 (kI (fun H locs hw => ?_))
      refine lv_if_eq (tgt := 76) hx hb dMO_itemAt_15 (by decide) (fun c3 => ?_) (fun c3 => ?_)
      · have hF := hF.trans (if_pos c3)
        refine lv_iinc (v := x3 + 1) (lv' := [(3, .int (x3 + 1)), (0, .ref (ad 49)), (1, .int x1), (2, .int x2)]) hx hb dMO_itemAt_76 hl (k := 3) rfl rfl (by decide) rfl (fun ls hl => ?_)
        refine lv_goto (tgt := 2) hx hb dMO_itemAt_79 (by decide) ?_
        exact ih S x1 x2 (x3 + 1) _ _ _ (vc_FMO_itemAt_inv2_4 S x1 x2 x3 hJ c1 c3) (Nat.lt_of_lt_of_le (vc_FMO_itemAt_mu2_5 S x1 x2 x3 hJ c1 c3) (Nat.le_of_lt_succ hmu)) hw (lv_sub hl [1, 2, 3, 0] rfl) (fun v h => hret v (hF.trans h)) (fun H locs ls y3 h hw hl => hexit H locs ls y3 (hF.trans h) hw hl)
      · have hF := hF.trans (if_neg c3)
        refine lv_iconst (v := 0) hx hb dMO_itemAt_18 (by decide) ?_
        refine lv_istore (lv' := [(4, .int 0), (0, .ref (ad 49)), (1, .int x1), (2, .int x2), (3, .int x3)]) hx hb dMO_itemAt_19 hl (by decide) rfl (fun ls hl => ?_)
        refine lv_iconst (v := 0) hx hb dMO_itemAt_21 (by decide) ?_
        refine lv_istore (lv' := [(5, .int 0), (4, .int 0), (0, .ref (ad 49)), (1, .int x1), (2, .int x2), (3, .int x3)]) hx hb dMO_itemAt_22 hl (by decide) rfl (fun ls hl => ?_)
        refine LPMO_itemAt_24 l hi B hr hlk hA 300 S x1 x2 x3 0 0 _ _ _ (vc_FMO_itemAt_inv024_18 S x1 x2 x3 hJ c1 c3) (vc_FMO_itemAt_mu024_19 S x1 x2 x3 hJ c1 c3) hw (lv_sub hl [2, 3, 4, 5, 1, 0] rfl) (fun H locs ls y17_4 y17_5 hq17 hw hl => ?_)
        rw [hq17] at hF; try dsimp only at hF
        refine lv_iload hx hb dMO_itemAt_68 (lv_at hl 4 rfl) ?_
        refine lv_iload_n hx hb dMO_itemAt_70 rfl (lv_at hl 2 rfl) ?_
        refine lv_icmp_ne (tgt := 76) hx hb dMO_itemAt_71 (by decide) (fun c20 => ?_) (fun c20 => ?_)
        · have hF := hF.trans (if_neg c20)
          refine lv_iinc (v := x3 + 1) (lv' := [(3, .int (x3 + 1)), (0, .ref (ad 49)), (1, .int x1), (2, .int x2), (4, .int y17_4), (5, .int y17_5)]) hx hb dMO_itemAt_76 hl (k := 3) rfl rfl (by decide) rfl (fun ls hl => ?_)
          refine lv_goto (tgt := 2) hx hb dMO_itemAt_79 (by decide) ?_
          exact ih S x1 x2 (x3 + 1) _ _ _ (vc_FMO_itemAt_inv2_21 S x1 x2 x3 hJ c1 c3 y17_4 y17_5 hq17 c20) (Nat.lt_of_lt_of_le (vc_FMO_itemAt_mu2_22 S x1 x2 x3 hJ c1 c3 y17_4 y17_5 hq17 c20) (Nat.le_of_lt_succ hmu)) hw (lv_sub hl [1, 2, 3, 0] rfl) (fun v h => hret v (hF.trans h)) (fun H locs ls y3 h hw hl => hexit H locs ls y3 (hF.trans h) hw hl)
        · have hF := hF.trans (if_pos c20)
          refine lv_iload_n hx hb dMO_itemAt_74 rfl (lv_at hl 3 rfl) ?_
          exact V_iret B hr hlk hw (hret _ hF) dMO_itemAt_75
theorem cw_FMO_itemAt {R : Room} {cells slots : Nat} (h1 : 3 ≤ R.frames) (h2 : 70 ≤ R.locals) (h3 : cells ≤ R.cells) (h4 : slots ≤ R.slots) : Cw R cells slots yMO_itemAt bMO_itemAt 6 (some .int) ({ frames := 2, cells := 0, slots := 0, locals := 45 } : Room) 2 := ⟨wm_442, wm_426, by decide +kernel, ⟨rfl, rfl, h1, h2⟩, h3, h4⟩
set_option maxHeartbeats 4000000 in
set_option maxRecDepth 100000 in
theorem M_FMO_itemAt (l : Launch) {ad : Nat → Nat} {cI cL : ClassId} {dC : Nat → ClassId} {dI : Nat → Nat → Nat} (hi : adI ad) (S : hS) (x1 : Int32) (x2 : Int32) (hp : wfM S) : Mt l ad cI cL dC dI yMO_itemAt bMO_itemAt 6 (some .int) ({ frames := 2, cells := 0, slots := 0, locals := 45 } : Room) [.ref (ad 49), .int x1, .int x2] S (pI (FMO_itemAt S x1 x2) S) := by
  refine Mt_of (own := RMO) hi (by decide) rfl (Nat.le_of_ble_eq_true rfl) ?_
  intro p e s m args below meth c ls B hr hlk hw hl
  obtain ⟨hx, hb, -, hown, hts, -, -⟩ := id B
  have hA : ∀ q, AA ad s.heap.size q → AA ad s.heap.size q := fun _ h => h
  have hl : lv_has ls 6 [(0, .ref (ad 49)), (1, .int x1), (2, .int x2)] := hl
  have hF := FMO_itemAt_e S x1 x2
  refine lv_iconst (v := 0) hx hb dMO_itemAt_0 (by decide) ?_
  refine lv_istore_n (lv' := [(3, .int 0), (0, .ref (ad 49)), (1, .int x1), (2, .int x2)]) hx hb dMO_itemAt_1 rfl hl (by decide) rfl (fun ls hl => ?_)
  refine LPMO_itemAt_2 l hi B hr hlk hA 300 S x1 x2 0 _ _ _ (vc_FMO_itemAt_inv02_24 S x1 x2 hp) (vc_FMO_itemAt_mu02_25 S x1 x2 hp) hw (lv_sub hl [1, 2, 3, 0] rfl) (fun v hq => by rw [hq, Sum.elim_inl] at hF; exact pI_r hF) (fun H locs ls y23_3 hq23 hw hl => ?_)
  rw [hq23, Sum.elim_inr] at hF; try dsimp only at hF
  refine lv_iconst (v := (-1)) hx hb dMO_itemAt_82 (by decide) ?_
  exact V_iret B hr hlk hw (pI_r hF) dMO_itemAt_83
set_option maxHeartbeats 4000000 in
set_option maxRecDepth 100000 in
theorem LPMO_payment_8 (l : Launch) {ad : Nat → Nat} {cI cL : ClassId} {dC : Nat → ClassId} {dI : Nat → Nat → Nat} (hi : adI ad) {p : Program} {e : Env} {s : State} {m : MethodId} {args : Array Value} {below : List Frame} {meth : Method} {c : Code} {A : Nat → Prop} {post : Option Value → hS → Prop} (B : Bs p s m args c RMO bMO_payment 14 cI cL dC dI) (hr : meth.sig.returnType = (some .int)) (hlk : meth.locks = false) (hA : ∀ q, AA ad s.heap.size q → A q) : ∀ (n : Nat) (S : hS) (x1 : Int32) (x2 : Int64) (x4 : Int64) (x6 : Int32) (H : Heap) (locs : List Loc) (ls : Array Slot), wfM S ∧ bt x6 8 → ((8 - x6.toInt).toNat) < n → Wd ad cI cL dC dI A s.heap S H locs → lv_has ls 14 [(0, .ref (ad 49)), (1, .int x1), (2, .long x2), (4, .long x4), (6, .int x6)] → (∀ (H : Heap) (locs : List Loc) (ls : Array Slot) (y6 : Int32), LMO_payment_8 n S x1 x2 x4 x6 = y6 → Wd ad cI cL dC dI A s.heap S H locs → lv_has ls 14 [(0, .ref (ad 49)), (1, .int x1), (2, .long x2), (4, .long x4), (6, .int y6)] → W p l e ({ frames := 3, cells := 0, slots := 0, locals := 70 } : Room) s m args below meth c H locs 0 0 (MQ below (QcW ad cI cL dC dI post A) args s 0 0 A) (F0 m 38 ls [])) → W p l e ({ frames := 3, cells := 0, slots := 0, locals := 70 } : Room) s m args below meth c H locs 0 0 (MQ below (QcW ad cI cL dC dI post A) args s 0 0 A) (F0 m 8 ls []) := by
  intro n
  obtain ⟨hx, hb, -, hown, hts, -, -⟩ := id B
  induction n with
  | zero => exact fun S x1 x2 x4 x6 H locs ls _ hmu => absurd hmu (Nat.not_lt_zero _)
  | succ n ih =>
    intro S x1 x2 x4 x6 H locs ls hJ hmu hw hl hexit
    have hF := LMO_payment_8_s n S x1 x2 x4 x6
    refine lv_aload_n hx hb dMO_payment_8 rfl (lv_at hl 0 rfl) ?_
    refine lv_iload hx hb dMO_payment_9 (lv_at hl 4 rfl) ?_
    refine V_callV (rest := []) B hi hw hA hl.1 (M_FMO_isAccount l hi S x6 (vc_FMO_payment_pre11_1 S x1 x2 x4 x6 hJ)) (cw_FMO_isAccount (Nat.le_of_ble_eq_true rfl) (Nat.le_of_ble_eq_true rfl) (Nat.zero_le _) (Nat.zero_le _)) (by decide) rfl rfl wm_235 wm_236 wm_237 rfl (Nat.le_of_ble_eq_true rfl) dMO_payment_11 (kI (fun H locs hw => ?_))
    refine lv_if_eq (tgt := 38) hx hb dMO_payment_14 (by decide) (fun c2 => ?_) (fun c2 => ?_)
    · have hF := hF.trans (if_pos c2)
      exact hexit _ _ _ x6 hF hw (lv_sub hl [0, 1, 2, 3, 4] rfl)
    · have hF := hF.trans (if_neg c2)
      refine lv_aload_n hx hb dMO_payment_17 rfl (lv_at hl 0 rfl) ?_
      refine V_get B hw (v := .ref (ad 50)) (by decide) rfl rfl hin_MO 0 (by decide) rfl wm_234 rfl dMO_payment_18 ?_
      refine lv_bipush (v := 10) hx hb dMO_payment_21 (by decide) ?_
      refine lv_iload hx hb dMO_payment_23 (lv_at hl 4 rfl) ?_
      refine lv_iadd hx hb dMO_payment_25 ?_
      refine V_lald (j := (10 + x6).toNatClampNeg) (v := S.2 50 ((10 + x6).toNatClampNeg)) B hw (by decide) rfl (vc_FMO_payment_ix26_3 S x1 x2 x4 x6 hJ c2) rfl rfl dMO_payment_26 ?_
      refine lv_lconst (v := 0) hx hb dMO_payment_27 (by decide) ?_
      refine V_leq (tgt := 38) B dMO_payment_28 dMO_payment_29 (by decide) (fun c4 => ?_) (fun c4 => ?_)
      · have hF := hF.trans (if_pos c4)
        exact hexit _ _ _ x6 hF hw (lv_sub hl [0, 1, 2, 3, 4] rfl)
      · have hF := hF.trans (if_neg c4)
        refine lv_iinc (v := x6 + 1) (lv' := [(6, .int (x6 + 1)), (0, .ref (ad 49)), (1, .int x1), (2, .long x2), (4, .long x4)]) hx hb dMO_payment_32 hl (k := 4) rfl rfl (by decide) rfl (fun ls hl => ?_)
        refine lv_goto (tgt := 8) hx hb dMO_payment_35 (by decide) ?_
        exact ih S x1 x2 x4 (x6 + 1) _ _ _ (vc_FMO_payment_inv8_5 S x1 x2 x4 x6 hJ c2 c4) (Nat.lt_of_lt_of_le (vc_FMO_payment_mu8_6 S x1 x2 x4 x6 hJ c2 c4) (Nat.le_of_lt_succ hmu)) hw (lv_sub hl [1, 2, 3, 4, 0] rfl) (fun H locs ls y6 h hw hl => hexit H locs ls y6 (hF.trans h) hw hl)
set_option maxHeartbeats 4000000 in
set_option maxRecDepth 100000 in
theorem LPMO_payment_185 (l : Launch) {ad : Nat → Nat} {cI cL : ClassId} {dC : Nat → ClassId} {dI : Nat → Nat → Nat} (hi : adI ad) {p : Program} {e : Env} {s : State} {m : MethodId} {args : Array Value} {below : List Frame} {meth : Method} {c : Code} {A : Nat → Prop} {post : Option Value → hS → Prop} (B : Bs p s m args c RMO bMO_payment 14 cI cL dC dI) (hr : meth.sig.returnType = (some .int)) (hlk : meth.locks = false) (hA : ∀ q, AA ad s.heap.size q → A q) : ∀ (n : Nat) (S : hS) (x1 : Int32) (x2 : Int64) (x4 : Int64) (x6 : Int32) (x7 : Int32) (x8 : Int64) (x10 : Int32) (H : Heap) (locs : List Loc) (ls : Array Slot), wfM S ∧ bt x10 241 ∧ rg x7 40 → ((241 - x10.toInt).toNat) < n → Wd ad cI cL dC dI A s.heap S H locs → lv_has ls 14 [(0, .ref (ad 49)), (1, .int x1), (2, .long x2), (4, .long x4), (6, .int x6), (7, .int x7), (8, .long x8), (10, .int x10)] → (∀ (H : Heap) (locs : List Loc) (ls : Array Slot) (y8 : Int64) (y10 : Int32) (S' : hS), LMO_payment_185 n S x1 x2 x4 x6 x7 x8 x10 = (y8, y10, S') → Wd ad cI cL dC dI A s.heap S' H locs → lv_has ls 14 [(0, .ref (ad 49)), (1, .int x1), (2, .long x2), (4, .long x4), (6, .int x6), (7, .int x7), (8, .long y8), (10, .int y10)] → W p l e ({ frames := 3, cells := 0, slots := 0, locals := 70 } : Room) s m args below meth c H locs 0 0 (MQ below (QcW ad cI cL dC dI post A) args s 0 0 A) (F0 m 304 ls [])) → W p l e ({ frames := 3, cells := 0, slots := 0, locals := 70 } : Room) s m args below meth c H locs 0 0 (MQ below (QcW ad cI cL dC dI post A) args s 0 0 A) (F0 m 185 ls []) := by
  intro n
  obtain ⟨hx, hb, -, hown, hts, -, -⟩ := id B
  induction n with
  | zero => exact fun S x1 x2 x4 x6 x7 x8 x10 H locs ls _ hmu => absurd hmu (Nat.not_lt_zero _)
  | succ n ih =>
    intro S x1 x2 x4 x6 x7 x8 x10 H locs ls hJ hmu hw hl hexit
    have hF := LMO_payment_185_s n S x1 x2 x4 x6 x7 x8 x10
    refine lv_aload_n hx hb dMO_payment_185 rfl (lv_at hl 0 rfl) ?_
    refine lv_iload_n hx hb dMO_payment_186 rfl (lv_at hl 1 rfl) ?_
    refine lv_iload hx hb dMO_payment_187 (lv_at hl 7 rfl) ?_
    refine V_callV (rest := []) B hi hw hA hl.1 (M_FMO_itemAt l hi S x1 x10 (vc_FMO_payment_pre189_25 S x1 x2 x4 x6 x7 x8 x10 hJ)) (cw_FMO_itemAt (Nat.le_of_ble_eq_true rfl) (Nat.le_of_ble_eq_true rfl) (Nat.zero_le _) (Nat.zero_le _)) (by decide) rfl rfl wm_274 wm_275 wm_276 rfl (Nat.le_of_ble_eq_true rfl) dMO_payment_189 (kI (fun H locs hw => ?_))
    refine lv_if_lt (tgt := 304) hx hb dMO_payment_192 (by decide) (fun c26 => ?_) (fun c26 => ?_)
    · have hF := hF.trans (if_pos c26)
      exact hexit _ _ _ x8 x10 S hF hw (lv_sub hl [0, 1, 2, 3, 4, 5, 6, 7] rfl)
    · have hF := hF.trans (if_neg c26)
      refine lv_aload_n hx hb dMO_payment_195 rfl (lv_at hl 0 rfl) ?_
      refine lv_iload_n hx hb dMO_payment_196 rfl (lv_at hl 1 rfl) ?_
      refine lv_iload hx hb dMO_payment_197 (lv_at hl 7 rfl) ?_
      refine V_callV (rest := []) B hi hw hA hl.1 (M_FMO_itemAt l hi S x1 x10 (vc_FMO_payment_pre199_27 S x1 x2 x4 x6 x7 x8 x10 hJ c26)) (cw_FMO_itemAt (Nat.le_of_ble_eq_true rfl) (Nat.le_of_ble_eq_true rfl) (Nat.zero_le _) (Nat.zero_le _)) (by decide) rfl rfl wm_274 wm_275 wm_276 rfl (Nat.le_of_ble_eq_true rfl) dMO_payment_199 (kI (fun H locs hw => ?_))
      refine lv_istore (lv' := [(11, .int (FMO_itemAt S x1 x10)), (0, .ref (ad 49)), (1, .int x1), (2, .long x2), (4, .long x4), (6, .int x6), (7, .int x7), (8, .long x8), (10, .int x10)]) hx hb dMO_payment_202 hl (by decide) rfl (fun ls hl => ?_)
      refine lv_lload hx hb dMO_payment_204 (lv_at hl 7 rfl) ?_
      refine lv_aload_n hx hb dMO_payment_206 rfl (lv_at hl 1 rfl) ?_
      refine V_get B hw (v := .ref (ad 50)) (by decide) rfl rfl hin_MO 0 (by decide) rfl wm_234 rfl dMO_payment_207 ?_
      refine lv_sipush (v := 780) hx hb dMO_payment_210 (by decide) ?_
      refine lv_iload hx hb dMO_payment_213 (lv_at hl 0 rfl) ?_
      refine lv_iadd hx hb dMO_payment_215 ?_
      refine V_lald (j := (780 + (FMO_itemAt S x1 x10)).toNatClampNeg) (v := S.2 50 ((780 + (FMO_itemAt S x1 x10)).toNatClampNeg)) B hw (by decide) rfl (vc_FMO_payment_ix216_28 S x1 x2 x4 x6 x7 x8 x10 hJ c26) rfl rfl dMO_payment_216 ?_
      refine V_lge (tgt := 226) B dMO_payment_217 dMO_payment_218 (by decide) (fun c29 => ?_) (fun c29 => ?_)
      · have hF := hF.trans (if_pos c29)
        refine lv_aload_n hx hb dMO_payment_226 rfl (lv_at hl 1 rfl) ?_
        refine V_get B hw (v := .ref (ad 50)) (by decide) rfl rfl hin_MO 0 (by decide) rfl wm_234 rfl dMO_payment_227 ?_
        refine lv_sipush (v := 780) hx hb dMO_payment_230 (by decide) ?_
        refine lv_iload hx hb dMO_payment_233 (lv_at hl 0 rfl) ?_
        refine lv_iadd hx hb dMO_payment_235 ?_
        refine V_lald (j := (780 + (FMO_itemAt S x1 x10)).toNatClampNeg) (v := S.2 50 ((780 + (FMO_itemAt S x1 x10)).toNatClampNeg)) B hw (by decide) rfl (vc_FMO_payment_ix236_30 S x1 x2 x4 x6 x7 x8 x10 hJ c26 c29) rfl rfl dMO_payment_236 ?_
        refine lv_lstore (lv' := [(12, .long (S.2 50 ((780 + (FMO_itemAt S x1 x10)).toNatClampNeg))), (11, .int (FMO_itemAt S x1 x10)), (0, .ref (ad 49)), (1, .int x1), (2, .long x2), (4, .long x4), (6, .int x6), (7, .int x7), (8, .long x8), (10, .int x10)]) hx hb dMO_payment_237 hl (by decide) rfl (fun ls hl => ?_)
        refine lv_lload hx hb dMO_payment_239 (lv_at hl 0 rfl) ?_
        refine lv_lconst (v := 0) hx hb dMO_payment_241 (by decide) ?_
        refine V_lle (tgt := 298) B dMO_payment_242 dMO_payment_243 (by decide) (fun c31 => ?_) (fun c31 => ?_)
        · have hF := hF.trans (if_pos c31)
          refine lv_iinc (v := x10 + 1) (lv' := [(10, .int (x10 + 1)), (12, .long (S.2 50 ((780 + (FMO_itemAt S x1 x10)).toNatClampNeg))), (11, .int (FMO_itemAt S x1 x10)), (0, .ref (ad 49)), (1, .int x1), (2, .long x2), (4, .long x4), (6, .int x6), (7, .int x7), (8, .long x8)]) hx hb dMO_payment_298 hl (k := 9) rfl rfl (by decide) rfl (fun ls hl => ?_)
          refine lv_goto (tgt := 185) hx hb dMO_payment_301 (by decide) ?_
          exact ih S x1 x2 x4 x6 x7 x8 (x10 + 1) _ _ _ (vc_FMO_payment_inv185_32 S x1 x2 x4 x6 x7 x8 x10 hJ c26 c29 c31) (Nat.lt_of_lt_of_le (vc_FMO_payment_mu185_33 S x1 x2 x4 x6 x7 x8 x10 hJ c26 c29 c31) (Nat.le_of_lt_succ hmu)) hw (lv_sub hl [3, 4, 5, 6, 7, 8, 9, 0] rfl) (fun H locs ls y8 y10 S' h hw hl => hexit H locs ls y8 y10 S' (hF.trans h) hw hl)
        · have hF := hF.trans (if_neg c31)
          refine lv_aload_n hx hb dMO_payment_246 rfl (lv_at hl 2 rfl) ?_
          refine V_get B hw (v := .ref (ad 50)) (by decide) rfl rfl hin_MO 0 (by decide) rfl wm_234 rfl dMO_payment_247 ?_
          refine lv_sipush (v := 780) hx hb dMO_payment_250 (by decide) ?_
          refine lv_iload hx hb dMO_payment_253 (lv_at hl 1 rfl) ?_
          refine lv_iadd hx hb dMO_payment_255 ?_
          refine lv_dup2_11 hx hb dMO_payment_256 rfl rfl ?_
          refine V_lald (j := (780 + (FMO_itemAt S x1 x10)).toNatClampNeg) (v := S.2 50 ((780 + (FMO_itemAt S x1 x10)).toNatClampNeg)) B hw (by decide) rfl (vc_FMO_payment_ix257_34 S x1 x2 x4 x6 x7 x8 x10 hJ c26 c29 c31) rfl rfl dMO_payment_257 ?_
          refine lv_lload hx hb dMO_payment_258 (lv_at hl 0 rfl) ?_
          refine lv_lsub hx hb dMO_payment_260 ?_
          refine V_last (j := (780 + (FMO_itemAt S x1 x10)).toNatClampNeg) B hw (by decide) rfl (vc_FMO_payment_ix261_35 S x1 x2 x4 x6 x7 x8 x10 hJ c26 c29 c31) rfl dMO_payment_261 (fun H locs hw => ?_)
          refine lv_lload hx hb dMO_payment_262 (lv_at hl 8 rfl) ?_
          refine lv_lload hx hb dMO_payment_264 (lv_at hl 0 rfl) ?_
          refine lv_lsub hx hb dMO_payment_266 ?_
          refine lv_lstore (lv' := [(8, .long (x8 - (S.2 50 ((780 + (FMO_itemAt S x1 x10)).toNatClampNeg)))), (12, .long (S.2 50 ((780 + (FMO_itemAt S x1 x10)).toNatClampNeg))), (11, .int (FMO_itemAt S x1 x10)), (0, .ref (ad 49)), (1, .int x1), (2, .long x2), (4, .long x4), (6, .int x6), (7, .int x7), (10, .int x10)]) hx hb dMO_payment_267 hl (by decide) rfl (fun ls hl => ?_)
          refine lv_aload_n hx hb dMO_payment_269 rfl (lv_at hl 3 rfl) ?_
          refine V_get B hw (v := .ref (ad 50)) (by decide) rfl rfl hin_MO 0 (by decide) rfl wm_234 rfl dMO_payment_270 ?_
          refine lv_sipush (v := 1020) hx hb dMO_payment_273 (by decide) ?_
          refine lv_iconst (v := 4) hx hb dMO_payment_276 (by decide) ?_
          refine lv_iload hx hb dMO_payment_277 (lv_at hl 8 rfl) ?_
          refine lv_imul hx hb dMO_payment_279 ?_
          refine lv_iadd hx hb dMO_payment_280 ?_
          refine lv_iload hx hb dMO_payment_281 (lv_at hl 2 rfl) ?_
          refine lv_bipush (v := 60) hx hb dMO_payment_283 (by decide) ?_
          refine lv_idiv hx hb dMO_payment_285 (by decide) ?_
          refine lv_iadd hx hb dMO_payment_286 ?_
          refine lv_dup2_11 hx hb dMO_payment_287 rfl rfl ?_
          refine V_lald (j := ((1020 + (4 * x7)) + ((FMO_itemAt S x1 x10) / 60)).toNatClampNeg) (v := (sL S 50 ((780 + (FMO_itemAt S x1 x10)).toNatClampNeg) ((S.2 50 ((780 + (FMO_itemAt S x1 x10)).toNatClampNeg)) - (S.2 50 ((780 + (FMO_itemAt S x1 x10)).toNatClampNeg)))).2 50 (((1020 + (4 * x7)) + ((FMO_itemAt S x1 x10) / 60)).toNatClampNeg)) B hw (by decide) rfl (vc_FMO_payment_ix288_36 S x1 x2 x4 x6 x7 x8 x10 hJ c26 c29 c31) rfl rfl dMO_payment_288 ?_
          refine lv_lconst (v := 1) hx hb dMO_payment_289 (by decide) ?_
          refine lv_iload hx hb dMO_payment_290 (lv_at hl 2 rfl) ?_
          refine lv_bipush (v := 60) hx hb dMO_payment_292 (by decide) ?_
          refine lv_irem hx hb dMO_payment_294 (by decide) ?_
          refine lv_lshl hx hb dMO_payment_295 rfl ?_
          refine lv_lor hx hb dMO_payment_296 ?_
          refine V_last (j := ((1020 + (4 * x7)) + ((FMO_itemAt S x1 x10) / 60)).toNatClampNeg) B hw (by decide) rfl (vc_FMO_payment_ix297_37 S x1 x2 x4 x6 x7 x8 x10 hJ c26 c29 c31) rfl dMO_payment_297 (fun H locs hw => ?_)
          refine lv_iinc (v := x10 + 1) (lv' := [(10, .int (x10 + 1)), (8, .long (x8 - (S.2 50 ((780 + (FMO_itemAt S x1 x10)).toNatClampNeg)))), (12, .long (S.2 50 ((780 + (FMO_itemAt S x1 x10)).toNatClampNeg))), (11, .int (FMO_itemAt S x1 x10)), (0, .ref (ad 49)), (1, .int x1), (2, .long x2), (4, .long x4), (6, .int x6), (7, .int x7)]) hx hb dMO_payment_298 hl (k := 9) rfl rfl (by decide) rfl (fun ls hl => ?_)
          refine lv_goto (tgt := 185) hx hb dMO_payment_301 (by decide) ?_
          exact ih (sL (sL S 50 ((780 + (FMO_itemAt S x1 x10)).toNatClampNeg) ((S.2 50 ((780 + (FMO_itemAt S x1 x10)).toNatClampNeg)) - (S.2 50 ((780 + (FMO_itemAt S x1 x10)).toNatClampNeg)))) 50 (((1020 + (4 * x7)) + ((FMO_itemAt S x1 x10) / 60)).toNatClampNeg) (((sL S 50 ((780 + (FMO_itemAt S x1 x10)).toNatClampNeg) ((S.2 50 ((780 + (FMO_itemAt S x1 x10)).toNatClampNeg)) - (S.2 50 ((780 + (FMO_itemAt S x1 x10)).toNatClampNeg)))).2 50 (((1020 + (4 * x7)) + ((FMO_itemAt S x1 x10) / 60)).toNatClampNeg)) ||| (1 <<< (((FMO_itemAt S x1 x10) - (FMO_itemAt S x1 x10) / 60 * 60).toInt64 &&& 63)))) x1 x2 x4 x6 x7 (x8 - (S.2 50 ((780 + (FMO_itemAt S x1 x10)).toNatClampNeg))) (x10 + 1) _ _ _ (vc_FMO_payment_inv185_38 S x1 x2 x4 x6 x7 x8 x10 hJ c26 c29 c31) (Nat.lt_of_lt_of_le (vc_FMO_payment_mu185_39 S x1 x2 x4 x6 x7 x8 x10 hJ c26 c29 c31) (Nat.le_of_lt_succ hmu)) hw (lv_sub hl [4, 5, 6, 7, 8, 9, 1, 0] rfl) (fun H locs ls y8 y10 S' h hw hl => hexit H locs ls y8 y10 S' (hF.trans h) hw hl)
      · have hF := hF.trans (if_neg c29)
        refine lv_lload hx hb dMO_payment_221 (lv_at hl 7 rfl) ?_
        refine lv_goto (tgt := 237) hx hb dMO_payment_223 (by decide) ?_
        refine lv_lstore (lv' := [(12, .long x8), (11, .int (FMO_itemAt S x1 x10)), (0, .ref (ad 49)), (1, .int x1), (2, .long x2), (4, .long x4), (6, .int x6), (7, .int x7), (8, .long x8), (10, .int x10)]) hx hb dMO_payment_237 hl (by decide) rfl (fun ls hl => ?_)
        refine lv_lload hx hb dMO_payment_239 (lv_at hl 0 rfl) ?_
        refine lv_lconst (v := 0) hx hb dMO_payment_241 (by decide) ?_
        refine V_lle (tgt := 298) B dMO_payment_242 dMO_payment_243 (by decide) (fun c40 => ?_) (fun c40 => ?_)
        · have hF := hF.trans (if_pos c40)
          refine lv_iinc (v := x10 + 1) (lv' := [(10, .int (x10 + 1)), (12, .long x8), (11, .int (FMO_itemAt S x1 x10)), (0, .ref (ad 49)), (1, .int x1), (2, .long x2), (4, .long x4), (6, .int x6), (7, .int x7), (8, .long x8)]) hx hb dMO_payment_298 hl (k := 9) rfl rfl (by decide) rfl (fun ls hl => ?_)
          refine lv_goto (tgt := 185) hx hb dMO_payment_301 (by decide) ?_
          exact ih S x1 x2 x4 x6 x7 x8 (x10 + 1) _ _ _ (vc_FMO_payment_inv185_41 S x1 x2 x4 x6 x7 x8 x10 hJ c26 c29 c40) (Nat.lt_of_lt_of_le (vc_FMO_payment_mu185_42 S x1 x2 x4 x6 x7 x8 x10 hJ c26 c29 c40) (Nat.le_of_lt_succ hmu)) hw (lv_sub hl [3, 4, 5, 6, 7, 8, 9, 0] rfl) (fun H locs ls y8 y10 S' h hw hl => hexit H locs ls y8 y10 S' (hF.trans h) hw hl)
        · have hF := hF.trans (if_neg c40)
          refine lv_aload_n hx hb dMO_payment_246 rfl (lv_at hl 2 rfl) ?_
          refine V_get B hw (v := .ref (ad 50)) (by decide) rfl rfl hin_MO 0 (by decide) rfl wm_234 rfl dMO_payment_247 ?_
          refine lv_sipush (v := 780) hx hb dMO_payment_250 (by decide) ?_
          refine lv_iload hx hb dMO_payment_253 (lv_at hl 1 rfl) ?_
          refine lv_iadd hx hb dMO_payment_255 ?_
          refine lv_dup2_11 hx hb dMO_payment_256 rfl rfl ?_
          refine V_lald (j := (780 + (FMO_itemAt S x1 x10)).toNatClampNeg) (v := S.2 50 ((780 + (FMO_itemAt S x1 x10)).toNatClampNeg)) B hw (by decide) rfl (vc_FMO_payment_ix257_43 S x1 x2 x4 x6 x7 x8 x10 hJ c26 c29 c40) rfl rfl dMO_payment_257 ?_
          refine lv_lload hx hb dMO_payment_258 (lv_at hl 0 rfl) ?_
          refine lv_lsub hx hb dMO_payment_260 ?_
          refine V_last (j := (780 + (FMO_itemAt S x1 x10)).toNatClampNeg) B hw (by decide) rfl (vc_FMO_payment_ix261_44 S x1 x2 x4 x6 x7 x8 x10 hJ c26 c29 c40) rfl dMO_payment_261 (fun H locs hw => ?_)
          refine lv_lload hx hb dMO_payment_262 (lv_at hl 8 rfl) ?_
          refine lv_lload hx hb dMO_payment_264 (lv_at hl 0 rfl) ?_
          refine lv_lsub hx hb dMO_payment_266 ?_
          refine lv_lstore (lv' := [(8, .long (x8 - x8)), (12, .long x8), (11, .int (FMO_itemAt S x1 x10)), (0, .ref (ad 49)), (1, .int x1), (2, .long x2), (4, .long x4), (6, .int x6), (7, .int x7), (10, .int x10)]) hx hb dMO_payment_267 hl (by decide) rfl (fun ls hl => ?_)
          refine lv_aload_n hx hb dMO_payment_269 rfl (lv_at hl 3 rfl) ?_
          refine V_get B hw (v := .ref (ad 50)) (by decide) rfl rfl hin_MO 0 (by decide) rfl wm_234 rfl dMO_payment_270 ?_
          refine lv_sipush (v := 1020) hx hb dMO_payment_273 (by decide) ?_
          refine lv_iconst (v := 4) hx hb dMO_payment_276 (by decide) ?_
          refine lv_iload hx hb dMO_payment_277 (lv_at hl 8 rfl) ?_
          refine lv_imul hx hb dMO_payment_279 ?_
          refine lv_iadd hx hb dMO_payment_280 ?_
          refine lv_iload hx hb dMO_payment_281 (lv_at hl 2 rfl) ?_
          refine lv_bipush (v := 60) hx hb dMO_payment_283 (by decide) ?_
          refine lv_idiv hx hb dMO_payment_285 (by decide) ?_
          refine lv_iadd hx hb dMO_payment_286 ?_
          refine lv_dup2_11 hx hb dMO_payment_287 rfl rfl ?_
          refine V_lald (j := ((1020 + (4 * x7)) + ((FMO_itemAt S x1 x10) / 60)).toNatClampNeg) (v := (sL S 50 ((780 + (FMO_itemAt S x1 x10)).toNatClampNeg) ((S.2 50 ((780 + (FMO_itemAt S x1 x10)).toNatClampNeg)) - x8)).2 50 (((1020 + (4 * x7)) + ((FMO_itemAt S x1 x10) / 60)).toNatClampNeg)) B hw (by decide) rfl (vc_FMO_payment_ix288_45 S x1 x2 x4 x6 x7 x8 x10 hJ c26 c29 c40) rfl rfl dMO_payment_288 ?_
          refine lv_lconst (v := 1) hx hb dMO_payment_289 (by decide) ?_
          refine lv_iload hx hb dMO_payment_290 (lv_at hl 2 rfl) ?_
          refine lv_bipush (v := 60) hx hb dMO_payment_292 (by decide) ?_
          refine lv_irem hx hb dMO_payment_294 (by decide) ?_
          refine lv_lshl hx hb dMO_payment_295 rfl ?_
          refine lv_lor hx hb dMO_payment_296 ?_
          refine V_last (j := ((1020 + (4 * x7)) + ((FMO_itemAt S x1 x10) / 60)).toNatClampNeg) B hw (by decide) rfl (vc_FMO_payment_ix297_46 S x1 x2 x4 x6 x7 x8 x10 hJ c26 c29 c40) rfl dMO_payment_297 (fun H locs hw => ?_)
          refine lv_iinc (v := x10 + 1) (lv' := [(10, .int (x10 + 1)), (8, .long (x8 - x8)), (12, .long x8), (11, .int (FMO_itemAt S x1 x10)), (0, .ref (ad 49)), (1, .int x1), (2, .long x2), (4, .long x4), (6, .int x6), (7, .int x7)]) hx hb dMO_payment_298 hl (k := 9) rfl rfl (by decide) rfl (fun ls hl => ?_)
          refine lv_goto (tgt := 185) hx hb dMO_payment_301 (by decide) ?_
          exact ih (sL (sL S 50 ((780 + (FMO_itemAt S x1 x10)).toNatClampNeg) ((S.2 50 ((780 + (FMO_itemAt S x1 x10)).toNatClampNeg)) - x8)) 50 (((1020 + (4 * x7)) + ((FMO_itemAt S x1 x10) / 60)).toNatClampNeg) (((sL S 50 ((780 + (FMO_itemAt S x1 x10)).toNatClampNeg) ((S.2 50 ((780 + (FMO_itemAt S x1 x10)).toNatClampNeg)) - x8)).2 50 (((1020 + (4 * x7)) + ((FMO_itemAt S x1 x10) / 60)).toNatClampNeg)) ||| (1 <<< (((FMO_itemAt S x1 x10) - (FMO_itemAt S x1 x10) / 60 * 60).toInt64 &&& 63)))) x1 x2 x4 x6 x7 (x8 - x8) (x10 + 1) _ _ _ (vc_FMO_payment_inv185_47 S x1 x2 x4 x6 x7 x8 x10 hJ c26 c29 c40) (Nat.lt_of_lt_of_le (vc_FMO_payment_mu185_48 S x1 x2 x4 x6 x7 x8 x10 hJ c26 c29 c40) (Nat.le_of_lt_succ hmu)) hw (lv_sub hl [4, 5, 6, 7, 8, 9, 1, 0] rfl) (fun H locs ls y8 y10 S' h hw hl => hexit H locs ls y8 y10 S' (hF.trans h) hw hl)
theorem cw_FMO_payment {R : Room} {cells slots : Nat} (h1 : 4 ≤ R.frames) (h2 : 103 ≤ R.locals) (h3 : cells ≤ R.cells) (h4 : slots ≤ R.slots) : Cw R cells slots yMO_payment bMO_payment 14 (some .int) ({ frames := 3, cells := 0, slots := 0, locals := 70 } : Room) 3 := ⟨wm_443, wm_426, by decide +kernel, ⟨rfl, rfl, h1, h2⟩, h3, h4⟩
set_option maxHeartbeats 4000000 in
set_option maxRecDepth 100000 in
theorem M_FMO_payment (l : Launch) {ad : Nat → Nat} {cI cL : ClassId} {dC : Nat → ClassId} {dI : Nat → Nat → Nat} (hi : adI ad) (S : hS) (x1 : Int32) (x2 : Int64) (x4 : Int64) (hp : wfM S) : Mt l ad cI cL dC dI yMO_payment bMO_payment 14 (some .int) ({ frames := 3, cells := 0, slots := 0, locals := 70 } : Room) [.ref (ad 49), .int x1, .long x2, .long x4] S (pI (FMO_payment S x1 x2 x4).1 (FMO_payment S x1 x2 x4).2) := by
  refine Mt_of (own := RMO) hi (by decide) rfl (Nat.le_of_ble_eq_true rfl) ?_
  intro p e s m args below meth c ls B hr hlk hw hl
  obtain ⟨hx, hb, -, hown, hts, -, -⟩ := id B
  have hA : ∀ q, AA ad s.heap.size q → AA ad s.heap.size q := fun _ h => h
  have hl : lv_has ls 14 [(0, .ref (ad 49)), (1, .int x1), (2, .long x2), (4, .long x4)] := hl
  have hF := FMO_payment_e S x1 x2 x4
  refine lv_aload_n hx hb dMO_payment_0 rfl (lv_at hl 0 rfl) ?_
  refine lv_iconst (v := 0) hx hb dMO_payment_1 (by decide) ?_
  refine V_putI (ty := .int) B hw (by decide) rfl rfl hin_MO tyMO_ok nmMO 4 (by decide) rfl wm_242 rfl (by decide +kernel) rfl rfl dMO_payment_2 (fun H locs hw => ?_)
  refine lv_iconst (v := 0) hx hb dMO_payment_5 (by decide) ?_
  refine lv_istore (lv' := [(6, .int 0), (0, .ref (ad 49)), (1, .int x1), (2, .long x2), (4, .long x4)]) hx hb dMO_payment_6 hl (by decide) rfl (fun ls hl => ?_)
  refine LPMO_payment_8 l hi B hr hlk hA 300 (sI S 49 4 0) x1 x2 x4 0 _ _ _ (vc_FMO_payment_inv08_8 S x1 x2 x4 hp) (vc_FMO_payment_mu08_9 S x1 x2 x4 hp) hw (lv_sub hl [1, 2, 3, 4, 0] rfl) (fun H locs ls y7_6 hq7 hw hl => ?_)
  rw [hq7] at hF; try dsimp only at hF
  refine lv_lload_n hx hb dMO_payment_38 rfl (lv_at hl 2 rfl) ?_
  refine lv_lconst (v := 1) hx hb dMO_payment_39 (by decide) ?_
  refine lv_ldc2 (v := 100000000) hx hb hown (hts _ wm_258) dMO_payment_40 ?_
  refine V_callS (rest := []) B hi hw hA hl.1 (M_FMO_isIn l hi (sI S 49 4 0) x2 1 100000000) (cw_FMO_isIn (Nat.le_of_ble_eq_true rfl) (Nat.le_of_ble_eq_true rfl) (Nat.zero_le _) (Nat.zero_le _)) wm_239 wm_240 rfl (Nat.le_of_ble_eq_true rfl) dMO_payment_43 (kI (fun H locs hw => ?_))
  refine lv_if_eq (tgt := 88) hx hb dMO_payment_46 (by decide) (fun c10 => ?_) (fun c10 => ?_)
  · have hF := hF.trans (if_pos c10)
    refine lv_iconst (v := (-1)) hx hb dMO_payment_88 (by decide) ?_
    exact V_iret B hr hlk hw (pI_of hF) dMO_payment_89
  · have hF := hF.trans (if_neg c10)
    refine lv_lload hx hb dMO_payment_49 (lv_at hl 3 rfl) ?_
    refine V_callS (rest := []) B hi hw hA hl.1 (M_FMO_isDay l hi (sI S 49 4 0) x4) (cw_FMO_isDay (Nat.le_of_ble_eq_true rfl) (Nat.le_of_ble_eq_true rfl) (Nat.zero_le _) (Nat.zero_le _)) wm_245 wm_246 rfl (Nat.le_of_ble_eq_true rfl) dMO_payment_51 (kI (fun H locs hw => ?_))
    refine lv_if_eq (tgt := 88) hx hb dMO_payment_54 (by decide) (fun c11 => ?_) (fun c11 => ?_)
    · have hF := hF.trans (if_pos c11)
      refine lv_iconst (v := (-1)) hx hb dMO_payment_88 (by decide) ?_
      exact V_iret B hr hlk hw (pI_of hF) dMO_payment_89
    · have hF := hF.trans (if_neg c11)
      refine lv_aload_n hx hb dMO_payment_57 rfl (lv_at hl 0 rfl) ?_
      refine lv_lload hx hb dMO_payment_58 (lv_at hl 3 rfl) ?_
      refine V_callV (rest := []) B hi hw hA hl.1 (M_FMO_isLate l hi (sI S 49 4 0) x4 (vc_FMO_payment_pre60_12 S x1 x2 x4 hp y7_6 hq7 c10 c11)) (cw_FMO_isLate (Nat.le_of_ble_eq_true rfl) (Nat.le_of_ble_eq_true rfl) (Nat.zero_le _) (Nat.zero_le _)) (by decide) rfl rfl wm_247 wm_248 wm_249 rfl (Nat.le_of_ble_eq_true rfl) dMO_payment_60 (kI (fun H locs hw => ?_))
      refine lv_if_ne (tgt := 88) hx hb dMO_payment_63 (by decide) (fun c13 => ?_) (fun c13 => ?_)
      · have hF := hF.trans (if_neg c13)
        refine lv_iconst (v := (-1)) hx hb dMO_payment_88 (by decide) ?_
        exact V_iret B hr hlk hw (pI_of hF) dMO_payment_89
      · have hF := hF.trans (if_pos c13)
        refine lv_aload_n hx hb dMO_payment_66 rfl (lv_at hl 0 rfl) ?_
        refine lv_iload hx hb dMO_payment_67 (lv_at hl 4 rfl) ?_
        refine V_callV (rest := []) B hi hw hA hl.1 (M_FMO_isAccount l hi (sI S 49 4 0) y7_6 (vc_FMO_payment_pre69_14 S x1 x2 x4 hp y7_6 hq7 c10 c11 c13)) (cw_FMO_isAccount (Nat.le_of_ble_eq_true rfl) (Nat.le_of_ble_eq_true rfl) (Nat.zero_le _) (Nat.zero_le _)) (by decide) rfl rfl wm_235 wm_236 wm_237 rfl (Nat.le_of_ble_eq_true rfl) dMO_payment_69 (kI (fun H locs hw => ?_))
        refine lv_if_eq (tgt := 88) hx hb dMO_payment_72 (by decide) (fun c15 => ?_) (fun c15 => ?_)
        · have hF := hF.trans (if_pos c15)
          refine lv_iconst (v := (-1)) hx hb dMO_payment_88 (by decide) ?_
          exact V_iret B hr hlk hw (pI_of hF) dMO_payment_89
        · have hF := hF.trans (if_neg c15)
          refine lv_aload_n hx hb dMO_payment_75 rfl (lv_at hl 0 rfl) ?_
          refine V_get B hw (v := .ref (ad 50)) (by decide) rfl rfl hin_MO 0 (by decide) rfl wm_234 rfl dMO_payment_76 ?_
          refine lv_iconst (v := 1) hx hb dMO_payment_79 (by decide) ?_
          refine V_lald (j := 1) (v := S.2 50 1) B hw (by decide) rfl (vc_FMO_payment_ix80_16 S x1 x2 x4 hp y7_6 hq7 c10 c11 c13 c15) rfl (by first | rfl | simp [sI_1, sI_2, sL_1, sL_2]) dMO_payment_80 ?_
          refine lv_ldc2 (v := 40) hx hb hown (hts _ wm_244) dMO_payment_81 ?_
          refine V_lne (tgt := 90) B dMO_payment_84 dMO_payment_85 (by decide) (fun c17 => ?_) (fun c17 => ?_)
          · have hF := hF.trans (if_neg c17)
            refine lv_aload_n hx hb dMO_payment_90 rfl (lv_at hl 0 rfl) ?_
            refine lv_iload_n hx hb dMO_payment_91 rfl (lv_at hl 1 rfl) ?_
            refine V_callV (rest := []) B hi hw hA hl.1 (M_FMO_isHousehold l hi (sI S 49 4 0) x1 (vc_FMO_payment_pre92_18 S x1 x2 x4 hp y7_6 hq7 c10 c11 c13 c15 c17)) (cw_FMO_isHousehold (Nat.le_of_ble_eq_true rfl) (Nat.le_of_ble_eq_true rfl) (Nat.zero_le _) (Nat.zero_le _)) (by decide) rfl rfl wm_271 wm_272 wm_273 rfl (Nat.le_of_ble_eq_true rfl) dMO_payment_92 (kI (fun H locs hw => ?_))
            refine lv_if_ne (tgt := 140) hx hb dMO_payment_95 (by decide) (fun c19 => ?_) (fun c19 => ?_)
            · have hF := hF.trans (if_neg c19)
              refine lv_aload_n hx hb dMO_payment_140 rfl (lv_at hl 0 rfl) ?_
              refine lv_lload hx hb dMO_payment_141 (lv_at hl 3 rfl) ?_
              refine lv_iconst (v := 1) hx hb dMO_payment_143 (by decide) ?_
              rcases hq21 : FMO_addEntry (sI S 49 4 0) x4 1 with ⟨v21, S21⟩
              rw [hq21] at hF; try dsimp only at hF
              refine V_callV (post := pI v21 S21) (rest := []) B hi hw hA hl.1 (by have h := M_FMO_addEntry (cI := cI) (cL := cL) (dC := dC) (dI := dI) l hi (sI S 49 4 0) x4 1 (vc_FMO_payment_pre144_20 S x1 x2 x4 hp y7_6 hq7 c10 c11 c13 c15 c17 c19); rw [hq21] at h; exact h) (cw_FMO_addEntry (Nat.le_of_ble_eq_true rfl) (Nat.le_of_ble_eq_true rfl) (Nat.zero_le _) (Nat.zero_le _)) (by decide) rfl rfl wm_250 wm_251 wm_252 rfl (Nat.le_of_ble_eq_true rfl) dMO_payment_144 (kI (fun H locs hw => ?_))
              refine lv_istore (lv' := [(7, .int v21), (0, .ref (ad 49)), (1, .int x1), (2, .long x2), (4, .long x4), (6, .int y7_6)]) hx hb dMO_payment_147 hl (by decide) rfl (fun ls hl => ?_)
              refine lv_aload_n hx hb dMO_payment_149 rfl (lv_at hl 1 rfl) ?_
              refine lv_iload hx hb dMO_payment_150 (lv_at hl 0 rfl) ?_
              refine lv_iload hx hb dMO_payment_152 (lv_at hl 5 rfl) ?_
              refine lv_lload_n hx hb dMO_payment_154 rfl (lv_at hl 3 rfl) ?_
              refine V_callV (rest := []) B hi hw hA hl.1 (M_FMO_addRow l hi S21 v21 y7_6 x2 (vc_FMO_payment_pre155_22 S x1 x2 x4 hp y7_6 hq7 c10 c11 c13 c15 c17 c19 v21 S21 hq21)) (cw_FMO_addRow (Nat.le_of_ble_eq_true rfl) (Nat.le_of_ble_eq_true rfl) (Nat.zero_le _) (Nat.zero_le _)) (by decide) rfl rfl wm_259 wm_260 wm_261 rfl (Nat.le_of_ble_eq_true rfl) dMO_payment_155 (kV (fun H locs hw => ?_))
              refine lv_aload_n hx hb dMO_payment_158 rfl (lv_at hl 1 rfl) ?_
              refine lv_iload hx hb dMO_payment_159 (lv_at hl 0 rfl) ?_
              refine lv_iload_n hx hb dMO_payment_161 rfl (lv_at hl 2 rfl) ?_
              refine lv_lload_n hx hb dMO_payment_162 rfl (lv_at hl 3 rfl) ?_
              refine lv_lneg hx hb dMO_payment_163 ?_
              refine V_callV (rest := []) B hi hw hA hl.1 (M_FMO_addRow l hi (FMO_addRow S21 v21 y7_6 x2) v21 x1 (-x2) (vc_FMO_payment_pre164_23 S x1 x2 x4 hp y7_6 hq7 c10 c11 c13 c15 c17 c19 v21 S21 hq21)) (cw_FMO_addRow (Nat.le_of_ble_eq_true rfl) (Nat.le_of_ble_eq_true rfl) (Nat.zero_le _) (Nat.zero_le _)) (by decide) rfl rfl wm_259 wm_260 wm_261 rfl (Nat.le_of_ble_eq_true rfl) dMO_payment_164 (kV (fun H locs hw => ?_))
              refine lv_aload_n hx hb dMO_payment_167 rfl (lv_at hl 1 rfl) ?_
              refine V_get B hw (v := .ref (ad 50)) (by decide) rfl rfl hin_MO 0 (by decide) rfl wm_234 rfl dMO_payment_168 ?_
              refine lv_sipush (v := 140) hx hb dMO_payment_171 (by decide) ?_
              refine lv_iload hx hb dMO_payment_174 (lv_at hl 0 rfl) ?_
              refine lv_iadd hx hb dMO_payment_176 ?_
              refine lv_lconst (v := 1) hx hb dMO_payment_177 (by decide) ?_
              refine V_last (j := (140 + v21).toNatClampNeg) B hw (by decide) rfl (vc_FMO_payment_ix178_24 S x1 x2 x4 hp y7_6 hq7 c10 c11 c13 c15 c17 c19 v21 S21 hq21) rfl dMO_payment_178 (fun H locs hw => ?_)
              refine lv_lload_n hx hb dMO_payment_179 rfl (lv_at hl 3 rfl) ?_
              refine lv_lstore (lv' := [(8, .long x2), (7, .int v21), (0, .ref (ad 49)), (1, .int x1), (2, .long x2), (4, .long x4), (6, .int y7_6)]) hx hb dMO_payment_180 hl (by decide) rfl (fun ls hl => ?_)
              refine lv_iconst (v := 0) hx hb dMO_payment_182 (by decide) ?_
              refine lv_istore (lv' := [(10, .int 0), (8, .long x2), (7, .int v21), (0, .ref (ad 49)), (1, .int x1), (2, .long x2), (4, .long x4), (6, .int y7_6)]) hx hb dMO_payment_183 hl (by decide) rfl (fun ls hl => ?_)
              refine LPMO_payment_185 l hi B hr hlk hA 300 (sL (FMO_addRow (FMO_addRow S21 v21 y7_6 x2) v21 x1 (-x2)) 50 ((140 + v21).toNatClampNeg) 1) x1 x2 x4 y7_6 v21 x2 0 _ _ _ (vc_FMO_payment_inv0185_50 S x1 x2 x4 hp y7_6 hq7 c10 c11 c13 c15 c17 c19 v21 S21 hq21) (vc_FMO_payment_mu0185_51 S x1 x2 x4 hp y7_6 hq7 c10 c11 c13 c15 c17 c19 v21 S21 hq21) hw (lv_sub hl [3, 4, 5, 6, 7, 2, 1, 0] rfl) (fun H locs ls y49_8 y49_10 S49 hq49 hw hl => ?_)
              rw [hq49] at hF; try dsimp only at hF
              refine lv_iload hx hb dMO_payment_304 (lv_at hl 5 rfl) ?_
              exact V_iret B hr hlk hw (pI_of hF) dMO_payment_306
            · have hF := hF.trans (if_pos c19)
              refine lv_aload_n hx hb dMO_payment_98 rfl (lv_at hl 0 rfl) ?_
              refine V_get B hw (v := .ref (ad 50)) (by decide) rfl rfl hin_MO 0 (by decide) rfl wm_234 rfl dMO_payment_99 ?_
              refine lv_iconst (v := 4) hx hb dMO_payment_102 (by decide) ?_
              refine V_lald (j := 4) (v := S.2 50 4) B hw (by decide) rfl (vc_FMO_payment_ix103_52 S x1 x2 x4 hp y7_6 hq7 c10 c11 c13 c15 c17 c19) rfl (by first | rfl | simp [sI_1, sI_2, sL_1, sL_2]) dMO_payment_103 ?_
              refine lv_ldc2 (v := 20) hx hb hown (hts _ wm_277) dMO_payment_104 ?_
              refine V_lge (tgt := 138) B dMO_payment_107 dMO_payment_108 (by decide) (fun c53 => ?_) (fun c53 => ?_)
              · have hF := hF.trans (if_pos c53)
                refine lv_iconst (v := (-1)) hx hb dMO_payment_138 (by decide) ?_
                exact V_iret B hr hlk hw (pI_of hF) dMO_payment_139
              · have hF := hF.trans (if_neg c53)
                refine lv_aload_n hx hb dMO_payment_111 rfl (lv_at hl 0 rfl) ?_
                refine V_get B hw (v := .ref (ad 50)) (by decide) rfl rfl hin_MO 0 (by decide) rfl wm_234 rfl dMO_payment_112 ?_
                refine lv_sipush (v := 1200) hx hb dMO_payment_115 (by decide) ?_
                refine lv_aload_n hx hb dMO_payment_118 rfl (lv_at hl 0 rfl) ?_
                refine V_get B hw (v := .ref (ad 50)) (by decide) rfl rfl hin_MO 0 (by decide) rfl wm_234 rfl dMO_payment_119 ?_
                refine lv_iconst (v := 4) hx hb dMO_payment_122 (by decide) ?_
                refine V_lald (j := 4) (v := S.2 50 4) B hw (by decide) rfl (vc_FMO_payment_ix123_54 S x1 x2 x4 hp y7_6 hq7 c10 c11 c13 c15 c17 c19 c53) rfl (by first | rfl | simp [sI_1, sI_2, sL_1, sL_2]) dMO_payment_123 ?_
                refine lv_l2i hx hb dMO_payment_124 rfl ?_
                refine lv_iadd hx hb dMO_payment_125 ?_
                refine lv_lload_n hx hb dMO_payment_126 rfl (lv_at hl 2 rfl) ?_
                refine V_last (j := (1200 + ((S.2 50 4).toInt32)).toNatClampNeg) B hw (by decide) rfl (vc_FMO_payment_ix127_55 S x1 x2 x4 hp y7_6 hq7 c10 c11 c13 c15 c17 c19 c53) rfl dMO_payment_127 (fun H locs hw => ?_)
                refine lv_aload_n hx hb dMO_payment_128 rfl (lv_at hl 0 rfl) ?_
                refine V_get B hw (v := .ref (ad 50)) (by decide) rfl rfl hin_MO 0 (by decide) rfl wm_234 rfl dMO_payment_129 ?_
                refine lv_iconst (v := 4) hx hb dMO_payment_132 (by decide) ?_
                refine lv_dup2_11 hx hb dMO_payment_133 rfl rfl ?_
                refine V_lald (j := 4) (v := (sL (sI S 49 4 0) 50 ((1200 + ((S.2 50 4).toInt32)).toNatClampNeg) x2).2 50 4) B hw (by decide) rfl (vc_FMO_payment_ix134_56 S x1 x2 x4 hp y7_6 hq7 c10 c11 c13 c15 c17 c19 c53) rfl rfl dMO_payment_134 ?_
                refine lv_lconst (v := 1) hx hb dMO_payment_135 (by decide) ?_
                refine lv_ladd hx hb dMO_payment_136 ?_
                refine V_last (j := 4) B hw (by decide) rfl (vc_FMO_payment_ix137_57 S x1 x2 x4 hp y7_6 hq7 c10 c11 c13 c15 c17 c19 c53) rfl dMO_payment_137 (fun H locs hw => ?_)
                refine lv_iconst (v := (-1)) hx hb dMO_payment_138 (by decide) ?_
                exact V_iret B hr hlk hw (pI_of hF) dMO_payment_139
          · have hF := hF.trans (if_pos c17)
            refine lv_iconst (v := (-1)) hx hb dMO_payment_88 (by decide) ?_
            exact V_iret B hr hlk hw (pI_of hF) dMO_payment_89
theorem cw_FMO_item {R : Room} {cells slots : Nat} (h1 : 4 ≤ R.frames) (h2 : 93 ≤ R.locals) (h3 : cells ≤ R.cells) (h4 : slots ≤ R.slots) : Cw R cells slots yMO_item bMO_item 4 (some .long) ({ frames := 3, cells := 0, slots := 0, locals := 70 } : Room) 2 := ⟨wm_444, wm_426, by decide +kernel, ⟨rfl, rfl, h1, h2⟩, h3, h4⟩
set_option maxHeartbeats 4000000 in
set_option maxRecDepth 100000 in
theorem M_FMO_item (l : Launch) {ad : Nat → Nat} {cI cL : ClassId} {dC : Nat → ClassId} {dI : Nat → Nat → Nat} (hi : adI ad) (S : hS) (x1 : Int32) (x2 : Int32) (hp : wfM S) : Mt l ad cI cL dC dI yMO_item bMO_item 4 (some .long) ({ frames := 3, cells := 0, slots := 0, locals := 70 } : Room) [.ref (ad 49), .int x1, .int x2] S (pL (FMO_item S x1 x2).1 (FMO_item S x1 x2).2) := by
  refine Mt_of (own := RMO) hi (by decide) rfl (Nat.le_of_ble_eq_true rfl) ?_
  intro p e s m args below meth c ls B hr hlk hw hl
  obtain ⟨hx, hb, -, hown, hts, -, -⟩ := id B
  have hA : ∀ q, AA ad s.heap.size q → AA ad s.heap.size q := fun _ h => h
  have hl : lv_has ls 4 [(0, .ref (ad 49)), (1, .int x1), (2, .int x2)] := hl
  have hF := FMO_item_e S x1 x2
  refine lv_aload_n hx hb dMO_item_0 rfl (lv_at hl 0 rfl) ?_
  refine lv_iconst (v := 0) hx hb dMO_item_1 (by decide) ?_
  refine V_putI (ty := .int) B hw (by decide) rfl rfl hin_MO tyMO_ok nmMO 4 (by decide) rfl wm_242 rfl (by decide +kernel) rfl rfl dMO_item_2 (fun H locs hw => ?_)
  refine lv_aload_n hx hb dMO_item_5 rfl (lv_at hl 0 rfl) ?_
  refine lv_iload_n hx hb dMO_item_6 rfl (lv_at hl 1 rfl) ?_
  refine V_callV (rest := []) B hi hw hA hl.1 (M_FMO_isHousehold l hi (sI S 49 4 0) x1 (vc_FMO_item_pre7_1 S x1 x2 hp)) (cw_FMO_isHousehold (Nat.le_of_ble_eq_true rfl) (Nat.le_of_ble_eq_true rfl) (Nat.zero_le _) (Nat.zero_le _)) (by decide) rfl rfl wm_271 wm_272 wm_273 rfl (Nat.le_of_ble_eq_true rfl) dMO_item_7 (kI (fun H locs hw => ?_))
  refine lv_if_eq (tgt := 26) hx hb dMO_item_10 (by decide) (fun c2 => ?_) (fun c2 => ?_)
  · have hF := hF.trans (if_pos c2)
    refine lv_iconst (v := (-1)) hx hb dMO_item_26 (by decide) ?_
    refine lv_istore_n (lv' := [(3, .int (-1)), (0, .ref (ad 49)), (1, .int x1), (2, .int x2)]) hx hb dMO_item_27 rfl hl (by decide) rfl (fun ls hl => ?_)
    refine lv_iload_n hx hb dMO_item_28 rfl (lv_at hl 0 rfl) ?_
    refine lv_if_ge (tgt := 38) hx hb dMO_item_29 (by decide) (fun c => absurd c (by decide)) (fun c => ?_)
    refine lv_ldc2 (v := (-1)) hx hb hown (hts _ wm_278) dMO_item_32 ?_
    refine lv_goto (tgt := 48) hx hb dMO_item_35 (by decide) ?_
    exact V_lret B hr hlk hw (pL_of hF) dMO_item_48
  · have hF := hF.trans (if_neg c2)
    refine lv_iload_n hx hb dMO_item_13 rfl (lv_at hl 2 rfl) ?_
    refine lv_if_lt (tgt := 26) hx hb dMO_item_14 (by decide) (fun c3 => ?_) (fun c3 => ?_)
    · have hF := hF.trans (if_pos c3)
      refine lv_iconst (v := (-1)) hx hb dMO_item_26 (by decide) ?_
      refine lv_istore_n (lv' := [(3, .int (-1)), (0, .ref (ad 49)), (1, .int x1), (2, .int x2)]) hx hb dMO_item_27 rfl hl (by decide) rfl (fun ls hl => ?_)
      refine lv_iload_n hx hb dMO_item_28 rfl (lv_at hl 0 rfl) ?_
      refine lv_if_ge (tgt := 38) hx hb dMO_item_29 (by decide) (fun c => absurd c (by decide)) (fun c => ?_)
      refine lv_ldc2 (v := (-1)) hx hb hown (hts _ wm_278) dMO_item_32 ?_
      refine lv_goto (tgt := 48) hx hb dMO_item_35 (by decide) ?_
      exact V_lret B hr hlk hw (pL_of hF) dMO_item_48
    · have hF := hF.trans (if_neg c3)
      refine lv_aload_n hx hb dMO_item_17 rfl (lv_at hl 0 rfl) ?_
      refine lv_iload_n hx hb dMO_item_18 rfl (lv_at hl 1 rfl) ?_
      refine lv_iload_n hx hb dMO_item_19 rfl (lv_at hl 2 rfl) ?_
      refine V_callV (rest := []) B hi hw hA hl.1 (M_FMO_itemAt l hi (sI S 49 4 0) x1 x2 (vc_FMO_item_pre20_4 S x1 x2 hp c2 c3)) (cw_FMO_itemAt (Nat.le_of_ble_eq_true rfl) (Nat.le_of_ble_eq_true rfl) (Nat.zero_le _) (Nat.zero_le _)) (by decide) rfl rfl wm_274 wm_275 wm_276 rfl (Nat.le_of_ble_eq_true rfl) dMO_item_20 (kI (fun H locs hw => ?_))
      refine lv_goto (tgt := 27) hx hb dMO_item_23 (by decide) ?_
      refine lv_istore_n (lv' := [(3, .int (FMO_itemAt (sI S 49 4 0) x1 x2)), (0, .ref (ad 49)), (1, .int x1), (2, .int x2)]) hx hb dMO_item_27 rfl hl (by decide) rfl (fun ls hl => ?_)
      refine lv_iload_n hx hb dMO_item_28 rfl (lv_at hl 0 rfl) ?_
      refine lv_if_ge (tgt := 38) hx hb dMO_item_29 (by decide) (fun c5 => ?_) (fun c5 => ?_)
      · have hF := hF.trans (if_pos c5)
        refine lv_aload_n hx hb dMO_item_38 rfl (lv_at hl 1 rfl) ?_
        refine V_get B hw (v := .ref (ad 50)) (by decide) rfl rfl hin_MO 0 (by decide) rfl wm_234 rfl dMO_item_39 ?_
        refine lv_sipush (v := 780) hx hb dMO_item_42 (by decide) ?_
        refine lv_iload_n hx hb dMO_item_45 rfl (lv_at hl 0 rfl) ?_
        refine lv_iadd hx hb dMO_item_46 ?_
        refine V_lald (j := (780 + (FMO_itemAt (sI S 49 4 0) x1 x2)).toNatClampNeg) (v := S.2 50 ((780 + (FMO_itemAt (sI S 49 4 0) x1 x2)).toNatClampNeg)) B hw (by decide) rfl (vc_FMO_item_ix47_6 S x1 x2 hp c2 c3 c5) rfl (by first | rfl | simp [sI_1, sI_2, sL_1, sL_2]) dMO_item_47 ?_
        exact V_lret B hr hlk hw (pL_of hF) dMO_item_48
      · have hF := hF.trans (if_neg c5)
        refine lv_ldc2 (v := (-1)) hx hb hown (hts _ wm_278) dMO_item_32 ?_
        refine lv_goto (tgt := 48) hx hb dMO_item_35 (by decide) ?_
        exact V_lret B hr hlk hw (pL_of hF) dMO_item_48
theorem cw_FMO_gave {R : Room} {cells slots : Nat} (h1 : 1 ≤ R.frames) (h2 : 22 ≤ R.locals) (h3 : cells ≤ R.cells) (h4 : slots ≤ R.slots) : Cw R cells slots yMO_gave bMO_gave 3 (some .boolean) ({ frames := 0, cells := 0, slots := 0, locals := 0 } : Room) 2 := ⟨wm_445, wm_426, by decide +kernel, ⟨rfl, rfl, h1, h2⟩, h3, h4⟩
set_option maxHeartbeats 4000000 in
set_option maxRecDepth 100000 in
theorem M_FMO_gave (l : Launch) {ad : Nat → Nat} {cI cL : ClassId} {dC : Nat → ClassId} {dI : Nat → Nat → Nat} (hi : adI ad) (S : hS) (x1 : Int32) (x2 : Int32) (hp : wfM S ∧ rg x1 40 ∧ rg x2 240) : Mt l ad cI cL dC dI yMO_gave bMO_gave 3 (some .boolean) ({ frames := 0, cells := 0, slots := 0, locals := 0 } : Room) [.ref (ad 49), .int x1, .int x2] S (pI (FMO_gave S x1 x2) S) := by
  refine Mt_of (own := RMO) hi (by decide) rfl (Nat.le_of_ble_eq_true rfl) ?_
  intro p e s m args below meth c ls B hr hlk hw hl
  obtain ⟨hx, hb, -, hown, hts, -, -⟩ := id B
  have hA : ∀ q, AA ad s.heap.size q → AA ad s.heap.size q := fun _ h => h
  have hl : lv_has ls 3 [(0, .ref (ad 49)), (1, .int x1), (2, .int x2)] := hl
  have hF := FMO_gave_e S x1 x2
  refine lv_aload_n hx hb dMO_gave_0 rfl (lv_at hl 0 rfl) ?_
  refine V_get B hw (v := .ref (ad 50)) (by decide) rfl rfl hin_MO 0 (by decide) rfl wm_234 rfl dMO_gave_1 ?_
  refine lv_sipush (v := 1020) hx hb dMO_gave_4 (by decide) ?_
  refine lv_iconst (v := 4) hx hb dMO_gave_7 (by decide) ?_
  refine lv_iload_n hx hb dMO_gave_8 rfl (lv_at hl 1 rfl) ?_
  refine lv_imul hx hb dMO_gave_9 ?_
  refine lv_iadd hx hb dMO_gave_10 ?_
  refine lv_iload_n hx hb dMO_gave_11 rfl (lv_at hl 2 rfl) ?_
  refine lv_bipush (v := 60) hx hb dMO_gave_12 (by decide) ?_
  refine lv_idiv hx hb dMO_gave_14 (by decide) ?_
  refine lv_iadd hx hb dMO_gave_15 ?_
  refine V_lald (j := ((1020 + (4 * x1)) + (x2 / 60)).toNatClampNeg) (v := S.2 50 (((1020 + (4 * x1)) + (x2 / 60)).toNatClampNeg)) B hw (by decide) rfl (vc_FMO_gave_ix16_1 S x1 x2 hp) rfl rfl dMO_gave_16 ?_
  refine lv_iload_n hx hb dMO_gave_17 rfl (lv_at hl 2 rfl) ?_
  refine lv_bipush (v := 60) hx hb dMO_gave_18 (by decide) ?_
  refine lv_irem hx hb dMO_gave_20 (by decide) ?_
  refine lv_lshr hx hb dMO_gave_21 rfl ?_
  refine lv_lconst (v := 1) hx hb dMO_gave_22 (by decide) ?_
  refine lv_land hx hb dMO_gave_23 ?_
  refine lv_lconst (v := 1) hx hb dMO_gave_24 (by decide) ?_
  refine V_lne (tgt := 33) B dMO_gave_25 dMO_gave_26 (by decide) (fun c2 => ?_) (fun c2 => ?_)
  · have hF := hF.trans (if_neg c2)
    refine lv_iconst (v := 0) hx hb dMO_gave_33 (by decide) ?_
    exact V_zret B hr hlk hw (by decide) (pI_r hF) dMO_gave_34
  · have hF := hF.trans (if_pos c2)
    refine lv_iconst (v := 1) hx hb dMO_gave_29 (by decide) ?_
    refine lv_goto (tgt := 34) hx hb dMO_gave_30 (by decide) ?_
    exact V_zret B hr hlk hw (by decide) (pI_r hF) dMO_gave_34
set_option maxHeartbeats 4000000 in
set_option maxRecDepth 100000 in
theorem LPMO_opened_37 (l : Launch) {ad : Nat → Nat} {cI cL : ClassId} {dC : Nat → ClassId} {dI : Nat → Nat → Nat} (hi : adI ad) {p : Program} {e : Env} {s : State} {m : MethodId} {args : Array Value} {below : List Frame} {meth : Method} {c : Code} {A : Nat → Prop} {post : Option Value → hS → Prop} (B : Bs p s m args c RMO bMO_opened 6 cI cL dC dI) (hr : meth.sig.returnType = (some .int)) (hlk : meth.locks = false) (hA : ∀ q, AA ad s.heap.size q → A q) : ∀ (n : Nat) (S : hS) (x1 : Int32) (x2 : Int32) (x3 : Int32) (x4 : Int32) (x5 : Int32) (H : Heap) (locs : List Loc) (ls : Array Slot), wfM S ∧ bt x5 240 ∧ rg x1 40 ∧ rg x3 240 → ((240 - x5.toInt).toNat) < n → Wd ad cI cL dC dI A s.heap S H locs → lv_has ls 6 [(0, .ref (ad 49)), (1, .int x1), (2, .int x2), (3, .int x3), (4, .int x4), (5, .int x5)] → (∀ (H : Heap) (locs : List Loc) (ls : Array Slot) (y4 : Int32) (y5 : Int32), LMO_opened_37 n S x1 x2 x3 x4 x5 = (y4, y5) → Wd ad cI cL dC dI A s.heap S H locs → lv_has ls 6 [(0, .ref (ad 49)), (1, .int x1), (2, .int x2), (3, .int x3), (4, .int y4), (5, .int y5)] → W p l e ({ frames := 1, cells := 0, slots := 0, locals := 26 } : Room) s m args below meth c H locs 0 0 (MQ below (QcW ad cI cL dC dI post A) args s 0 0 A) (F0 m 81 ls [])) → W p l e ({ frames := 1, cells := 0, slots := 0, locals := 26 } : Room) s m args below meth c H locs 0 0 (MQ below (QcW ad cI cL dC dI post A) args s 0 0 A) (F0 m 37 ls []) := by
  intro n
  obtain ⟨hx, hb, -, hown, hts, -, -⟩ := id B
  induction n with
  | zero => exact fun S x1 x2 x3 x4 x5 H locs ls _ hmu => absurd hmu (Nat.not_lt_zero _)
  | succ n ih =>
    intro S x1 x2 x3 x4 x5 H locs ls hJ hmu hw hl hexit
    have hF := LMO_opened_37_s n S x1 x2 x3 x4 x5
    refine lv_iload hx hb dMO_opened_37 (lv_at hl 5 rfl) ?_
    refine lv_sipush (v := 240) hx hb dMO_opened_39 (by decide) ?_
    refine lv_icmp_ge (tgt := 81) hx hb dMO_opened_42 (by decide) (fun c8 => ?_) (fun c8 => ?_)
    · have hF := hF.trans (if_pos c8)
      exact hexit _ _ _ x4 x5 hF hw (lv_sub hl [0, 1, 2, 3, 4, 5] rfl)
    · have hF := hF.trans (if_neg c8)
      refine lv_iload hx hb dMO_opened_45 (lv_at hl 4 rfl) ?_
      refine lv_aload_n hx hb dMO_opened_47 rfl (lv_at hl 0 rfl) ?_
      refine lv_iload_n hx hb dMO_opened_48 rfl (lv_at hl 1 rfl) ?_
      refine lv_iload hx hb dMO_opened_49 (lv_at hl 5 rfl) ?_
      refine V_callV (rest := [.int x4]) B hi hw hA hl.1 (M_FMO_gave l hi S x1 x5 (vc_FMO_opened_pre51_9 S x1 x2 x3 x4 x5 hJ c8)) (cw_FMO_gave (Nat.le_of_ble_eq_true rfl) (Nat.le_of_ble_eq_true rfl) (Nat.zero_le _) (Nat.zero_le _)) (by decide) rfl rfl wm_279 wm_280 wm_281 rfl (Nat.le_of_ble_eq_true rfl) dMO_opened_51 (kI (fun H locs hw => ?_))
      refine lv_if_eq (tgt := 71) hx hb dMO_opened_54 (by decide) (fun c10 => ?_) (fun c10 => ?_)
      · have hF := hF.trans (if_pos c10)
        refine lv_iconst (v := 0) hx hb dMO_opened_71 (by decide) ?_
        refine lv_iadd hx hb dMO_opened_72 ?_
        refine lv_istore (lv' := [(4, .int (x4 + 0)), (0, .ref (ad 49)), (1, .int x1), (2, .int x2), (3, .int x3), (5, .int x5)]) hx hb dMO_opened_73 hl (by decide) rfl (fun ls hl => ?_)
        refine lv_iinc (v := x5 + 1) (lv' := [(5, .int (x5 + 1)), (4, .int (x4 + 0)), (0, .ref (ad 49)), (1, .int x1), (2, .int x2), (3, .int x3)]) hx hb dMO_opened_75 hl (k := 5) rfl rfl (by decide) rfl (fun ls hl => ?_)
        refine lv_goto (tgt := 37) hx hb dMO_opened_78 (by decide) ?_
        exact ih S x1 x2 x3 (x4 + 0) (x5 + 1) _ _ _ (vc_FMO_opened_inv37_11 S x1 x2 x3 x4 x5 hJ c8 c10) (Nat.lt_of_lt_of_le (vc_FMO_opened_mu37_12 S x1 x2 x3 x4 x5 hJ c8 c10) (Nat.le_of_lt_succ hmu)) hw (lv_sub hl [2, 3, 4, 5, 1, 0] rfl) (fun H locs ls y4 y5 h hw hl => hexit H locs ls y4 y5 (hF.trans h) hw hl)
      · have hF := hF.trans (if_neg c10)
        refine lv_aload_n hx hb dMO_opened_57 rfl (lv_at hl 0 rfl) ?_
        refine lv_iload hx hb dMO_opened_58 (lv_at hl 5 rfl) ?_
        refine lv_iload_n hx hb dMO_opened_60 rfl (lv_at hl 3 rfl) ?_
        refine V_callV (rest := [.int x4]) B hi hw hA hl.1 (M_FMO_isBefore l hi S x5 x3 (vc_FMO_opened_pre61_13 S x1 x2 x3 x4 x5 hJ c8 c10)) (cw_FMO_isBefore (Nat.le_of_ble_eq_true rfl) (Nat.le_of_ble_eq_true rfl) (Nat.zero_le _) (Nat.zero_le _)) (by decide) rfl rfl wm_268 wm_269 wm_270 rfl (Nat.le_of_ble_eq_true rfl) dMO_opened_61 (kI (fun H locs hw => ?_))
        refine lv_if_eq (tgt := 71) hx hb dMO_opened_64 (by decide) (fun c14 => ?_) (fun c14 => ?_)
        · have hF := hF.trans (if_pos c14)
          refine lv_iconst (v := 0) hx hb dMO_opened_71 (by decide) ?_
          refine lv_iadd hx hb dMO_opened_72 ?_
          refine lv_istore (lv' := [(4, .int (x4 + 0)), (0, .ref (ad 49)), (1, .int x1), (2, .int x2), (3, .int x3), (5, .int x5)]) hx hb dMO_opened_73 hl (by decide) rfl (fun ls hl => ?_)
          refine lv_iinc (v := x5 + 1) (lv' := [(5, .int (x5 + 1)), (4, .int (x4 + 0)), (0, .ref (ad 49)), (1, .int x1), (2, .int x2), (3, .int x3)]) hx hb dMO_opened_75 hl (k := 5) rfl rfl (by decide) rfl (fun ls hl => ?_)
          refine lv_goto (tgt := 37) hx hb dMO_opened_78 (by decide) ?_
          exact ih S x1 x2 x3 (x4 + 0) (x5 + 1) _ _ _ (vc_FMO_opened_inv37_15 S x1 x2 x3 x4 x5 hJ c8 c10 c14) (Nat.lt_of_lt_of_le (vc_FMO_opened_mu37_16 S x1 x2 x3 x4 x5 hJ c8 c10 c14) (Nat.le_of_lt_succ hmu)) hw (lv_sub hl [2, 3, 4, 5, 1, 0] rfl) (fun H locs ls y4 y5 h hw hl => hexit H locs ls y4 y5 (hF.trans h) hw hl)
        · have hF := hF.trans (if_neg c14)
          refine lv_iconst (v := 1) hx hb dMO_opened_67 (by decide) ?_
          refine lv_goto (tgt := 72) hx hb dMO_opened_68 (by decide) ?_
          refine lv_iadd hx hb dMO_opened_72 ?_
          refine lv_istore (lv' := [(4, .int (x4 + 1)), (0, .ref (ad 49)), (1, .int x1), (2, .int x2), (3, .int x3), (5, .int x5)]) hx hb dMO_opened_73 hl (by decide) rfl (fun ls hl => ?_)
          refine lv_iinc (v := x5 + 1) (lv' := [(5, .int (x5 + 1)), (4, .int (x4 + 1)), (0, .ref (ad 49)), (1, .int x1), (2, .int x2), (3, .int x3)]) hx hb dMO_opened_75 hl (k := 5) rfl rfl (by decide) rfl (fun ls hl => ?_)
          refine lv_goto (tgt := 37) hx hb dMO_opened_78 (by decide) ?_
          exact ih S x1 x2 x3 (x4 + 1) (x5 + 1) _ _ _ (vc_FMO_opened_inv37_17 S x1 x2 x3 x4 x5 hJ c8 c10 c14) (Nat.lt_of_lt_of_le (vc_FMO_opened_mu37_18 S x1 x2 x3 x4 x5 hJ c8 c10 c14) (Nat.le_of_lt_succ hmu)) hw (lv_sub hl [2, 3, 4, 5, 1, 0] rfl) (fun H locs ls y4 y5 h hw hl => hexit H locs ls y4 y5 (hF.trans h) hw hl)
set_option maxHeartbeats 4000000 in
set_option maxRecDepth 100000 in
theorem LPMO_opened_7 (l : Launch) {ad : Nat → Nat} {cI cL : ClassId} {dC : Nat → ClassId} {dI : Nat → Nat → Nat} (hi : adI ad) {p : Program} {e : Env} {s : State} {m : MethodId} {args : Array Value} {below : List Frame} {meth : Method} {c : Code} {A : Nat → Prop} {post : Option Value → hS → Prop} (B : Bs p s m args c RMO bMO_opened 6 cI cL dC dI) (hr : meth.sig.returnType = (some .int)) (hlk : meth.locks = false) (hA : ∀ q, AA ad s.heap.size q → A q) : ∀ (n : Nat) (S : hS) (x1 : Int32) (x2 : Int32) (x3 : Int32) (H : Heap) (locs : List Loc) (ls : Array Slot), wfM S ∧ bt x3 240 → ((240 - x3.toInt).toNat) < n → Wd ad cI cL dC dI A s.heap S H locs → lv_has ls 6 [(0, .ref (ad 49)), (1, .int x1), (2, .int x2), (3, .int x3)] → (∀ (v : Int32), LMO_opened_7 n S x1 x2 x3 = .inl v → post (some (.int v)) S) → (∀ (H : Heap) (locs : List Loc) (ls : Array Slot) (y3 : Int32), LMO_opened_7 n S x1 x2 x3 = .inr y3 → Wd ad cI cL dC dI A s.heap S H locs → lv_has ls 6 [(0, .ref (ad 49)), (1, .int x1), (2, .int x2), (3, .int y3)] → W p l e ({ frames := 1, cells := 0, slots := 0, locals := 26 } : Room) s m args below meth c H locs 0 0 (MQ below (QcW ad cI cL dC dI post A) args s 0 0 A) (F0 m 106 ls [])) → W p l e ({ frames := 1, cells := 0, slots := 0, locals := 26 } : Room) s m args below meth c H locs 0 0 (MQ below (QcW ad cI cL dC dI post A) args s 0 0 A) (F0 m 7 ls []) := by
  intro n
  obtain ⟨hx, hb, -, hown, hts, -, -⟩ := id B
  induction n with
  | zero => exact fun S x1 x2 x3 H locs ls _ hmu => absurd hmu (Nat.not_lt_zero _)
  | succ n ih =>
    intro S x1 x2 x3 H locs ls hJ hmu hw hl hret hexit
    have hF := LMO_opened_7_s n S x1 x2 x3
    refine lv_iload_n hx hb dMO_opened_7 rfl (lv_at hl 3 rfl) ?_
    refine lv_sipush (v := 240) hx hb dMO_opened_8 (by decide) ?_
    refine lv_icmp_ge (tgt := 106) hx hb dMO_opened_11 (by decide) (fun c1 => ?_) (fun c1 => ?_)
    · have hF := hF.trans (if_pos c1)
      exact hexit _ _ _ x3 hF hw (lv_sub hl [0, 1, 2, 3] rfl)
    · have hF := hF.trans (if_neg c1)
      refine lv_aload_n hx hb dMO_opened_14 rfl (lv_at hl 0 rfl) ?_
      refine lv_iload_n hx hb dMO_opened_15 rfl (lv_at hl 1 rfl) ?_
      refine V_callV (rest := []) B hi hw hA hl.1 (M_FMO_isEntry l hi S x1 (vc_FMO_opened_pre16_2 S x1 x2 x3 hJ c1)) (cw_FMO_isEntry (Nat.le_of_ble_eq_true rfl) (Nat.le_of_ble_eq_true rfl) (Nat.zero_le _) (Nat.zero_le _)) (by decide) rfl rfl wm_253 wm_254 wm_255 rfl (Nat.le_of_ble_eq_true rfl) dMO_opened_16 (kI (fun H locs hw => ?_))
      refine lv_if_eq (tgt := 106) hx hb dMO_opened_19 (by decide) (fun c3 => ?_) (fun c3 => ?_)
      · have hF := hF.trans (if_pos c3)
        exact hexit _ _ _ x3 hF hw (lv_sub hl [0, 1, 2, 3] rfl)
      · have hF := hF.trans (if_neg c3)
        refine lv_aload_n hx hb dMO_opened_22 rfl (lv_at hl 0 rfl) ?_
        refine lv_iload_n hx hb dMO_opened_23 rfl (lv_at hl 1 rfl) ?_
        refine lv_iload_n hx hb dMO_opened_24 rfl (lv_at hl 3 rfl) ?_
        refine V_callV (rest := []) B hi hw hA hl.1 (M_FMO_gave l hi S x1 x3 (vc_FMO_opened_pre25_4 S x1 x2 x3 hJ c1 c3)) (cw_FMO_gave (Nat.le_of_ble_eq_true rfl) (Nat.le_of_ble_eq_true rfl) (Nat.zero_le _) (Nat.zero_le _)) (by decide) rfl rfl wm_279 wm_280 wm_281 rfl (Nat.le_of_ble_eq_true rfl) dMO_opened_25 (kI (fun H locs hw => ?_))
        refine lv_if_eq (tgt := 100) hx hb dMO_opened_28 (by decide) (fun c5 => ?_) (fun c5 => ?_)
        · have hF := hF.trans (if_pos c5)
          refine lv_iinc (v := x3 + 1) (lv' := [(3, .int (x3 + 1)), (0, .ref (ad 49)), (1, .int x1), (2, .int x2)]) hx hb dMO_opened_100 hl (k := 3) rfl rfl (by decide) rfl (fun ls hl => ?_)
          refine lv_goto (tgt := 7) hx hb dMO_opened_103 (by decide) ?_
          exact ih S x1 x2 (x3 + 1) _ _ _ (vc_FMO_opened_inv7_6 S x1 x2 x3 hJ c1 c3 c5) (Nat.lt_of_lt_of_le (vc_FMO_opened_mu7_7 S x1 x2 x3 hJ c1 c3 c5) (Nat.le_of_lt_succ hmu)) hw (lv_sub hl [1, 2, 3, 0] rfl) (fun v h => hret v (hF.trans h)) (fun H locs ls y3 h hw hl => hexit H locs ls y3 (hF.trans h) hw hl)
        · have hF := hF.trans (if_neg c5)
          refine lv_iconst (v := 0) hx hb dMO_opened_31 (by decide) ?_
          refine lv_istore (lv' := [(4, .int 0), (0, .ref (ad 49)), (1, .int x1), (2, .int x2), (3, .int x3)]) hx hb dMO_opened_32 hl (by decide) rfl (fun ls hl => ?_)
          refine lv_iconst (v := 0) hx hb dMO_opened_34 (by decide) ?_
          refine lv_istore (lv' := [(5, .int 0), (4, .int 0), (0, .ref (ad 49)), (1, .int x1), (2, .int x2), (3, .int x3)]) hx hb dMO_opened_35 hl (by decide) rfl (fun ls hl => ?_)
          refine LPMO_opened_37 l hi B hr hlk hA 300 S x1 x2 x3 0 0 _ _ _ (vc_FMO_opened_inv037_20 S x1 x2 x3 hJ c1 c3 c5) (vc_FMO_opened_mu037_21 S x1 x2 x3 hJ c1 c3 c5) hw (lv_sub hl [2, 3, 4, 5, 1, 0] rfl) (fun H locs ls y19_4 y19_5 hq19 hw hl => ?_)
          rw [hq19] at hF; try dsimp only at hF
          refine lv_iload hx hb dMO_opened_81 (lv_at hl 4 rfl) ?_
          refine lv_iload_n hx hb dMO_opened_83 rfl (lv_at hl 2 rfl) ?_
          refine lv_icmp_ne (tgt := 100) hx hb dMO_opened_84 (by decide) (fun c22 => ?_) (fun c22 => ?_)
          · have hF := hF.trans (if_neg c22)
            refine lv_iinc (v := x3 + 1) (lv' := [(3, .int (x3 + 1)), (0, .ref (ad 49)), (1, .int x1), (2, .int x2), (4, .int y19_4), (5, .int y19_5)]) hx hb dMO_opened_100 hl (k := 3) rfl rfl (by decide) rfl (fun ls hl => ?_)
            refine lv_goto (tgt := 7) hx hb dMO_opened_103 (by decide) ?_
            exact ih S x1 x2 (x3 + 1) _ _ _ (vc_FMO_opened_inv7_23 S x1 x2 x3 hJ c1 c3 c5 y19_4 y19_5 hq19 c22) (Nat.lt_of_lt_of_le (vc_FMO_opened_mu7_24 S x1 x2 x3 hJ c1 c3 c5 y19_4 y19_5 hq19 c22) (Nat.le_of_lt_succ hmu)) hw (lv_sub hl [1, 2, 3, 0] rfl) (fun v h => hret v (hF.trans h)) (fun H locs ls y3 h hw hl => hexit H locs ls y3 (hF.trans h) hw hl)
          · have hF := hF.trans (if_pos c22)
            refine lv_bipush (v := 10) hx hb dMO_opened_87 (by decide) ?_
            refine lv_iload_n hx hb dMO_opened_89 rfl (lv_at hl 3 rfl) ?_
            refine lv_bipush (v := 6) hx hb dMO_opened_90 (by decide) ?_
            refine lv_idiv hx hb dMO_opened_92 (by decide) ?_
            refine lv_imul hx hb dMO_opened_93 ?_
            refine lv_iload_n hx hb dMO_opened_94 rfl (lv_at hl 3 rfl) ?_
            refine lv_bipush (v := 6) hx hb dMO_opened_95 (by decide) ?_
            refine lv_irem hx hb dMO_opened_97 (by decide) ?_
            refine lv_iadd hx hb dMO_opened_98 ?_
            exact V_iret B hr hlk hw (hret _ hF) dMO_opened_99
theorem cw_FMO_opened {R : Room} {cells slots : Nat} (h1 : 2 ≤ R.frames) (h2 : 51 ≤ R.locals) (h3 : cells ≤ R.cells) (h4 : slots ≤ R.slots) : Cw R cells slots yMO_opened bMO_opened 6 (some .int) ({ frames := 1, cells := 0, slots := 0, locals := 26 } : Room) 2 := ⟨wm_446, wm_426, by decide +kernel, ⟨rfl, rfl, h1, h2⟩, h3, h4⟩
set_option maxHeartbeats 4000000 in
set_option maxRecDepth 100000 in
theorem M_FMO_opened (l : Launch) {ad : Nat → Nat} {cI cL : ClassId} {dC : Nat → ClassId} {dI : Nat → Nat → Nat} (hi : adI ad) (S : hS) (x1 : Int32) (x2 : Int32) (hp : wfM S) : Mt l ad cI cL dC dI yMO_opened bMO_opened 6 (some .int) ({ frames := 1, cells := 0, slots := 0, locals := 26 } : Room) [.ref (ad 49), .int x1, .int x2] S (pI (FMO_opened S x1 x2).1 (FMO_opened S x1 x2).2) := by
  refine Mt_of (own := RMO) hi (by decide) rfl (Nat.le_of_ble_eq_true rfl) ?_
  intro p e s m args below meth c ls B hr hlk hw hl
  obtain ⟨hx, hb, -, hown, hts, -, -⟩ := id B
  have hA : ∀ q, AA ad s.heap.size q → AA ad s.heap.size q := fun _ h => h
  have hl : lv_has ls 6 [(0, .ref (ad 49)), (1, .int x1), (2, .int x2)] := hl
  have hF := FMO_opened_e S x1 x2
  refine lv_aload_n hx hb dMO_opened_0 rfl (lv_at hl 0 rfl) ?_
  refine lv_iconst (v := 0) hx hb dMO_opened_1 (by decide) ?_
  refine V_putI (ty := .int) B hw (by decide) rfl rfl hin_MO tyMO_ok nmMO 4 (by decide) rfl wm_242 rfl (by decide +kernel) rfl rfl dMO_opened_2 (fun H locs hw => ?_)
  refine lv_iconst (v := 0) hx hb dMO_opened_5 (by decide) ?_
  refine lv_istore_n (lv' := [(3, .int 0), (0, .ref (ad 49)), (1, .int x1), (2, .int x2)]) hx hb dMO_opened_6 rfl hl (by decide) rfl (fun ls hl => ?_)
  refine LPMO_opened_7 l hi B hr hlk hA 300 (sI S 49 4 0) x1 x2 0 _ _ _ (vc_FMO_opened_inv07_26 S x1 x2 hp) (vc_FMO_opened_mu07_27 S x1 x2 hp) hw (lv_sub hl [1, 2, 3, 0] rfl) (fun v hq => by rw [hq, Sum.elim_inl] at hF; exact pI_of hF) (fun H locs ls y25_3 hq25 hw hl => ?_)
  rw [hq25, Sum.elim_inr] at hF; try dsimp only at hF
  refine lv_iconst (v := (-1)) hx hb dMO_opened_106 (by decide) ?_
  exact V_iret B hr hlk hw (pI_of hF) dMO_opened_107
set_option maxHeartbeats 4000000 in
set_option maxRecDepth 100000 in
theorem LPMO_hasOld_6 (l : Launch) {ad : Nat → Nat} {cI cL : ClassId} {dC : Nat → ClassId} {dI : Nat → Nat → Nat} (hi : adI ad) {p : Program} {e : Env} {s : State} {m : MethodId} {args : Array Value} {below : List Frame} {meth : Method} {c : Code} {A : Nat → Prop} {post : Option Value → hS → Prop} (B : Bs p s m args c RMO bMO_hasOld 6 cI cL dC dI) (hr : meth.sig.returnType = (some .boolean)) (hlk : meth.locks = false) (hA : ∀ q, AA ad s.heap.size q → A q) : ∀ (n : Nat) (S : hS) (x1 : Int32) (x2 : Int64) (x4 : Int32) (x5 : Int32) (H : Heap) (locs : List Loc) (ls : Array Slot), wfM S ∧ bt x5 240 → ((240 - x5.toInt).toNat) < n → Wd ad cI cL dC dI A s.heap S H locs → lv_has ls 6 [(0, .ref (ad 49)), (1, .int x1), (2, .long x2), (4, .int x4), (5, .int x5)] → (∀ (H : Heap) (locs : List Loc) (ls : Array Slot) (y4 : Int32) (y5 : Int32), LMO_hasOld_6 n S x1 x2 x4 x5 = (y4, y5) → Wd ad cI cL dC dI A s.heap S H locs → lv_has ls 6 [(0, .ref (ad 49)), (1, .int x1), (2, .long x2), (4, .int y4), (5, .int y5)] → W p l e ({ frames := 2, cells := 0, slots := 0, locals := 45 } : Room) s m args below meth c H locs 0 0 (MQ below (QcW ad cI cL dC dI post A) args s 0 0 A) (F0 m 80 ls [])) → W p l e ({ frames := 2, cells := 0, slots := 0, locals := 45 } : Room) s m args below meth c H locs 0 0 (MQ below (QcW ad cI cL dC dI post A) args s 0 0 A) (F0 m 6 ls []) := by
  intro n
  obtain ⟨hx, hb, -, hown, hts, -, -⟩ := id B
  induction n with
  | zero => exact fun S x1 x2 x4 x5 H locs ls _ hmu => absurd hmu (Nat.not_lt_zero _)
  | succ n ih =>
    intro S x1 x2 x4 x5 H locs ls hJ hmu hw hl hexit
    have hF := LMO_hasOld_6_s n S x1 x2 x4 x5
    refine lv_iload hx hb dMO_hasOld_6 (lv_at hl 4 rfl) ?_
    refine lv_sipush (v := 240) hx hb dMO_hasOld_8 (by decide) ?_
    refine lv_icmp_ge (tgt := 80) hx hb dMO_hasOld_11 (by decide) (fun c1 => ?_) (fun c1 => ?_)
    · have hF := hF.trans (if_pos c1)
      exact hexit _ _ _ x4 x5 hF hw (lv_sub hl [0, 1, 2, 3, 4] rfl)
    · have hF := hF.trans (if_neg c1)
      refine lv_iload hx hb dMO_hasOld_14 (lv_at hl 3 rfl) ?_
      refine lv_if_ne (tgt := 67) hx hb dMO_hasOld_16 (by decide) (fun c2 => ?_) (fun c2 => ?_)
      · have hF := hF.trans (if_neg c2)
        refine lv_iconst (v := 1) hx hb dMO_hasOld_67 (by decide) ?_
        refine lv_goto (tgt := 72) hx hb dMO_hasOld_68 (by decide) ?_
        refine lv_istore (lv' := [(4, .int 1), (0, .ref (ad 49)), (1, .int x1), (2, .long x2), (5, .int x5)]) hx hb dMO_hasOld_72 hl (by decide) rfl (fun ls hl => ?_)
        refine lv_iinc (v := x5 + 1) (lv' := [(5, .int (x5 + 1)), (4, .int 1), (0, .ref (ad 49)), (1, .int x1), (2, .long x2)]) hx hb dMO_hasOld_74 hl (k := 4) rfl rfl (by decide) rfl (fun ls hl => ?_)
        refine lv_goto (tgt := 6) hx hb dMO_hasOld_77 (by decide) ?_
        exact ih S x1 x2 1 (x5 + 1) _ _ _ (vc_FMO_hasOld_inv6_3 S x1 x2 x4 x5 hJ c1 c2) (Nat.lt_of_lt_of_le (vc_FMO_hasOld_mu6_4 S x1 x2 x4 x5 hJ c1 c2) (Nat.le_of_lt_succ hmu)) hw (lv_sub hl [2, 3, 4, 1, 0] rfl) (fun H locs ls y4 y5 h hw hl => hexit H locs ls y4 y5 (hF.trans h) hw hl)
      · have hF := hF.trans (if_pos c2)
        refine lv_aload_n hx hb dMO_hasOld_19 rfl (lv_at hl 0 rfl) ?_
        refine lv_iload hx hb dMO_hasOld_20 (lv_at hl 4 rfl) ?_
        refine lv_iload_n hx hb dMO_hasOld_22 rfl (lv_at hl 1 rfl) ?_
        refine V_callV (rest := []) B hi hw hA hl.1 (M_FMO_isItemOf l hi S x5 x1 (vc_FMO_hasOld_pre23_5 S x1 x2 x4 x5 hJ c1 c2)) (cw_FMO_isItemOf (Nat.le_of_ble_eq_true rfl) (Nat.le_of_ble_eq_true rfl) (Nat.zero_le _) (Nat.zero_le _)) (by decide) rfl rfl wm_265 wm_266 wm_267 rfl (Nat.le_of_ble_eq_true rfl) dMO_hasOld_23 (kI (fun H locs hw => ?_))
        refine lv_if_eq (tgt := 71) hx hb dMO_hasOld_26 (by decide) (fun c6 => ?_) (fun c6 => ?_)
        · have hF := hF.trans (if_pos c6)
          refine lv_iconst (v := 0) hx hb dMO_hasOld_71 (by decide) ?_
          refine lv_istore (lv' := [(4, .int 0), (0, .ref (ad 49)), (1, .int x1), (2, .long x2), (5, .int x5)]) hx hb dMO_hasOld_72 hl (by decide) rfl (fun ls hl => ?_)
          refine lv_iinc (v := x5 + 1) (lv' := [(5, .int (x5 + 1)), (4, .int 0), (0, .ref (ad 49)), (1, .int x1), (2, .long x2)]) hx hb dMO_hasOld_74 hl (k := 4) rfl rfl (by decide) rfl (fun ls hl => ?_)
          refine lv_goto (tgt := 6) hx hb dMO_hasOld_77 (by decide) ?_
          exact ih S x1 x2 0 (x5 + 1) _ _ _ (vc_FMO_hasOld_inv6_7 S x1 x2 x4 x5 hJ c1 c2 c6) (Nat.lt_of_lt_of_le (vc_FMO_hasOld_mu6_8 S x1 x2 x4 x5 hJ c1 c2 c6) (Nat.le_of_lt_succ hmu)) hw (lv_sub hl [2, 3, 4, 1, 0] rfl) (fun H locs ls y4 y5 h hw hl => hexit H locs ls y4 y5 (hF.trans h) hw hl)
        · have hF := hF.trans (if_neg c6)
          refine lv_aload_n hx hb dMO_hasOld_29 rfl (lv_at hl 0 rfl) ?_
          refine V_get B hw (v := .ref (ad 50)) (by decide) rfl rfl hin_MO 0 (by decide) rfl wm_234 rfl dMO_hasOld_30 ?_
          refine lv_bipush (v := 100) hx hb dMO_hasOld_33 (by decide) ?_
          refine lv_iload hx hb dMO_hasOld_35 (lv_at hl 4 rfl) ?_
          refine lv_bipush (v := 6) hx hb dMO_hasOld_37 (by decide) ?_
          refine lv_idiv hx hb dMO_hasOld_39 (by decide) ?_
          refine lv_iadd hx hb dMO_hasOld_40 ?_
          refine V_lald (j := (100 + (x5 / 6)).toNatClampNeg) (v := S.2 50 ((100 + (x5 / 6)).toNatClampNeg)) B hw (by decide) rfl (vc_FMO_hasOld_ix41_9 S x1 x2 x4 x5 hJ c1 c2 c6) rfl rfl dMO_hasOld_41 ?_
          refine lv_ldc2 (v := 31) hx hb hown (hts _ wm_282) dMO_hasOld_42 ?_
          refine lv_ladd hx hb dMO_hasOld_45 ?_
          refine lv_lload_n hx hb dMO_hasOld_46 rfl (lv_at hl 2 rfl) ?_
          refine V_lgt (tgt := 71) B dMO_hasOld_47 dMO_hasOld_48 (by decide) (fun c10 => ?_) (fun c10 => ?_)
          · have hF := hF.trans (if_pos c10)
            refine lv_iconst (v := 0) hx hb dMO_hasOld_71 (by decide) ?_
            refine lv_istore (lv' := [(4, .int 0), (0, .ref (ad 49)), (1, .int x1), (2, .long x2), (5, .int x5)]) hx hb dMO_hasOld_72 hl (by decide) rfl (fun ls hl => ?_)
            refine lv_iinc (v := x5 + 1) (lv' := [(5, .int (x5 + 1)), (4, .int 0), (0, .ref (ad 49)), (1, .int x1), (2, .long x2)]) hx hb dMO_hasOld_74 hl (k := 4) rfl rfl (by decide) rfl (fun ls hl => ?_)
            refine lv_goto (tgt := 6) hx hb dMO_hasOld_77 (by decide) ?_
            exact ih S x1 x2 0 (x5 + 1) _ _ _ (vc_FMO_hasOld_inv6_11 S x1 x2 x4 x5 hJ c1 c2 c6 c10) (Nat.lt_of_lt_of_le (vc_FMO_hasOld_mu6_12 S x1 x2 x4 x5 hJ c1 c2 c6 c10) (Nat.le_of_lt_succ hmu)) hw (lv_sub hl [2, 3, 4, 1, 0] rfl) (fun H locs ls y4 y5 h hw hl => hexit H locs ls y4 y5 (hF.trans h) hw hl)
          · have hF := hF.trans (if_neg c10)
            refine lv_aload_n hx hb dMO_hasOld_51 rfl (lv_at hl 0 rfl) ?_
            refine V_get B hw (v := .ref (ad 50)) (by decide) rfl rfl hin_MO 0 (by decide) rfl wm_234 rfl dMO_hasOld_52 ?_
            refine lv_sipush (v := 780) hx hb dMO_hasOld_55 (by decide) ?_
            refine lv_iload hx hb dMO_hasOld_58 (lv_at hl 4 rfl) ?_
            refine lv_iadd hx hb dMO_hasOld_60 ?_
            refine V_lald (j := (780 + x5).toNatClampNeg) (v := S.2 50 ((780 + x5).toNatClampNeg)) B hw (by decide) rfl (vc_FMO_hasOld_ix61_13 S x1 x2 x4 x5 hJ c1 c2 c6 c10) rfl rfl dMO_hasOld_61 ?_
            refine lv_lconst (v := 0) hx hb dMO_hasOld_62 (by decide) ?_
            refine V_lle (tgt := 71) B dMO_hasOld_63 dMO_hasOld_64 (by decide) (fun c14 => ?_) (fun c14 => ?_)
            · have hF := hF.trans (if_pos c14)
              refine lv_iconst (v := 0) hx hb dMO_hasOld_71 (by decide) ?_
              refine lv_istore (lv' := [(4, .int 0), (0, .ref (ad 49)), (1, .int x1), (2, .long x2), (5, .int x5)]) hx hb dMO_hasOld_72 hl (by decide) rfl (fun ls hl => ?_)
              refine lv_iinc (v := x5 + 1) (lv' := [(5, .int (x5 + 1)), (4, .int 0), (0, .ref (ad 49)), (1, .int x1), (2, .long x2)]) hx hb dMO_hasOld_74 hl (k := 4) rfl rfl (by decide) rfl (fun ls hl => ?_)
              refine lv_goto (tgt := 6) hx hb dMO_hasOld_77 (by decide) ?_
              exact ih S x1 x2 0 (x5 + 1) _ _ _ (vc_FMO_hasOld_inv6_15 S x1 x2 x4 x5 hJ c1 c2 c6 c10 c14) (Nat.lt_of_lt_of_le (vc_FMO_hasOld_mu6_16 S x1 x2 x4 x5 hJ c1 c2 c6 c10 c14) (Nat.le_of_lt_succ hmu)) hw (lv_sub hl [2, 3, 4, 1, 0] rfl) (fun H locs ls y4 y5 h hw hl => hexit H locs ls y4 y5 (hF.trans h) hw hl)
            · have hF := hF.trans (if_neg c14)
              refine lv_iconst (v := 1) hx hb dMO_hasOld_67 (by decide) ?_
              refine lv_goto (tgt := 72) hx hb dMO_hasOld_68 (by decide) ?_
              refine lv_istore (lv' := [(4, .int 1), (0, .ref (ad 49)), (1, .int x1), (2, .long x2), (5, .int x5)]) hx hb dMO_hasOld_72 hl (by decide) rfl (fun ls hl => ?_)
              refine lv_iinc (v := x5 + 1) (lv' := [(5, .int (x5 + 1)), (4, .int 1), (0, .ref (ad 49)), (1, .int x1), (2, .long x2)]) hx hb dMO_hasOld_74 hl (k := 4) rfl rfl (by decide) rfl (fun ls hl => ?_)
              refine lv_goto (tgt := 6) hx hb dMO_hasOld_77 (by decide) ?_
              exact ih S x1 x2 1 (x5 + 1) _ _ _ (vc_FMO_hasOld_inv6_17 S x1 x2 x4 x5 hJ c1 c2 c6 c10 c14) (Nat.lt_of_lt_of_le (vc_FMO_hasOld_mu6_18 S x1 x2 x4 x5 hJ c1 c2 c6 c10 c14) (Nat.le_of_lt_succ hmu)) hw (lv_sub hl [2, 3, 4, 1, 0] rfl) (fun H locs ls y4 y5 h hw hl => hexit H locs ls y4 y5 (hF.trans h) hw hl)
theorem cw_FMO_hasOld {R : Room} {cells slots : Nat} (h1 : 3 ≤ R.frames) (h2 : 70 ≤ R.locals) (h3 : cells ≤ R.cells) (h4 : slots ≤ R.slots) : Cw R cells slots yMO_hasOld bMO_hasOld 6 (some .boolean) ({ frames := 2, cells := 0, slots := 0, locals := 45 } : Room) 2 := ⟨wm_447, wm_426, by decide +kernel, ⟨rfl, rfl, h1, h2⟩, h3, h4⟩
set_option maxHeartbeats 4000000 in
set_option maxRecDepth 100000 in
theorem M_FMO_hasOld (l : Launch) {ad : Nat → Nat} {cI cL : ClassId} {dC : Nat → ClassId} {dI : Nat → Nat → Nat} (hi : adI ad) (S : hS) (x1 : Int32) (x2 : Int64) (hp : wfM S) : Mt l ad cI cL dC dI yMO_hasOld bMO_hasOld 6 (some .boolean) ({ frames := 2, cells := 0, slots := 0, locals := 45 } : Room) [.ref (ad 49), .int x1, .long x2] S (pI (FMO_hasOld S x1 x2) S) := by
  refine Mt_of (own := RMO) hi (by decide) rfl (Nat.le_of_ble_eq_true rfl) ?_
  intro p e s m args below meth c ls B hr hlk hw hl
  obtain ⟨hx, hb, -, hown, hts, -, -⟩ := id B
  have hA : ∀ q, AA ad s.heap.size q → AA ad s.heap.size q := fun _ h => h
  have hl : lv_has ls 6 [(0, .ref (ad 49)), (1, .int x1), (2, .long x2)] := hl
  have hF := FMO_hasOld_e S x1 x2
  refine lv_iconst (v := 0) hx hb dMO_hasOld_0 (by decide) ?_
  refine lv_istore (lv' := [(4, .int 0), (0, .ref (ad 49)), (1, .int x1), (2, .long x2)]) hx hb dMO_hasOld_1 hl (by decide) rfl (fun ls hl => ?_)
  refine lv_iconst (v := 0) hx hb dMO_hasOld_3 (by decide) ?_
  refine lv_istore (lv' := [(5, .int 0), (4, .int 0), (0, .ref (ad 49)), (1, .int x1), (2, .long x2)]) hx hb dMO_hasOld_4 hl (by decide) rfl (fun ls hl => ?_)
  refine LPMO_hasOld_6 l hi B hr hlk hA 300 S x1 x2 0 0 _ _ _ (vc_FMO_hasOld_inv06_20 S x1 x2 hp) (vc_FMO_hasOld_mu06_21 S x1 x2 hp) hw (lv_sub hl [2, 3, 4, 1, 0] rfl) (fun H locs ls y19_4 y19_5 hq19 hw hl => ?_)
  rw [hq19] at hF; try dsimp only at hF
  refine lv_iload hx hb dMO_hasOld_80 (lv_at hl 3 rfl) ?_
  exact V_zret B hr hlk hw (vc_FMO_hasOld_bz82_22 S x1 x2 hp y19_4 y19_5 hq19) (pI_r hF) dMO_hasOld_82
