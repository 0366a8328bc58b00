theorem cw_FMO_hasMoved {R : Room} {cells slots : Nat} (h1 : 1 ≤ R.frames) (h2 : 21 ≤ R.locals) (h3 : cells ≤ R.cells) (h4 : slots ≤ R.slots) : Cw R cells slots yMO_hasMoved bMO_hasMoved 2 (some .boolean) ({ frames := 0, cells := 0, slots := 0, locals := 0 } : Room) 1 := ⟨wm_453, wm_426, by decide +kernel, ⟨rfl, rfl, h1, h2⟩, h3, h4⟩
set_option maxHeartbeats 4000000 in
set_option maxRecDepth 100000 in
theorem M_FMO_hasMoved (l : Launch) {ad : Nat → Nat} {cI cL : ClassId} {dC : Nat → ClassId} {dI : Nat → Nat → Nat} (hi : adI ad) (S : hS) (x1 : Int32) (hp : wfM S ∧ rg x1 8) : Mt l ad cI cL dC dI yMO_hasMoved bMO_hasMoved 2 (some .boolean) ({ frames := 0, cells := 0, slots := 0, locals := 0 } : Room) [.ref (ad 49), .int x1] S (pI (FMO_hasMoved S x1) S) := by
  refine Mt_of (own := RMO) hi (by decide) rfl (Nat.le_of_ble_eq_true rfl) ?_
  intro p e s m args below meth c ls B hr hlk hw hl
  obtain ⟨hx, hb, -, hown, hts, -, -⟩ := id B
  have hA : ∀ q, AA ad s.heap.size q → AA ad s.heap.size q := fun _ h => h
  have hl : lv_has ls 2 [(0, .ref (ad 49)), (1, .int x1)] := hl
  have hF := FMO_hasMoved_e S x1
  refine lv_aload_n hx hb dMO_hasMoved_0 rfl (lv_at hl 0 rfl) ?_
  refine V_get B hw (v := .ref (ad 50)) (by decide) rfl rfl hin_MO 0 (by decide) rfl wm_234 rfl dMO_hasMoved_1 ?_
  refine lv_bipush (v := 70) hx hb dMO_hasMoved_4 (by decide) ?_
  refine lv_iload_n hx hb dMO_hasMoved_6 rfl (lv_at hl 1 rfl) ?_
  refine lv_iadd hx hb dMO_hasMoved_7 ?_
  refine V_lald (j := (70 + x1).toNatClampNeg) (v := S.2 50 ((70 + x1).toNatClampNeg)) B hw (by decide) rfl (vc_FMO_hasMoved_ix8_1 S x1 hp) rfl rfl dMO_hasMoved_8 ?_
  refine lv_lconst (v := 0) hx hb dMO_hasMoved_9 (by decide) ?_
  refine V_lgt (tgt := 28) B dMO_hasMoved_10 dMO_hasMoved_11 (by decide) (fun c2 => ?_) (fun c2 => ?_)
  · have hF := hF.trans (if_pos c2)
    refine lv_iconst (v := 1) hx hb dMO_hasMoved_28 (by decide) ?_
    refine lv_goto (tgt := 33) hx hb dMO_hasMoved_29 (by decide) ?_
    exact V_zret B hr hlk hw (by decide) (pI_r hF) dMO_hasMoved_33
  · have hF := hF.trans (if_neg c2)
    refine lv_aload_n hx hb dMO_hasMoved_14 rfl (lv_at hl 0 rfl) ?_
    refine V_get B hw (v := .ref (ad 50)) (by decide) rfl rfl hin_MO 0 (by decide) rfl wm_234 rfl dMO_hasMoved_15 ?_
    refine lv_bipush (v := 80) hx hb dMO_hasMoved_18 (by decide) ?_
    refine lv_iload_n hx hb dMO_hasMoved_20 rfl (lv_at hl 1 rfl) ?_
    refine lv_iadd hx hb dMO_hasMoved_21 ?_
    refine V_lald (j := (80 + x1).toNatClampNeg) (v := S.2 50 ((80 + x1).toNatClampNeg)) B hw (by decide) rfl (vc_FMO_hasMoved_ix22_3 S x1 hp c2) rfl rfl dMO_hasMoved_22 ?_
    refine lv_lconst (v := 0) hx hb dMO_hasMoved_23 (by decide) ?_
    refine V_lle (tgt := 32) B dMO_hasMoved_24 dMO_hasMoved_25 (by decide) (fun c4 => ?_) (fun c4 => ?_)
    · have hF := hF.trans (if_pos c4)
      refine lv_iconst (v := 0) hx hb dMO_hasMoved_32 (by decide) ?_
      exact V_zret B hr hlk hw (by decide) (pI_r hF) dMO_hasMoved_33
    · have hF := hF.trans (if_neg c4)
      refine lv_iconst (v := 1) hx hb dMO_hasMoved_28 (by decide) ?_
      refine lv_goto (tgt := 33) hx hb dMO_hasMoved_29 (by decide) ?_
      exact V_zret B hr hlk hw (by decide) (pI_r hF) dMO_hasMoved_33
theorem cw_FMO_move {R : Room} {cells slots : Nat} (h1 : 3 ≤ R.frames) (h2 : 70 ≤ R.locals) (h3 : cells ≤ R.cells) (h4 : slots ≤ R.slots) : Cw R cells slots yMO_move bMO_move 5 (some .boolean) ({ frames := 2, cells := 0, slots := 0, locals := 46 } : Room) 3 := ⟨wm_454, wm_426, by decide +kernel, ⟨rfl, rfl, h1, h2⟩, h3, h4⟩
set_option maxHeartbeats 4000000 in
set_option maxRecDepth 100000 in
theorem M_FMO_move (l : Launch) {ad : Nat → Nat} {cI cL : ClassId} {dC : Nat → ClassId} {dI : Nat → Nat → Nat} (hi : adI ad) (S : hS) (x1 : Int32) (x2 : Int32) (x3 : Int64) (hp : wfM S) : Mt l ad cI cL dC dI yMO_move bMO_move 5 (some .boolean) ({ frames := 2, cells := 0, slots := 0, locals := 46 } : Room) [.ref (ad 49), .int x1, .int x2, .long x3] S (pI (FMO_move S x1 x2 x3).1 (FMO_move S x1 x2 x3).2) := by
  refine Mt_of (own := RMO) hi (by decide) rfl (Nat.le_of_ble_eq_true rfl) ?_
  intro p e s m args below meth c ls B hr hlk hw hl
  obtain ⟨hx, hb, -, hown, hts, -, -⟩ := id B
  have hA : ∀ q, AA ad s.heap.size q → AA ad s.heap.size q := fun _ h => h
  have hl : lv_has ls 5 [(0, .ref (ad 49)), (1, .int x1), (2, .int x2), (3, .long x3)] := hl
  have hF := FMO_move_e S x1 x2 x3
  refine lv_aload_n hx hb dMO_move_0 rfl (lv_at hl 0 rfl) ?_
  refine lv_iconst (v := 0) hx hb dMO_move_1 (by decide) ?_
  refine V_putI (ty := .int) B hw (by decide) rfl rfl hin_MO tyMO_ok nmMO 4 (by decide) rfl wm_242 rfl (by decide +kernel) rfl rfl dMO_move_2 (fun H locs hw => ?_)
  refine lv_aload_n hx hb dMO_move_5 rfl (lv_at hl 0 rfl) ?_
  refine lv_iload_n hx hb dMO_move_6 rfl (lv_at hl 1 rfl) ?_
  refine V_callV (rest := []) B hi hw hA hl.1 (M_FMO_isHousehold l hi (sI S 49 4 0) x1 (vc_FMO_move_pre7_1 S x1 x2 x3 hp)) (cw_FMO_isHousehold (Nat.le_of_ble_eq_true rfl) (Nat.le_of_ble_eq_true rfl) (Nat.zero_le _) (Nat.zero_le _)) (by decide) rfl rfl wm_271 wm_272 wm_273 rfl (Nat.le_of_ble_eq_true rfl) dMO_move_7 (kI (fun H locs hw => ?_))
  refine lv_if_eq (tgt := 49) hx hb dMO_move_10 (by decide) (fun c2 => ?_) (fun c2 => ?_)
  · have hF := hF.trans (if_pos c2)
    refine lv_iconst (v := 0) hx hb dMO_move_49 (by decide) ?_
    exact V_zret B hr hlk hw (by decide) (pI_of hF) dMO_move_50
  · have hF := hF.trans (if_neg c2)
    refine lv_aload_n hx hb dMO_move_13 rfl (lv_at hl 0 rfl) ?_
    refine lv_iload_n hx hb dMO_move_14 rfl (lv_at hl 2 rfl) ?_
    refine V_callV (rest := []) B hi hw hA hl.1 (M_FMO_isHousehold l hi (sI S 49 4 0) x2 (vc_FMO_move_pre15_3 S x1 x2 x3 hp c2)) (cw_FMO_isHousehold (Nat.le_of_ble_eq_true rfl) (Nat.le_of_ble_eq_true rfl) (Nat.zero_le _) (Nat.zero_le _)) (by decide) rfl rfl wm_271 wm_272 wm_273 rfl (Nat.le_of_ble_eq_true rfl) dMO_move_15 (kI (fun H locs hw => ?_))
    refine lv_if_eq (tgt := 49) hx hb dMO_move_18 (by decide) (fun c4 => ?_) (fun c4 => ?_)
    · have hF := hF.trans (if_pos c4)
      refine lv_iconst (v := 0) hx hb dMO_move_49 (by decide) ?_
      exact V_zret B hr hlk hw (by decide) (pI_of hF) dMO_move_50
    · have hF := hF.trans (if_neg c4)
      refine lv_iload_n hx hb dMO_move_21 rfl (lv_at hl 1 rfl) ?_
      refine lv_iload_n hx hb dMO_move_22 rfl (lv_at hl 2 rfl) ?_
      refine lv_icmp_eq (tgt := 49) hx hb dMO_move_23 (by decide) (fun c5 => ?_) (fun c5 => ?_)
      · have hF := hF.trans (if_pos c5)
        refine lv_iconst (v := 0) hx hb dMO_move_49 (by decide) ?_
        exact V_zret B hr hlk hw (by decide) (pI_of hF) dMO_move_50
      · have hF := hF.trans (if_neg c5)
        refine lv_lload_n hx hb dMO_move_26 rfl (lv_at hl 3 rfl) ?_
        refine V_callS (rest := []) B hi hw hA hl.1 (M_FMO_isDay l hi (sI S 49 4 0) x3) (cw_FMO_isDay (Nat.le_of_ble_eq_true rfl) (Nat.le_of_ble_eq_true rfl) (Nat.zero_le _) (Nat.zero_le _)) wm_245 wm_246 rfl (Nat.le_of_ble_eq_true rfl) dMO_move_27 (kI (fun H locs hw => ?_))
        refine lv_if_eq (tgt := 49) hx hb dMO_move_30 (by decide) (fun c6 => ?_) (fun c6 => ?_)
        · have hF := hF.trans (if_pos c6)
          refine lv_iconst (v := 0) hx hb dMO_move_49 (by decide) ?_
          exact V_zret B hr hlk hw (by decide) (pI_of hF) dMO_move_50
        · have hF := hF.trans (if_neg c6)
          refine lv_aload_n hx hb dMO_move_33 rfl (lv_at hl 0 rfl) ?_
          refine lv_iload_n hx hb dMO_move_34 rfl (lv_at hl 1 rfl) ?_
          refine V_callV (rest := []) B hi hw hA hl.1 (M_FMO_hasMoved l hi (sI S 49 4 0) x1 (vc_FMO_move_pre35_7 S x1 x2 x3 hp c2 c4 c5 c6)) (cw_FMO_hasMoved (Nat.le_of_ble_eq_true rfl) (Nat.le_of_ble_eq_true rfl) (Nat.zero_le _) (Nat.zero_le _)) (by decide) rfl rfl wm_292 wm_293 wm_294 rfl (Nat.le_of_ble_eq_true rfl) dMO_move_35 (kI (fun H locs hw => ?_))
          refine lv_if_ne (tgt := 49) hx hb dMO_move_38 (by decide) (fun c8 => ?_) (fun c8 => ?_)
          · have hF := hF.trans (if_neg c8)
            refine lv_iconst (v := 0) hx hb dMO_move_49 (by decide) ?_
            exact V_zret B hr hlk hw (by decide) (pI_of hF) dMO_move_50
          · have hF := hF.trans (if_pos c8)
            refine lv_aload_n hx hb dMO_move_41 rfl (lv_at hl 0 rfl) ?_
            refine lv_iload_n hx hb dMO_move_42 rfl (lv_at hl 2 rfl) ?_
            refine V_callV (rest := []) B hi hw hA hl.1 (M_FMO_hasMoved l hi (sI S 49 4 0) x2 (vc_FMO_move_pre43_9 S x1 x2 x3 hp c2 c4 c5 c6 c8)) (cw_FMO_hasMoved (Nat.le_of_ble_eq_true rfl) (Nat.le_of_ble_eq_true rfl) (Nat.zero_le _) (Nat.zero_le _)) (by decide) rfl rfl wm_292 wm_293 wm_294 rfl (Nat.le_of_ble_eq_true rfl) dMO_move_43 (kI (fun H locs hw => ?_))
            refine lv_if_eq (tgt := 51) hx hb dMO_move_46 (by decide) (fun c10 => ?_) (fun c10 => ?_)
            · have hF := hF.trans (if_pos c10)
              refine lv_aload_n hx hb dMO_move_51 rfl (lv_at hl 0 rfl) ?_
              refine V_get B hw (v := .ref (ad 50)) (by decide) rfl rfl hin_MO 0 (by decide) rfl wm_234 rfl dMO_move_52 ?_
              refine lv_bipush (v := 70) hx hb dMO_move_55 (by decide) ?_
              refine lv_iload_n hx hb dMO_move_57 rfl (lv_at hl 1 rfl) ?_
              refine lv_iadd hx hb dMO_move_58 ?_
              refine lv_lload_n hx hb dMO_move_59 rfl (lv_at hl 3 rfl) ?_
              refine lv_lconst (v := 1) hx hb dMO_move_60 (by decide) ?_
              refine lv_ladd hx hb dMO_move_61 ?_
              refine V_last (j := (70 + x1).toNatClampNeg) B hw (by decide) rfl (vc_FMO_move_ix62_11 S x1 x2 x3 hp c2 c4 c5 c6 c8 c10) rfl dMO_move_62 (fun H locs hw => ?_)
              refine lv_aload_n hx hb dMO_move_63 rfl (lv_at hl 0 rfl) ?_
              refine V_get B hw (v := .ref (ad 50)) (by decide) rfl rfl hin_MO 0 (by decide) rfl wm_234 rfl dMO_move_64 ?_
              refine lv_bipush (v := 80) hx hb dMO_move_67 (by decide) ?_
              refine lv_iload_n hx hb dMO_move_69 rfl (lv_at hl 2 rfl) ?_
              refine lv_iadd hx hb dMO_move_70 ?_
              refine lv_lload_n hx hb dMO_move_71 rfl (lv_at hl 3 rfl) ?_
              refine lv_lconst (v := 1) hx hb dMO_move_72 (by decide) ?_
              refine lv_ladd hx hb dMO_move_73 ?_
              refine V_last (j := (80 + x2).toNatClampNeg) B hw (by decide) rfl (vc_FMO_move_ix74_12 S x1 x2 x3 hp c2 c4 c5 c6 c8 c10) rfl dMO_move_74 (fun H locs hw => ?_)
              refine lv_iconst (v := 1) hx hb dMO_move_75 (by decide) ?_
              exact V_zret B hr hlk hw (by decide) (pI_of hF) dMO_move_76
            · have hF := hF.trans (if_neg c10)
              refine lv_iconst (v := 0) hx hb dMO_move_49 (by decide) ?_
              exact V_zret B hr hlk hw (by decide) (pI_of hF) dMO_move_50
set_option maxHeartbeats 4000000 in
set_option maxRecDepth 100000 in
theorem LPMO_common_6 (l : Launch) {ad : Nat → Nat} {cI cL : ClassId} {dC : Nat → ClassId} {dI : Nat → Nat → Nat} (hi : adI ad) {p : Program} {e : Env} {s : State} {m : MethodId} {args : Array Value} {below : List Frame} {meth : Method} {c : Code} {A : Nat → Prop} {post : Option Value → hS → Prop} (B : Bs p s m args c RMO bMO_common 10 cI cL dC dI) (hr : meth.sig.returnType = (some .long)) (hlk : meth.locks = false) (hA : ∀ q, AA ad s.heap.size q → A q) : ∀ (n : Nat) (S : hS) (x0 : Int64) (x2 : Int64) (x4 : Int64) (x6 : Int64) (H : Heap) (locs : List Loc) (ls : Array Slot), True → x4.toInt.natAbs < n → Wd ad cI cL dC dI A s.heap S H locs → lv_has ls 10 [(0, .long x0), (2, .long x2), (4, .long x4), (6, .long x6)] → (∀ (H : Heap) (locs : List Loc) (ls : Array Slot) (y4 : Int64) (y6 : Int64), LMO_common_6 n S x0 x2 x4 x6 = (y4, y6) → Wd ad cI cL dC dI A s.heap S H locs → lv_has ls 10 [(0, .long x0), (2, .long x2), (4, .long y4), (6, .long y6)] → W p l e ({ frames := 0, cells := 0, slots := 0, locals := 0 } : Room) s m args below meth c H locs 0 0 (MQ below (QcW ad cI cL dC dI post A) args s 0 0 A) (F0 m 31 ls [])) → W p l e ({ frames := 0, cells := 0, slots := 0, locals := 0 } : Room) s m args below meth c H locs 0 0 (MQ below (QcW ad cI cL dC dI post A) args s 0 0 A) (F0 m 6 ls []) := by
  intro n
  obtain ⟨hx, hb, -, hown, hts, -, -⟩ := id B
  induction n with
  | zero => exact fun S x0 x2 x4 x6 H locs ls _ hmu => absurd hmu (Nat.not_lt_zero _)
  | succ n ih =>
    intro S x0 x2 x4 x6 H locs ls hJ hmu hw hl hexit
    have hF := LMO_common_6_s n S x0 x2 x4 x6
    refine lv_lload hx hb dMO_common_6 (lv_at hl 2 rfl) ?_
    refine lv_lconst (v := 0) hx hb dMO_common_8 (by decide) ?_
    refine V_leq (tgt := 31) B dMO_common_9 dMO_common_10 (by decide) (fun c1 => ?_) (fun c1 => ?_)
    · have hF := hF.trans (if_pos c1)
      exact hexit _ _ _ x4 x6 hF hw (lv_sub hl [0, 1, 2, 3] rfl)
    · have hF := hF.trans (if_neg c1)
      refine lv_lload hx hb dMO_common_13 (lv_at hl 3 rfl) ?_
      refine lv_lload hx hb dMO_common_15 (lv_at hl 2 rfl) ?_
      refine lv_lrem hx hb dMO_common_17 (vc_FMO_common_nz17_2 S x0 x2 x4 x6 c1) ?_
      refine lv_lstore (lv' := [(8, .long (x6 - x6 / x4 * x4)), (0, .long x0), (2, .long x2), (4, .long x4), (6, .long x6)]) hx hb dMO_common_18 hl (by decide) rfl (fun ls hl => ?_)
      refine lv_lload hx hb dMO_common_20 (lv_at hl 3 rfl) ?_
      refine lv_lstore (lv' := [(6, .long x4), (8, .long (x6 - x6 / x4 * x4)), (0, .long x0), (2, .long x2), (4, .long x4)]) hx hb dMO_common_22 hl (by decide) rfl (fun ls hl => ?_)
      refine lv_lload hx hb dMO_common_24 (lv_at hl 1 rfl) ?_
      refine lv_lstore (lv' := [(4, .long (x6 - x6 / x4 * x4)), (6, .long x4), (8, .long (x6 - x6 / x4 * x4)), (0, .long x0), (2, .long x2)]) hx hb dMO_common_26 hl (by decide) rfl (fun ls hl => ?_)
      refine lv_goto (tgt := 6) hx hb dMO_common_28 (by decide) ?_
      exact ih S x0 x2 (x6 - x6 / x4 * x4) x4 _ _ _ trivial (Nat.lt_of_lt_of_le (vc_FMO_common_mu6_3 S x0 x2 x4 x6 c1) (Nat.le_of_lt_succ hmu)) hw (lv_sub hl [3, 4, 0, 1] rfl) (fun H locs ls y4 y6 h hw hl => hexit H locs ls y4 y6 (hF.trans h) hw hl)
theorem cw_FMO_common {R : Room} {cells slots : Nat} (h1 : 1 ≤ R.frames) (h2 : 29 ≤ R.locals) (h3 : cells ≤ R.cells) (h4 : slots ≤ R.slots) : Cw R cells slots yMO_common bMO_common 10 (some .long) ({ frames := 0, cells := 0, slots := 0, locals := 0 } : Room) 2 := ⟨wm_455, wm_426, by decide +kernel, ⟨rfl, rfl, h1, h2⟩, h3, h4⟩
set_option maxHeartbeats 4000000 in
set_option maxRecDepth 100000 in
theorem M_FMO_common (l : Launch) {ad : Nat → Nat} {cI cL : ClassId} {dC : Nat → ClassId} {dI : Nat → Nat → Nat} (hi : adI ad) (S : hS) (x0 : Int64) (x2 : Int64) : Mt l ad cI cL dC dI yMO_common bMO_common 10 (some .long) ({ frames := 0, cells := 0, slots := 0, locals := 0 } : Room) [.long x0, .long x2] S (pL (FMO_common S x0 x2) S) := by
  refine Mt_of (own := RMO) hi (by decide) rfl (Nat.le_of_ble_eq_true rfl) ?_
  intro p e s m args below meth c ls B hr hlk hw hl
  obtain ⟨hx, hb, -, hown, hts, -, -⟩ := id B
  have hA : ∀ q, AA ad s.heap.size q → AA ad s.heap.size q := fun _ h => h
  have hl : lv_has ls 10 [(0, .long x0), (2, .long x2)] := hl
  have hF := FMO_common_e S x0 x2
  refine lv_lload_n hx hb dMO_common_0 rfl (lv_at hl 0 rfl) ?_
  refine lv_lstore (lv' := [(4, .long x0), (0, .long x0), (2, .long x2)]) hx hb dMO_common_1 hl (by decide) rfl (fun ls hl => ?_)
  refine lv_lload_n hx hb dMO_common_3 rfl (lv_at hl 2 rfl) ?_
  refine lv_lstore (lv' := [(6, .long x2), (4, .long x0), (0, .long x0), (2, .long x2)]) hx hb dMO_common_4 hl (by decide) rfl (fun ls hl => ?_)
  refine LPMO_common_6 l hi B hr hlk hA 9223372036854775809 S x0 x2 x0 x2 _ _ _ trivial (vc_FMO_common_mu06_5 S x0 x2) hw (lv_sub hl [2, 3, 1, 0] rfl) (fun H locs ls y4_4 y4_6 hq4 hw hl => ?_)
  rw [hq4] at hF; try dsimp only at hF
  refine lv_lload hx hb dMO_common_31 (lv_at hl 3 rfl) ?_
  exact V_lret B hr hlk hw (pL_r hF) dMO_common_33
theorem cw_FMO_part {R : Room} {cells slots : Nat} (h1 : 2 ≤ R.frames) (h2 : 55 ≤ R.locals) (h3 : cells ≤ R.cells) (h4 : slots ≤ R.slots) : Cw R cells slots yMO_part bMO_part 7 (some .long) ({ frames := 1, cells := 0, slots := 0, locals := 29 } : Room) 3 := ⟨wm_456, wm_426, by decide +kernel, ⟨rfl, rfl, h1, h2⟩, h3, h4⟩
set_option maxHeartbeats 4000000 in
set_option maxRecDepth 100000 in
theorem M_FMO_part (l : Launch) {ad : Nat → Nat} {cI cL : ClassId} {dC : Nat → ClassId} {dI : Nat → Nat → Nat} (hi : adI ad) (S : hS) (x0 : Int64) (x2 : Int64) (x4 : Int32) (hp : ¬ x2 = 0) : Mt l ad cI cL dC dI yMO_part bMO_part 7 (some .long) ({ frames := 1, cells := 0, slots := 0, locals := 29 } : Room) [.long x0, .long x2, .int x4] S (pL (FMO_part S x0 x2 x4) S) := by
  refine Mt_of (own := RMO) hi (by decide) rfl (Nat.le_of_ble_eq_true rfl) ?_
  intro p e s m args below meth c ls B hr hlk hw hl
  obtain ⟨hx, hb, -, hown, hts, -, -⟩ := id B
  have hA : ∀ q, AA ad s.heap.size q → AA ad s.heap.size q := fun _ h => h
  have hl : lv_has ls 7 [(0, .long x0), (2, .long x2), (4, .int x4)] := hl
  have hF := FMO_part_e S x0 x2 x4
  refine lv_lload_n hx hb dMO_part_0 rfl (lv_at hl 0 rfl) ?_
  refine lv_lload_n hx hb dMO_part_1 rfl (lv_at hl 1 rfl) ?_
  refine V_callS (rest := []) B hi hw hA hl.1 (M_FMO_common l hi S x0 x2) (cw_FMO_common (Nat.le_of_ble_eq_true rfl) (Nat.le_of_ble_eq_true rfl) (Nat.zero_le _) (Nat.zero_le _)) wm_295 wm_296 rfl (Nat.le_of_ble_eq_true rfl) dMO_part_2 (kL (fun H locs hw => ?_))
  refine lv_lstore (lv' := [(5, .long (FMO_common S x0 x2)), (0, .long x0), (2, .long x2), (4, .int x4)]) hx hb dMO_part_5 hl (by decide) rfl (fun ls hl => ?_)
  refine lv_iload hx hb dMO_part_7 (lv_at hl 3 rfl) ?_
  refine lv_if_ne (tgt := 19) hx hb dMO_part_9 (by decide) (fun c1 => ?_) (fun c1 => ?_)
  · have hF := hF.trans (if_neg c1)
    refine lv_lload_n hx hb dMO_part_19 rfl (lv_at hl 2 rfl) ?_
    refine lv_lload hx hb dMO_part_20 (lv_at hl 0 rfl) ?_
    refine lv_ldiv hx hb dMO_part_22 (vc_FMO_part_nz22_2 S x0 x2 x4 hp c1) ?_
    exact V_lret B hr hlk hw (pL_r hF) dMO_part_23
  · have hF := hF.trans (if_pos c1)
    refine lv_lload_n hx hb dMO_part_12 rfl (lv_at hl 1 rfl) ?_
    refine lv_lload hx hb dMO_part_13 (lv_at hl 0 rfl) ?_
    refine lv_ldiv hx hb dMO_part_15 (vc_FMO_part_nz15_3 S x0 x2 x4 hp c1) ?_
    refine lv_goto (tgt := 23) hx hb dMO_part_16 (by decide) ?_
    exact V_lret B hr hlk hw (pL_r hF) dMO_part_23
set_option maxHeartbeats 4000000 in
set_option maxRecDepth 100000 in
theorem LPMO_share_45 (l : Launch) {ad : Nat → Nat} {cI cL : ClassId} {dC : Nat → ClassId} {dI : Nat → Nat → Nat} (hi : adI ad) {p : Program} {e : Env} {s : State} {m : MethodId} {args : Array Value} {below : List Frame} {meth : Method} {c : Code} {A : Nat → Prop} {post : Option Value → hS → Prop} (B : Bs p s m args c RMO bMO_share 8 cI cL dC dI) (hr : meth.sig.returnType = (some .long)) (hlk : meth.locks = false) (hA : ∀ q, AA ad s.heap.size q → A q) : ∀ (n : Nat) (S : hS) (x1 : Int32) (x2 : Int32) (x3 : Int32) (x4 : Int32) (x5 : Int32) (H : Heap) (locs : List Loc) (ls : Array Slot), wfM S ∧ rg x1 8 ∧ rg x2 120 ∧ 30 * x2.toInt ≤ x5.toInt ∧ x5.toInt ≤ 30 * x2.toInt + 30 → ((30 * x2.toInt + 30 - x5.toInt).toNat) < n → Wd ad cI cL dC dI A s.heap S H locs → lv_has ls 8 [(0, .ref (ad 49)), (1, .int x1), (2, .int x2), (3, .int x3), (4, .int x4), (5, .int x5)] → (∀ (H : Heap) (locs : List Loc) (ls : Array Slot) (y4 : Int32) (y5 : Int32), LMO_share_45 n S x1 x2 x3 x4 x5 = (y4, y5) → Wd ad cI cL dC dI A s.heap S H locs → lv_has ls 8 [(0, .ref (ad 49)), (1, .int x1), (2, .int x2), (3, .int x3), (4, .int y4), (5, .int y5)] → W p l e ({ frames := 2, cells := 0, slots := 0, locals := 55 } : Room) s m args below meth c H locs 0 0 (MQ below (QcW ad cI cL dC dI post A) args s 0 0 A) (F0 m 161 ls [])) → W p l e ({ frames := 2, cells := 0, slots := 0, locals := 55 } : Room) s m args below meth c H locs 0 0 (MQ below (QcW ad cI cL dC dI post A) args s 0 0 A) (F0 m 45 ls []) := by
  intro n
  obtain ⟨hx, hb, -, hown, hts, -, -⟩ := id B
  induction n with
  | zero => exact fun S x1 x2 x3 x4 x5 H locs ls _ hmu => absurd hmu (Nat.not_lt_zero _)
  | succ n ih =>
    intro S x1 x2 x3 x4 x5 H locs ls hJ hmu hw hl hexit
    have hF := LMO_share_45_s n S x1 x2 x3 x4 x5
    refine lv_iload hx hb dMO_share_45 (lv_at hl 5 rfl) ?_
    refine lv_bipush (v := 30) hx hb dMO_share_47 (by decide) ?_
    refine lv_iload_n hx hb dMO_share_49 rfl (lv_at hl 2 rfl) ?_
    refine lv_imul hx hb dMO_share_50 ?_
    refine lv_bipush (v := 30) hx hb dMO_share_51 (by decide) ?_
    refine lv_iadd hx hb dMO_share_53 ?_
    refine lv_icmp_ge (tgt := 161) hx hb dMO_share_54 (by decide) (fun c7 => ?_) (fun c7 => ?_)
    · have hF := hF.trans (if_pos c7)
      exact hexit _ _ _ x4 x5 hF hw (lv_sub hl [0, 1, 2, 3, 4, 5] rfl)
    · have hF := hF.trans (if_neg c7)
      refine lv_aload_n hx hb dMO_share_57 rfl (lv_at hl 0 rfl) ?_
      refine V_get B hw (v := .ref (ad 50)) (by decide) rfl rfl hin_MO 0 (by decide) rfl wm_234 rfl dMO_share_58 ?_
      refine lv_bipush (v := 70) hx hb dMO_share_61 (by decide) ?_
      refine lv_iload_n hx hb dMO_share_63 rfl (lv_at hl 1 rfl) ?_
      refine lv_iadd hx hb dMO_share_64 ?_
      refine V_lald (j := (70 + x1).toNatClampNeg) (v := S.2 50 ((70 + x1).toNatClampNeg)) B hw (by decide) rfl (vc_FMO_share_ix65_8 S x1 x2 x3 x4 x5 hJ c7) rfl rfl dMO_share_65 ?_
      refine lv_lconst (v := 0) hx hb dMO_share_66 (by decide) ?_
      refine V_lle (tgt := 93) B dMO_share_67 dMO_share_68 (by decide) (fun c9 => ?_) (fun c9 => ?_)
      · have hF := hF.trans (if_pos c9)
        refine lv_iconst (v := 0) hx hb dMO_share_93 (by decide) ?_
        refine lv_istore (lv' := [(6, .int 0), (0, .ref (ad 49)), (1, .int x1), (2, .int x2), (3, .int x3), (4, .int x4), (5, .int x5)]) hx hb dMO_share_94 hl (by decide) rfl (fun ls hl => ?_)
        refine lv_aload_n hx hb dMO_share_96 rfl (lv_at hl 1 rfl) ?_
        refine V_get B hw (v := .ref (ad 50)) (by decide) rfl rfl hin_MO 0 (by decide) rfl wm_234 rfl dMO_share_97 ?_
        refine lv_bipush (v := 80) hx hb dMO_share_100 (by decide) ?_
        refine lv_iload_n hx hb dMO_share_102 rfl (lv_at hl 2 rfl) ?_
        refine lv_iadd hx hb dMO_share_103 ?_
        refine V_lald (j := (80 + x1).toNatClampNeg) (v := S.2 50 ((80 + x1).toNatClampNeg)) B hw (by decide) rfl (vc_FMO_share_ix104_10 S x1 x2 x3 x4 x5 hJ c7 c9) rfl rfl dMO_share_104 ?_
        refine lv_lconst (v := 0) hx hb dMO_share_105 (by decide) ?_
        refine V_lle (tgt := 132) B dMO_share_106 dMO_share_107 (by decide) (fun c11 => ?_) (fun c11 => ?_)
        · have hF := hF.trans (if_pos c11)
          refine lv_iconst (v := 0) hx hb dMO_share_132 (by decide) ?_
          refine lv_istore (lv' := [(7, .int 0), (6, .int 0), (0, .ref (ad 49)), (1, .int x1), (2, .int x2), (3, .int x3), (4, .int x4), (5, .int x5)]) hx hb dMO_share_133 hl (by decide) rfl (fun ls hl => ?_)
          refine lv_iload hx hb dMO_share_135 (lv_at hl 6 rfl) ?_
          refine lv_iload hx hb dMO_share_137 (lv_at hl 1 rfl) ?_
          refine lv_if_ne (tgt := 147) hx hb dMO_share_139 (by decide) (fun c => absurd (by decide) c) (fun c => ?_)
          refine lv_iload hx hb dMO_share_142 (lv_at hl 0 rfl) ?_
          refine lv_if_eq (tgt := 151) hx hb dMO_share_144 (by decide) (fun c => ?_) (fun c => absurd (by decide) c)
          refine lv_iconst (v := 1) hx hb dMO_share_151 (by decide) ?_
          refine lv_iadd hx hb dMO_share_152 ?_
          refine lv_istore (lv' := [(4, .int (x4 + 1)), (7, .int 0), (6, .int 0), (0, .ref (ad 49)), (1, .int x1), (2, .int x2), (3, .int x3), (5, .int x5)]) hx hb dMO_share_153 hl (by decide) rfl (fun ls hl => ?_)
          refine lv_iinc (v := x5 + 1) (lv' := [(5, .int (x5 + 1)), (4, .int (x4 + 1)), (7, .int 0), (6, .int 0), (0, .ref (ad 49)), (1, .int x1), (2, .int x2), (3, .int x3)]) hx hb dMO_share_155 hl (k := 7) rfl rfl (by decide) rfl (fun ls hl => ?_)
          refine lv_goto (tgt := 45) hx hb dMO_share_158 (by decide) ?_
          exact ih S x1 x2 x3 (x4 + 1) (x5 + 1) _ _ _ (vc_FMO_share_inv45_12 S x1 x2 x3 x4 x5 hJ c7 c9 c11) (Nat.lt_of_lt_of_le (vc_FMO_share_mu45_13 S x1 x2 x3 x4 x5 hJ c7 c9 c11) (Nat.le_of_lt_succ hmu)) hw (lv_sub hl [4, 5, 6, 7, 1, 0] rfl) (fun H locs ls y4 y5 h hw hl => hexit H locs ls y4 y5 (hF.trans h) hw hl)
        · have hF := hF.trans (if_neg c11)
          refine lv_iload hx hb dMO_share_110 (lv_at hl 6 rfl) ?_
          refine lv_i2l hx hb dMO_share_112 rfl ?_
          refine lv_aload_n hx hb dMO_share_113 rfl (lv_at hl 1 rfl) ?_
          refine V_get B hw (v := .ref (ad 50)) (by decide) rfl rfl hin_MO 0 (by decide) rfl wm_234 rfl dMO_share_114 ?_
          refine lv_bipush (v := 80) hx hb dMO_share_117 (by decide) ?_
          refine lv_iload_n hx hb dMO_share_119 rfl (lv_at hl 2 rfl) ?_
          refine lv_iadd hx hb dMO_share_120 ?_
          refine V_lald (j := (80 + x1).toNatClampNeg) (v := S.2 50 ((80 + x1).toNatClampNeg)) B hw (by decide) rfl (vc_FMO_share_ix121_14 S x1 x2 x3 x4 x5 hJ c7 c9 c11) rfl rfl dMO_share_121 ?_
          refine lv_lconst (v := 1) hx hb dMO_share_122 (by decide) ?_
          refine lv_lsub hx hb dMO_share_123 ?_
          refine V_lge (tgt := 132) B dMO_share_124 dMO_share_125 (by decide) (fun c15 => ?_) (fun c15 => ?_)
          · have hF := hF.trans (if_pos c15)
            refine lv_iconst (v := 0) hx hb dMO_share_132 (by decide) ?_
            refine lv_istore (lv' := [(7, .int 0), (6, .int 0), (0, .ref (ad 49)), (1, .int x1), (2, .int x2), (3, .int x3), (4, .int x4), (5, .int x5)]) hx hb dMO_share_133 hl (by decide) rfl (fun ls hl => ?_)
            refine lv_iload hx hb dMO_share_135 (lv_at hl 6 rfl) ?_
            refine lv_iload hx hb dMO_share_137 (lv_at hl 1 rfl) ?_
            refine lv_if_ne (tgt := 147) hx hb dMO_share_139 (by decide) (fun c => absurd (by decide) c) (fun c => ?_)
            refine lv_iload hx hb dMO_share_142 (lv_at hl 0 rfl) ?_
            refine lv_if_eq (tgt := 151) hx hb dMO_share_144 (by decide) (fun c => ?_) (fun c => absurd (by decide) c)
            refine lv_iconst (v := 1) hx hb dMO_share_151 (by decide) ?_
            refine lv_iadd hx hb dMO_share_152 ?_
            refine lv_istore (lv' := [(4, .int (x4 + 1)), (7, .int 0), (6, .int 0), (0, .ref (ad 49)), (1, .int x1), (2, .int x2), (3, .int x3), (5, .int x5)]) hx hb dMO_share_153 hl (by decide) rfl (fun ls hl => ?_)
            refine lv_iinc (v := x5 + 1) (lv' := [(5, .int (x5 + 1)), (4, .int (x4 + 1)), (7, .int 0), (6, .int 0), (0, .ref (ad 49)), (1, .int x1), (2, .int x2), (3, .int x3)]) hx hb dMO_share_155 hl (k := 7) rfl rfl (by decide) rfl (fun ls hl => ?_)
            refine lv_goto (tgt := 45) hx hb dMO_share_158 (by decide) ?_
            exact ih S x1 x2 x3 (x4 + 1) (x5 + 1) _ _ _ (vc_FMO_share_inv45_16 S x1 x2 x3 x4 x5 hJ c7 c9 c11 c15) (Nat.lt_of_lt_of_le (vc_FMO_share_mu45_17 S x1 x2 x3 x4 x5 hJ c7 c9 c11 c15) (Nat.le_of_lt_succ hmu)) hw (lv_sub hl [4, 5, 6, 7, 1, 0] rfl) (fun H locs ls y4 y5 h hw hl => hexit H locs ls y4 y5 (hF.trans h) hw hl)
          · have hF := hF.trans (if_neg c15)
            refine lv_iconst (v := 1) hx hb dMO_share_128 (by decide) ?_
            refine lv_goto (tgt := 133) hx hb dMO_share_129 (by decide) ?_
            refine lv_istore (lv' := [(7, .int 1), (6, .int 0), (0, .ref (ad 49)), (1, .int x1), (2, .int x2), (3, .int x3), (4, .int x4), (5, .int x5)]) hx hb dMO_share_133 hl (by decide) rfl (fun ls hl => ?_)
            refine lv_iload hx hb dMO_share_135 (lv_at hl 6 rfl) ?_
            refine lv_iload hx hb dMO_share_137 (lv_at hl 1 rfl) ?_
            refine lv_if_ne (tgt := 147) hx hb dMO_share_139 (by decide) (fun c => absurd (by decide) c) (fun c => ?_)
            refine lv_iload hx hb dMO_share_142 (lv_at hl 0 rfl) ?_
            refine lv_if_eq (tgt := 151) hx hb dMO_share_144 (by decide) (fun c => absurd c (by decide)) (fun c => ?_)
            refine lv_iconst (v := 0) hx hb dMO_share_147 (by decide) ?_
            refine lv_goto (tgt := 152) hx hb dMO_share_148 (by decide) ?_
            refine lv_iadd hx hb dMO_share_152 ?_
            refine lv_istore (lv' := [(4, .int (x4 + 0)), (7, .int 1), (6, .int 0), (0, .ref (ad 49)), (1, .int x1), (2, .int x2), (3, .int x3), (5, .int x5)]) hx hb dMO_share_153 hl (by decide) rfl (fun ls hl => ?_)
            refine lv_iinc (v := x5 + 1) (lv' := [(5, .int (x5 + 1)), (4, .int (x4 + 0)), (7, .int 1), (6, .int 0), (0, .ref (ad 49)), (1, .int x1), (2, .int x2), (3, .int x3)]) hx hb dMO_share_155 hl (k := 7) rfl rfl (by decide) rfl (fun ls hl => ?_)
            refine lv_goto (tgt := 45) hx hb dMO_share_158 (by decide) ?_
            exact ih S x1 x2 x3 (x4 + 0) (x5 + 1) _ _ _ (vc_FMO_share_inv45_18 S x1 x2 x3 x4 x5 hJ c7 c9 c11 c15) (Nat.lt_of_lt_of_le (vc_FMO_share_mu45_19 S x1 x2 x3 x4 x5 hJ c7 c9 c11 c15) (Nat.le_of_lt_succ hmu)) hw (lv_sub hl [4, 5, 6, 7, 1, 0] rfl) (fun H locs ls y4 y5 h hw hl => hexit H locs ls y4 y5 (hF.trans h) hw hl)
      · have hF := hF.trans (if_neg c9)
        refine lv_iload hx hb dMO_share_71 (lv_at hl 5 rfl) ?_
        refine lv_i2l hx hb dMO_share_73 rfl ?_
        refine lv_aload_n hx hb dMO_share_74 rfl (lv_at hl 0 rfl) ?_
        refine V_get B hw (v := .ref (ad 50)) (by decide) rfl rfl hin_MO 0 (by decide) rfl wm_234 rfl dMO_share_75 ?_
        refine lv_bipush (v := 70) hx hb dMO_share_78 (by decide) ?_
        refine lv_iload_n hx hb dMO_share_80 rfl (lv_at hl 1 rfl) ?_
        refine lv_iadd hx hb dMO_share_81 ?_
        refine V_lald (j := (70 + x1).toNatClampNeg) (v := S.2 50 ((70 + x1).toNatClampNeg)) B hw (by decide) rfl (vc_FMO_share_ix82_20 S x1 x2 x3 x4 x5 hJ c7 c9) rfl rfl dMO_share_82 ?_
        refine lv_lconst (v := 1) hx hb dMO_share_83 (by decide) ?_
        refine lv_lsub hx hb dMO_share_84 ?_
        refine V_llt (tgt := 93) B dMO_share_85 dMO_share_86 (by decide) (fun c21 => ?_) (fun c21 => ?_)
        · have hF := hF.trans (if_pos c21)
          refine lv_iconst (v := 0) hx hb dMO_share_93 (by decide) ?_
          refine lv_istore (lv' := [(6, .int 0), (0, .ref (ad 49)), (1, .int x1), (2, .int x2), (3, .int x3), (4, .int x4), (5, .int x5)]) hx hb dMO_share_94 hl (by decide) rfl (fun ls hl => ?_)
          refine lv_aload_n hx hb dMO_share_96 rfl (lv_at hl 1 rfl) ?_
          refine V_get B hw (v := .ref (ad 50)) (by decide) rfl rfl hin_MO 0 (by decide) rfl wm_234 rfl dMO_share_97 ?_
          refine lv_bipush (v := 80) hx hb dMO_share_100 (by decide) ?_
          refine lv_iload_n hx hb dMO_share_102 rfl (lv_at hl 2 rfl) ?_
          refine lv_iadd hx hb dMO_share_103 ?_
          refine V_lald (j := (80 + x1).toNatClampNeg) (v := S.2 50 ((80 + x1).toNatClampNeg)) B hw (by decide) rfl (vc_FMO_share_ix104_22 S x1 x2 x3 x4 x5 hJ c7 c9 c21) rfl rfl dMO_share_104 ?_
          refine lv_lconst (v := 0) hx hb dMO_share_105 (by decide) ?_
          refine V_lle (tgt := 132) B dMO_share_106 dMO_share_107 (by decide) (fun c23 => ?_) (fun c23 => ?_)
          · have hF := hF.trans (if_pos c23)
            refine lv_iconst (v := 0) hx hb dMO_share_132 (by decide) ?_
            refine lv_istore (lv' := [(7, .int 0), (6, .int 0), (0, .ref (ad 49)), (1, .int x1), (2, .int x2), (3, .int x3), (4, .int x4), (5, .int x5)]) hx hb dMO_share_133 hl (by decide) rfl (fun ls hl => ?_)
            refine lv_iload hx hb dMO_share_135 (lv_at hl 6 rfl) ?_
            refine lv_iload hx hb dMO_share_137 (lv_at hl 1 rfl) ?_
            refine lv_if_ne (tgt := 147) hx hb dMO_share_139 (by decide) (fun c => absurd (by decide) c) (fun c => ?_)
            refine lv_iload hx hb dMO_share_142 (lv_at hl 0 rfl) ?_
            refine lv_if_eq (tgt := 151) hx hb dMO_share_144 (by decide) (fun c => ?_) (fun c => absurd (by decide) c)
            refine lv_iconst (v := 1) hx hb dMO_share_151 (by decide) ?_
            refine lv_iadd hx hb dMO_share_152 ?_
            refine lv_istore (lv' := [(4, .int (x4 + 1)), (7, .int 0), (6, .int 0), (0, .ref (ad 49)), (1, .int x1), (2, .int x2), (3, .int x3), (5, .int x5)]) hx hb dMO_share_153 hl (by decide) rfl (fun ls hl => ?_)
            refine lv_iinc (v := x5 + 1) (lv' := [(5, .int (x5 + 1)), (4, .int (x4 + 1)), (7, .int 0), (6, .int 0), (0, .ref (ad 49)), (1, .int x1), (2, .int x2), (3, .int x3)]) hx hb dMO_share_155 hl (k := 7) rfl rfl (by decide) rfl (fun ls hl => ?_)
            refine lv_goto (tgt := 45) hx hb dMO_share_158 (by decide) ?_
            exact ih S x1 x2 x3 (x4 + 1) (x5 + 1) _ _ _ (vc_FMO_share_inv45_24 S x1 x2 x3 x4 x5 hJ c7 c9 c21 c23) (Nat.lt_of_lt_of_le (vc_FMO_share_mu45_25 S x1 x2 x3 x4 x5 hJ c7 c9 c21 c23) (Nat.le_of_lt_succ hmu)) hw (lv_sub hl [4, 5, 6, 7, 1, 0] rfl) (fun H locs ls y4 y5 h hw hl => hexit H locs ls y4 y5 (hF.trans h) hw hl)
          · have hF := hF.trans (if_neg c23)
            refine lv_iload hx hb dMO_share_110 (lv_at hl 6 rfl) ?_
            refine lv_i2l hx hb dMO_share_112 rfl ?_
            refine lv_aload_n hx hb dMO_share_113 rfl (lv_at hl 1 rfl) ?_
            refine V_get B hw (v := .ref (ad 50)) (by decide) rfl rfl hin_MO 0 (by decide) rfl wm_234 rfl dMO_share_114 ?_
            refine lv_bipush (v := 80) hx hb dMO_share_117 (by decide) ?_
            refine lv_iload_n hx hb dMO_share_119 rfl (lv_at hl 2 rfl) ?_
            refine lv_iadd hx hb dMO_share_120 ?_
            refine V_lald (j := (80 + x1).toNatClampNeg) (v := S.2 50 ((80 + x1).toNatClampNeg)) B hw (by decide) rfl (vc_FMO_share_ix121_26 S x1 x2 x3 x4 x5 hJ c7 c9 c21 c23) rfl rfl dMO_share_121 ?_
            refine lv_lconst (v := 1) hx hb dMO_share_122 (by decide) ?_
            refine lv_lsub hx hb dMO_share_123 ?_
            refine V_lge (tgt := 132) B dMO_share_124 dMO_share_125 (by decide) (fun c27 => ?_) (fun c27 => ?_)
            · have hF := hF.trans (if_pos c27)
              refine lv_iconst (v := 0) hx hb dMO_share_132 (by decide) ?_
              refine lv_istore (lv' := [(7, .int 0), (6, .int 0), (0, .ref (ad 49)), (1, .int x1), (2, .int x2), (3, .int x3), (4, .int x4), (5, .int x5)]) hx hb dMO_share_133 hl (by decide) rfl (fun ls hl => ?_)
              refine lv_iload hx hb dMO_share_135 (lv_at hl 6 rfl) ?_
              refine lv_iload hx hb dMO_share_137 (lv_at hl 1 rfl) ?_
              refine lv_if_ne (tgt := 147) hx hb dMO_share_139 (by decide) (fun c => absurd (by decide) c) (fun c => ?_)
              refine lv_iload hx hb dMO_share_142 (lv_at hl 0 rfl) ?_
              refine lv_if_eq (tgt := 151) hx hb dMO_share_144 (by decide) (fun c => ?_) (fun c => absurd (by decide) c)
              refine lv_iconst (v := 1) hx hb dMO_share_151 (by decide) ?_
              refine lv_iadd hx hb dMO_share_152 ?_
              refine lv_istore (lv' := [(4, .int (x4 + 1)), (7, .int 0), (6, .int 0), (0, .ref (ad 49)), (1, .int x1), (2, .int x2), (3, .int x3), (5, .int x5)]) hx hb dMO_share_153 hl (by decide) rfl (fun ls hl => ?_)
              refine lv_iinc (v := x5 + 1) (lv' := [(5, .int (x5 + 1)), (4, .int (x4 + 1)), (7, .int 0), (6, .int 0), (0, .ref (ad 49)), (1, .int x1), (2, .int x2), (3, .int x3)]) hx hb dMO_share_155 hl (k := 7) rfl rfl (by decide) rfl (fun ls hl => ?_)
              refine lv_goto (tgt := 45) hx hb dMO_share_158 (by decide) ?_
              exact ih S x1 x2 x3 (x4 + 1) (x5 + 1) _ _ _ (vc_FMO_share_inv45_28 S x1 x2 x3 x4 x5 hJ c7 c9 c21 c23 c27) (Nat.lt_of_lt_of_le (vc_FMO_share_mu45_29 S x1 x2 x3 x4 x5 hJ c7 c9 c21 c23 c27) (Nat.le_of_lt_succ hmu)) hw (lv_sub hl [4, 5, 6, 7, 1, 0] rfl) (fun H locs ls y4 y5 h hw hl => hexit H locs ls y4 y5 (hF.trans h) hw hl)
            · have hF := hF.trans (if_neg c27)
              refine lv_iconst (v := 1) hx hb dMO_share_128 (by decide) ?_
              refine lv_goto (tgt := 133) hx hb dMO_share_129 (by decide) ?_
              refine lv_istore (lv' := [(7, .int 1), (6, .int 0), (0, .ref (ad 49)), (1, .int x1), (2, .int x2), (3, .int x3), (4, .int x4), (5, .int x5)]) hx hb dMO_share_133 hl (by decide) rfl (fun ls hl => ?_)
              refine lv_iload hx hb dMO_share_135 (lv_at hl 6 rfl) ?_
              refine lv_iload hx hb dMO_share_137 (lv_at hl 1 rfl) ?_
              refine lv_if_ne (tgt := 147) hx hb dMO_share_139 (by decide) (fun c => absurd (by decide) c) (fun c => ?_)
              refine lv_iload hx hb dMO_share_142 (lv_at hl 0 rfl) ?_
              refine lv_if_eq (tgt := 151) hx hb dMO_share_144 (by decide) (fun c => absurd c (by decide)) (fun c => ?_)
              refine lv_iconst (v := 0) hx hb dMO_share_147 (by decide) ?_
              refine lv_goto (tgt := 152) hx hb dMO_share_148 (by decide) ?_
              refine lv_iadd hx hb dMO_share_152 ?_
              refine lv_istore (lv' := [(4, .int (x4 + 0)), (7, .int 1), (6, .int 0), (0, .ref (ad 49)), (1, .int x1), (2, .int x2), (3, .int x3), (5, .int x5)]) hx hb dMO_share_153 hl (by decide) rfl (fun ls hl => ?_)
              refine lv_iinc (v := x5 + 1) (lv' := [(5, .int (x5 + 1)), (4, .int (x4 + 0)), (7, .int 1), (6, .int 0), (0, .ref (ad 49)), (1, .int x1), (2, .int x2), (3, .int x3)]) hx hb dMO_share_155 hl (k := 7) rfl rfl (by decide) rfl (fun ls hl => ?_)
              refine lv_goto (tgt := 45) hx hb dMO_share_158 (by decide) ?_
              exact ih S x1 x2 x3 (x4 + 0) (x5 + 1) _ _ _ (vc_FMO_share_inv45_30 S x1 x2 x3 x4 x5 hJ c7 c9 c21 c23 c27) (Nat.lt_of_lt_of_le (vc_FMO_share_mu45_31 S x1 x2 x3 x4 x5 hJ c7 c9 c21 c23 c27) (Nat.le_of_lt_succ hmu)) hw (lv_sub hl [4, 5, 6, 7, 1, 0] rfl) (fun H locs ls y4 y5 h hw hl => hexit H locs ls y4 y5 (hF.trans h) hw hl)
        · have hF := hF.trans (if_neg c21)
          refine lv_iconst (v := 1) hx hb dMO_share_89 (by decide) ?_
          refine lv_goto (tgt := 94) hx hb dMO_share_90 (by decide) ?_
          refine lv_istore (lv' := [(6, .int 1), (0, .ref (ad 49)), (1, .int x1), (2, .int x2), (3, .int x3), (4, .int x4), (5, .int x5)]) hx hb dMO_share_94 hl (by decide) rfl (fun ls hl => ?_)
          refine lv_aload_n hx hb dMO_share_96 rfl (lv_at hl 1 rfl) ?_
          refine V_get B hw (v := .ref (ad 50)) (by decide) rfl rfl hin_MO 0 (by decide) rfl wm_234 rfl dMO_share_97 ?_
          refine lv_bipush (v := 80) hx hb dMO_share_100 (by decide) ?_
          refine lv_iload_n hx hb dMO_share_102 rfl (lv_at hl 2 rfl) ?_
          refine lv_iadd hx hb dMO_share_103 ?_
          refine V_lald (j := (80 + x1).toNatClampNeg) (v := S.2 50 ((80 + x1).toNatClampNeg)) B hw (by decide) rfl (vc_FMO_share_ix104_32 S x1 x2 x3 x4 x5 hJ c7 c9 c21) rfl rfl dMO_share_104 ?_
          refine lv_lconst (v := 0) hx hb dMO_share_105 (by decide) ?_
          refine V_lle (tgt := 132) B dMO_share_106 dMO_share_107 (by decide) (fun c33 => ?_) (fun c33 => ?_)
          · have hF := hF.trans (if_pos c33)
            refine lv_iconst (v := 0) hx hb dMO_share_132 (by decide) ?_
            refine lv_istore (lv' := [(7, .int 0), (6, .int 1), (0, .ref (ad 49)), (1, .int x1), (2, .int x2), (3, .int x3), (4, .int x4), (5, .int x5)]) hx hb dMO_share_133 hl (by decide) rfl (fun ls hl => ?_)
            refine lv_iload hx hb dMO_share_135 (lv_at hl 6 rfl) ?_
            refine lv_iload hx hb dMO_share_137 (lv_at hl 1 rfl) ?_
            refine lv_if_ne (tgt := 147) hx hb dMO_share_139 (by decide) (fun c => ?_) (fun c => absurd c (by decide))
            refine lv_iconst (v := 0) hx hb dMO_share_147 (by decide) ?_
            refine lv_goto (tgt := 152) hx hb dMO_share_148 (by decide) ?_
            refine lv_iadd hx hb dMO_share_152 ?_
            refine lv_istore (lv' := [(4, .int (x4 + 0)), (7, .int 0), (6, .int 1), (0, .ref (ad 49)), (1, .int x1), (2, .int x2), (3, .int x3), (5, .int x5)]) hx hb dMO_share_153 hl (by decide) rfl (fun ls hl => ?_)
            refine lv_iinc (v := x5 + 1) (lv' := [(5, .int (x5 + 1)), (4, .int (x4 + 0)), (7, .int 0), (6, .int 1), (0, .ref (ad 49)), (1, .int x1), (2, .int x2), (3, .int x3)]) hx hb dMO_share_155 hl (k := 7) rfl rfl (by decide) rfl (fun ls hl => ?_)
            refine lv_goto (tgt := 45) hx hb dMO_share_158 (by decide) ?_
            exact ih S x1 x2 x3 (x4 + 0) (x5 + 1) _ _ _ (vc_FMO_share_inv45_34 S x1 x2 x3 x4 x5 hJ c7 c9 c21 c33) (Nat.lt_of_lt_of_le (vc_FMO_share_mu45_35 S x1 x2 x3 x4 x5 hJ c7 c9 c21 c33) (Nat.le_of_lt_succ hmu)) hw (lv_sub hl [4, 5, 6, 7, 1, 0] rfl) (fun H locs ls y4 y5 h hw hl => hexit H locs ls y4 y5 (hF.trans h) hw hl)
          · have hF := hF.trans (if_neg c33)
            refine lv_iload hx hb dMO_share_110 (lv_at hl 6 rfl) ?_
            refine lv_i2l hx hb dMO_share_112 rfl ?_
            refine lv_aload_n hx hb dMO_share_113 rfl (lv_at hl 1 rfl) ?_
            refine V_get B hw (v := .ref (ad 50)) (by decide) rfl rfl hin_MO 0 (by decide) rfl wm_234 rfl dMO_share_114 ?_
            refine lv_bipush (v := 80) hx hb dMO_share_117 (by decide) ?_
            refine lv_iload_n hx hb dMO_share_119 rfl (lv_at hl 2 rfl) ?_
            refine lv_iadd hx hb dMO_share_120 ?_
            refine V_lald (j := (80 + x1).toNatClampNeg) (v := S.2 50 ((80 + x1).toNatClampNeg)) B hw (by decide) rfl (vc_FMO_share_ix121_36 S x1 x2 x3 x4 x5 hJ c7 c9 c21 c33) rfl rfl dMO_share_121 ?_
            refine lv_lconst (v := 1) hx hb dMO_share_122 (by decide) ?_
            refine lv_lsub hx hb dMO_share_123 ?_
            refine V_lge (tgt := 132) B dMO_share_124 dMO_share_125 (by decide) (fun c37 => ?_) (fun c37 => ?_)
            · have hF := hF.trans (if_pos c37)
              refine lv_iconst (v := 0) hx hb dMO_share_132 (by decide) ?_
              refine lv_istore (lv' := [(7, .int 0), (6, .int 1), (0, .ref (ad 49)), (1, .int x1), (2, .int x2), (3, .int x3), (4, .int x4), (5, .int x5)]) hx hb dMO_share_133 hl (by decide) rfl (fun ls hl => ?_)
              refine lv_iload hx hb dMO_share_135 (lv_at hl 6 rfl) ?_
              refine lv_iload hx hb dMO_share_137 (lv_at hl 1 rfl) ?_
              refine lv_if_ne (tgt := 147) hx hb dMO_share_139 (by decide) (fun c => ?_) (fun c => absurd c (by decide))
              refine lv_iconst (v := 0) hx hb dMO_share_147 (by decide) ?_
              refine lv_goto (tgt := 152) hx hb dMO_share_148 (by decide) ?_
              refine lv_iadd hx hb dMO_share_152 ?_
              refine lv_istore (lv' := [(4, .int (x4 + 0)), (7, .int 0), (6, .int 1), (0, .ref (ad 49)), (1, .int x1), (2, .int x2), (3, .int x3), (5, .int x5)]) hx hb dMO_share_153 hl (by decide) rfl (fun ls hl => ?_)
              refine lv_iinc (v := x5 + 1) (lv' := [(5, .int (x5 + 1)), (4, .int (x4 + 0)), (7, .int 0), (6, .int 1), (0, .ref (ad 49)), (1, .int x1), (2, .int x2), (3, .int x3)]) hx hb dMO_share_155 hl (k := 7) rfl rfl (by decide) rfl (fun ls hl => ?_)
              refine lv_goto (tgt := 45) hx hb dMO_share_158 (by decide) ?_
              exact ih S x1 x2 x3 (x4 + 0) (x5 + 1) _ _ _ (vc_FMO_share_inv45_38 S x1 x2 x3 x4 x5 hJ c7 c9 c21 c33 c37) (Nat.lt_of_lt_of_le (vc_FMO_share_mu45_39 S x1 x2 x3 x4 x5 hJ c7 c9 c21 c33 c37) (Nat.le_of_lt_succ hmu)) hw (lv_sub hl [4, 5, 6, 7, 1, 0] rfl) (fun H locs ls y4 y5 h hw hl => hexit H locs ls y4 y5 (hF.trans h) hw hl)
            · have hF := hF.trans (if_neg c37)
              refine lv_iconst (v := 1) hx hb dMO_share_128 (by decide) ?_
              refine lv_goto (tgt := 133) hx hb dMO_share_129 (by decide) ?_
              refine lv_istore (lv' := [(7, .int 1), (6, .int 1), (0, .ref (ad 49)), (1, .int x1), (2, .int x2), (3, .int x3), (4, .int x4), (5, .int x5)]) hx hb dMO_share_133 hl (by decide) rfl (fun ls hl => ?_)
              refine lv_iload hx hb dMO_share_135 (lv_at hl 6 rfl) ?_
              refine lv_iload hx hb dMO_share_137 (lv_at hl 1 rfl) ?_
              refine lv_if_ne (tgt := 147) hx hb dMO_share_139 (by decide) (fun c => ?_) (fun c => absurd c (by decide))
              refine lv_iconst (v := 0) hx hb dMO_share_147 (by decide) ?_
              refine lv_goto (tgt := 152) hx hb dMO_share_148 (by decide) ?_
              refine lv_iadd hx hb dMO_share_152 ?_
              refine lv_istore (lv' := [(4, .int (x4 + 0)), (7, .int 1), (6, .int 1), (0, .ref (ad 49)), (1, .int x1), (2, .int x2), (3, .int x3), (5, .int x5)]) hx hb dMO_share_153 hl (by decide) rfl (fun ls hl => ?_)
              refine lv_iinc (v := x5 + 1) (lv' := [(5, .int (x5 + 1)), (4, .int (x4 + 0)), (7, .int 1), (6, .int 1), (0, .ref (ad 49)), (1, .int x1), (2, .int x2), (3, .int x3)]) hx hb dMO_share_155 hl (k := 7) rfl rfl (by decide) rfl (fun ls hl => ?_)
              refine lv_goto (tgt := 45) hx hb dMO_share_158 (by decide) ?_
              exact ih S x1 x2 x3 (x4 + 0) (x5 + 1) _ _ _ (vc_FMO_share_inv45_40 S x1 x2 x3 x4 x5 hJ c7 c9 c21 c33 c37) (Nat.lt_of_lt_of_le (vc_FMO_share_mu45_41 S x1 x2 x3 x4 x5 hJ c7 c9 c21 c33 c37) (Nat.le_of_lt_succ hmu)) hw (lv_sub hl [4, 5, 6, 7, 1, 0] rfl) (fun H locs ls y4 y5 h hw hl => hexit H locs ls y4 y5 (hF.trans h) hw hl)
theorem cw_FMO_share {R : Room} {cells slots : Nat} (h1 : 3 ≤ R.frames) (h2 : 82 ≤ R.locals) (h3 : cells ≤ R.cells) (h4 : slots ≤ R.slots) : Cw R cells slots yMO_share bMO_share 8 (some .long) ({ frames := 2, cells := 0, slots := 0, locals := 55 } : Room) 3 := ⟨wm_457, wm_426, by decide +kernel, ⟨rfl, rfl, h1, h2⟩, h3, h4⟩
set_option maxHeartbeats 4000000 in
set_option maxRecDepth 100000 in
theorem M_FMO_share (l : Launch) {ad : Nat → Nat} {cI cL : ClassId} {dC : Nat → ClassId} {dI : Nat → Nat → Nat} (hi : adI ad) (S : hS) (x1 : Int32) (x2 : Int32) (x3 : Int32) (hp : wfM S) : Mt l ad cI cL dC dI yMO_share bMO_share 8 (some .long) ({ frames := 2, cells := 0, slots := 0, locals := 55 } : Room) [.ref (ad 49), .int x1, .int x2, .int x3] S (pL (FMO_share S x1 x2 x3).1 (FMO_share S x1 x2 x3).2) := by
  refine Mt_of (own := RMO) hi (by decide) rfl (Nat.le_of_ble_eq_true rfl) ?_
  intro p e s m args below meth c ls B hr hlk hw hl
  obtain ⟨hx, hb, -, hown, hts, -, -⟩ := id B
  have hA : ∀ q, AA ad s.heap.size q → AA ad s.heap.size q := fun _ h => h
  have hl : lv_has ls 8 [(0, .ref (ad 49)), (1, .int x1), (2, .int x2), (3, .int x3)] := hl
  have hF := FMO_share_e S x1 x2 x3
  refine lv_aload_n hx hb dMO_share_0 rfl (lv_at hl 0 rfl) ?_
  refine lv_iconst (v := 0) hx hb dMO_share_1 (by decide) ?_
  refine V_putI (ty := .int) B hw (by decide) rfl rfl hin_MO tyMO_ok nmMO 4 (by decide) rfl wm_242 rfl (by decide +kernel) rfl rfl dMO_share_2 (fun H locs hw => ?_)
  refine lv_aload_n hx hb dMO_share_5 rfl (lv_at hl 0 rfl) ?_
  refine lv_iload_n hx hb dMO_share_6 rfl (lv_at hl 1 rfl) ?_
  refine V_callV (rest := []) B hi hw hA hl.1 (M_FMO_isHousehold l hi (sI S 49 4 0) x1 (vc_FMO_share_pre7_1 S x1 x2 x3 hp)) (cw_FMO_isHousehold (Nat.le_of_ble_eq_true rfl) (Nat.le_of_ble_eq_true rfl) (Nat.zero_le _) (Nat.zero_le _)) (by decide) rfl rfl wm_271 wm_272 wm_273 rfl (Nat.le_of_ble_eq_true rfl) dMO_share_7 (kI (fun H locs hw => ?_))
  refine lv_if_eq (tgt := 32) hx hb dMO_share_10 (by decide) (fun c2 => ?_) (fun c2 => ?_)
  · have hF := hF.trans (if_pos c2)
    refine lv_ldc2 (v := (-1)) hx hb hown (hts _ wm_278) dMO_share_32 ?_
    exact V_lret B hr hlk hw (pL_of hF) dMO_share_35
  · have hF := hF.trans (if_neg c2)
    refine lv_iload_n hx hb dMO_share_13 rfl (lv_at hl 2 rfl) ?_
    refine lv_if_lt (tgt := 32) hx hb dMO_share_14 (by decide) (fun c3 => ?_) (fun c3 => ?_)
    · have hF := hF.trans (if_pos c3)
      refine lv_ldc2 (v := (-1)) hx hb hown (hts _ wm_278) dMO_share_32 ?_
      exact V_lret B hr hlk hw (pL_of hF) dMO_share_35
    · have hF := hF.trans (if_neg c3)
      refine lv_iload_n hx hb dMO_share_17 rfl (lv_at hl 2 rfl) ?_
      refine lv_bipush (v := 120) hx hb dMO_share_18 (by decide) ?_
      refine lv_icmp_ge (tgt := 32) hx hb dMO_share_20 (by decide) (fun c4 => ?_) (fun c4 => ?_)
      · have hF := hF.trans (if_pos c4)
        refine lv_ldc2 (v := (-1)) hx hb hown (hts _ wm_278) dMO_share_32 ?_
        exact V_lret B hr hlk hw (pL_of hF) dMO_share_35
      · have hF := hF.trans (if_neg c4)
        refine lv_iload_n hx hb dMO_share_23 rfl (lv_at hl 3 rfl) ?_
        refine lv_if_lt (tgt := 32) hx hb dMO_share_24 (by decide) (fun c5 => ?_) (fun c5 => ?_)
        · have hF := hF.trans (if_pos c5)
          refine lv_ldc2 (v := (-1)) hx hb hown (hts _ wm_278) dMO_share_32 ?_
          exact V_lret B hr hlk hw (pL_of hF) dMO_share_35
        · have hF := hF.trans (if_neg c5)
          refine lv_iload_n hx hb dMO_share_27 rfl (lv_at hl 3 rfl) ?_
          refine lv_iconst (v := 1) hx hb dMO_share_28 (by decide) ?_
          refine lv_icmp_le (tgt := 36) hx hb dMO_share_29 (by decide) (fun c6 => ?_) (fun c6 => ?_)
          · have hF := hF.trans (if_pos c6)
            refine lv_iconst (v := 0) hx hb dMO_share_36 (by decide) ?_
            refine lv_istore (lv' := [(4, .int 0), (0, .ref (ad 49)), (1, .int x1), (2, .int x2), (3, .int x3)]) hx hb dMO_share_37 hl (by decide) rfl (fun ls hl => ?_)
            refine lv_bipush (v := 30) hx hb dMO_share_39 (by decide) ?_
            refine lv_iload_n hx hb dMO_share_41 rfl (lv_at hl 3 rfl) ?_
            refine lv_imul hx hb dMO_share_42 ?_
            refine lv_istore (lv' := [(5, .int (30 * x2)), (4, .int 0), (0, .ref (ad 49)), (1, .int x1), (2, .int x2), (3, .int x3)]) hx hb dMO_share_43 hl (by decide) rfl (fun ls hl => ?_)
            refine LPMO_share_45 l hi B hr hlk hA 300 (sI S 49 4 0) x1 x2 x3 0 (30 * x2) _ _ _ (vc_FMO_share_inv045_43 S x1 x2 x3 hp c2 c3 c4 c5 c6) (vc_FMO_share_mu045_44 S x1 x2 x3 hp c2 c3 c4 c5 c6) hw (lv_sub hl [2, 3, 4, 5, 1, 0] rfl) (fun H locs ls y42_4 y42_5 hq42 hw hl => ?_)
            rw [hq42] at hF; try dsimp only at hF
            refine lv_iload hx hb dMO_share_161 (lv_at hl 4 rfl) ?_
            refine lv_i2l hx hb dMO_share_163 rfl ?_
            refine lv_ldc2 (v := 30) hx hb hown (hts _ wm_241) dMO_share_164 ?_
            refine lv_iload_n hx hb dMO_share_167 rfl (lv_at hl 3 rfl) ?_
            refine V_callS (rest := []) B hi hw hA hl.1 (M_FMO_part l hi (sI S 49 4 0) y42_4.toInt64 30 x3 (vc_FMO_share_pre168_45 S x1 x2 x3 hp c2 c3 c4 c5 c6 y42_4 y42_5 hq42)) (cw_FMO_part (Nat.le_of_ble_eq_true rfl) (Nat.le_of_ble_eq_true rfl) (Nat.zero_le _) (Nat.zero_le _)) wm_297 wm_298 rfl (Nat.le_of_ble_eq_true rfl) dMO_share_168 (kL (fun H locs hw => ?_))
            exact V_lret B hr hlk hw (pL_of hF) dMO_share_171
          · have hF := hF.trans (if_neg c6)
            refine lv_ldc2 (v := (-1)) hx hb hown (hts _ wm_278) dMO_share_32 ?_
            exact V_lret B hr hlk hw (pL_of hF) dMO_share_35
set_option maxHeartbeats 4000000 in
set_option maxRecDepth 100000 in
theorem LPMO_batch_16 (l : Launch) {ad : Nat → Nat} {cI cL : ClassId} {dC : Nat → ClassId} {dI : Nat → Nat → Nat} (hi : adI ad) {p : Program} {e : Env} {s : State} {m : MethodId} {args : Array Value} {below : List Frame} {meth : Method} {c : Code} {A : Nat → Prop} {post : Option Value → hS → Prop} (B : Bs p s m args c RMO bMO_batch 2 cI cL dC dI) (hr : meth.sig.returnType = (some .int)) (hlk : meth.locks = false) (hA : ∀ q, AA ad s.heap.size q → A q) : ∀ (n : Nat) (S : hS) (x1 : Int32) (H : Heap) (locs : List Loc) (ls : Array Slot), bt x1 1220 → ((1220 - x1.toInt).toNat) < n → Wd ad cI cL dC dI A s.heap S H locs → lv_has ls 2 [(0, .ref (ad 49)), (1, .int x1)] → (∀ (H : Heap) (locs : List Loc) (ls : Array Slot) (y1 : Int32) (S' : hS), LMO_batch_16 n S x1 = (y1, S') → Wd ad cI cL dC dI A s.heap S' H locs → lv_has ls 2 [(0, .ref (ad 49)), (1, .int y1)] → W p l e ({ frames := 0, cells := 0, slots := 0, locals := 0 } : Room) s m args below meth c H locs 0 0 (MQ below (QcW ad cI cL dC dI post A) args s 0 0 A) (F0 m 41 ls [])) → W p l e ({ frames := 0, cells := 0, slots := 0, locals := 0 } : Room) s m args below meth c H locs 0 0 (MQ below (QcW ad cI cL dC dI post A) args s 0 0 A) (F0 m 16 ls []) := by
  intro n
  obtain ⟨hx, hb, -, hown, hts, -, -⟩ := id B
  induction n with
  | zero => exact fun S x1 H locs ls _ hmu => absurd hmu (Nat.not_lt_zero _)
  | succ n ih =>
    intro S x1 H locs ls hJ hmu hw hl hexit
    have hF := LMO_batch_16_s n S x1
    refine lv_iload_n hx hb dMO_batch_16 rfl (lv_at hl 1 rfl) ?_
    refine lv_sipush (v := 1220) hx hb dMO_batch_17 (by decide) ?_
    refine lv_icmp_ge (tgt := 41) hx hb dMO_batch_20 (by decide) (fun c2 => ?_) (fun c2 => ?_)
    · have hF := hF.trans (if_pos c2)
      exact hexit _ _ _ x1 S hF hw (lv_sub hl [0, 1] rfl)
    · have hF := hF.trans (if_neg c2)
      refine lv_aload_n hx hb dMO_batch_23 rfl (lv_at hl 0 rfl) ?_
      refine V_get B hw (v := .ref (ad 51)) (by decide) rfl rfl hin_MO 1 (by decide) rfl wm_300 rfl dMO_batch_24 ?_
      refine lv_iload_n hx hb dMO_batch_27 rfl (lv_at hl 1 rfl) ?_
      refine lv_aload_n hx hb dMO_batch_28 rfl (lv_at hl 0 rfl) ?_
      refine V_get B hw (v := .ref (ad 50)) (by decide) rfl rfl hin_MO 0 (by decide) rfl wm_234 rfl dMO_batch_29 ?_
      refine lv_iload_n hx hb dMO_batch_32 rfl (lv_at hl 1 rfl) ?_
      refine V_lald (j := x1.toNatClampNeg) (v := S.2 50 x1.toNatClampNeg) B hw (by decide) rfl (vc_FMO_batch_ix33_3 S x1 hJ c2) rfl rfl dMO_batch_33 ?_
      refine V_last (j := x1.toNatClampNeg) B hw (by decide) rfl (vc_FMO_batch_ix34_4 S x1 hJ c2) rfl dMO_batch_34 (fun H locs hw => ?_)
      refine lv_iinc (v := x1 + 1) (lv' := [(1, .int (x1 + 1)), (0, .ref (ad 49))]) hx hb dMO_batch_35 hl (k := 1) rfl rfl (by decide) rfl (fun ls hl => ?_)
      refine lv_goto (tgt := 16) hx hb dMO_batch_38 (by decide) ?_
      exact ih (sL S 51 x1.toNatClampNeg (S.2 50 x1.toNatClampNeg)) (x1 + 1) _ _ _ (vc_FMO_batch_inv16_5 S x1 hJ c2) (Nat.lt_of_lt_of_le (vc_FMO_batch_mu16_6 S x1 hJ c2) (Nat.le_of_lt_succ hmu)) hw (lv_sub hl [1, 0] rfl) (fun H locs ls y1 S' h hw hl => hexit H locs ls y1 S' (hF.trans h) hw hl)
theorem cw_FMO_batch {R : Room} {cells slots : Nat} (h1 : 1 ≤ R.frames) (h2 : 21 ≤ R.locals) (h3 : cells ≤ R.cells) (h4 : slots ≤ R.slots) : Cw R cells slots yMO_batch bMO_batch 2 (some .int) ({ frames := 0, cells := 0, slots := 0, locals := 0 } : Room) 0 := ⟨wm_458, wm_426, by decide +kernel, ⟨rfl, rfl, h1, h2⟩, h3, h4⟩
set_option maxHeartbeats 4000000 in
set_option maxRecDepth 100000 in
theorem M_FMO_batch (l : Launch) {ad : Nat → Nat} {cI cL : ClassId} {dC : Nat → ClassId} {dI : Nat → Nat → Nat} (hi : adI ad) (S : hS)  : Mt l ad cI cL dC dI yMO_batch bMO_batch 2 (some .int) ({ frames := 0, cells := 0, slots := 0, locals := 0 } : Room) [.ref (ad 49)] S (pI (FMO_batch S).1 (FMO_batch S).2) := by
  refine Mt_of (own := RMO) hi (by decide) rfl (Nat.le_of_ble_eq_true rfl) ?_
  intro p e s m args below meth c ls B hr hlk hw hl
  obtain ⟨hx, hb, -, hown, hts, -, -⟩ := id B
  have hA : ∀ q, AA ad s.heap.size q → AA ad s.heap.size q := fun _ h => h
  have hl : lv_has ls 2 [(0, .ref (ad 49))] := hl
  have hF := FMO_batch_e S 
  refine lv_aload_n hx hb dMO_batch_0 rfl (lv_at hl 0 rfl) ?_
  refine lv_iconst (v := 0) hx hb dMO_batch_1 (by decide) ?_
  refine V_putI (ty := .int) B hw (by decide) rfl rfl hin_MO tyMO_ok nmMO 4 (by decide) rfl wm_242 rfl (by decide +kernel) rfl rfl dMO_batch_2 (fun H locs hw => ?_)
  refine lv_aload_n hx hb dMO_batch_5 rfl (lv_at hl 0 rfl) ?_
  refine V_get B hw (v := .int (S.1 49 2)) (by decide) rfl rfl hin_MO 2 (by decide) rfl wm_299 rfl dMO_batch_6 ?_
  refine lv_if_eq (tgt := 14) hx hb dMO_batch_9 (by decide) (fun c1 => ?_) (fun c1 => ?_)
  · have hF := hF.trans (if_pos c1)
    refine lv_iconst (v := 0) hx hb dMO_batch_14 (by decide) ?_
    refine lv_istore_n (lv' := [(1, .int 0), (0, .ref (ad 49))]) hx hb dMO_batch_15 rfl hl (by decide) rfl (fun ls hl => ?_)
    refine LPMO_batch_16 l hi B hr hlk hA 1300 (sI S 49 4 0) 0 _ _ _ (vc_FMO_batch_inv016_8 S c1) (vc_FMO_batch_mu016_9 S c1) hw (lv_sub hl [1, 0] rfl) (fun H locs ls y7_1 S7 hq7 hw hl => ?_)
    rw [hq7] at hF; try dsimp only at hF
    refine lv_aload_n hx hb dMO_batch_41 rfl (lv_at hl 0 rfl) ?_
    refine lv_iconst (v := 1) hx hb dMO_batch_42 (by decide) ?_
    refine V_putI (ty := .boolean) B hw (by decide) rfl rfl hin_MO tyMO_ok nmMO 2 (by decide) rfl wm_299 rfl (by decide +kernel) rfl rfl dMO_batch_43 (fun H locs hw => ?_)
    refine lv_aload_n hx hb dMO_batch_46 rfl (lv_at hl 0 rfl) ?_
    refine lv_dup hx hb dMO_batch_47 rfl ?_
    refine V_get B hw (v := .int (S7.1 49 3)) (by decide) rfl rfl hin_MO 3 (by decide) rfl wm_301 rfl dMO_batch_48 ?_
    refine lv_iconst (v := 1) hx hb dMO_batch_51 (by decide) ?_
    refine lv_iadd hx hb dMO_batch_52 ?_
    refine V_putI (ty := .int) B hw (by decide) rfl rfl hin_MO tyMO_ok nmMO 3 (by decide) rfl wm_301 rfl (by decide +kernel) rfl rfl dMO_batch_53 (fun H locs hw => ?_)
    refine lv_aload_n hx hb dMO_batch_56 rfl (lv_at hl 0 rfl) ?_
    refine V_get B hw (v := .int ((S7.1 49 3) + 1)) (by decide) rfl rfl hin_MO 3 (by decide) rfl wm_301 rfl dMO_batch_57 ?_
    refine lv_iconst (v := 1) hx hb dMO_batch_60 (by decide) ?_
    refine lv_isub hx hb dMO_batch_61 ?_
    exact V_iret B hr hlk hw (pI_of hF) dMO_batch_62
  · have hF := hF.trans (if_neg c1)
    refine lv_iconst (v := (-1)) hx hb dMO_batch_12 (by decide) ?_
    exact V_iret B hr hlk hw (pI_of hF) dMO_batch_13
set_option maxHeartbeats 4000000 in
set_option maxRecDepth 100000 in
theorem LPMO_endBatch_21 (l : Launch) {ad : Nat → Nat} {cI cL : ClassId} {dC : Nat → ClassId} {dI : Nat → Nat → Nat} (hi : adI ad) {p : Program} {e : Env} {s : State} {m : MethodId} {args : Array Value} {below : List Frame} {meth : Method} {c : Code} {A : Nat → Prop} {post : Option Value → hS → Prop} (B : Bs p s m args c RMO bMO_endBatch 3 cI cL dC dI) (hr : meth.sig.returnType = (some .boolean)) (hlk : meth.locks = false) (hA : ∀ q, AA ad s.heap.size q → A q) : ∀ (n : Nat) (S : hS) (x1 : Int32) (x2 : Int32) (H : Heap) (locs : List Loc) (ls : Array Slot), bt x2 1220 → ((1220 - x2.toInt).toNat) < n → Wd ad cI cL dC dI A s.heap S H locs → lv_has ls 3 [(0, .ref (ad 49)), (1, .int x1), (2, .int x2)] → (∀ (H : Heap) (locs : List Loc) (ls : Array Slot) (y2 : Int32) (S' : hS), LMO_endBatch_21 n S x1 x2 = (y2, S') → Wd ad cI cL dC dI A s.heap S' H locs → lv_has ls 3 [(0, .ref (ad 49)), (1, .int x1), (2, .int y2)] → W p l e ({ frames := 0, cells := 0, slots := 0, locals := 0 } : Room) s m args below meth c H locs 0 0 (MQ below (QcW ad cI cL dC dI post A) args s 0 0 A) (F0 m 50 ls [])) → W p l e ({ frames := 0, cells := 0, slots := 0, locals := 0 } : Room) s m args below meth c H locs 0 0 (MQ below (QcW ad cI cL dC dI post A) args s 0 0 A) (F0 m 21 ls []) := by
  intro n
  obtain ⟨hx, hb, -, hown, hts, -, -⟩ := id B
  induction n with
  | zero => exact fun S x1 x2 H locs ls _ hmu => absurd hmu (Nat.not_lt_zero _)
  | succ n ih =>
    intro S x1 x2 H locs ls hJ hmu hw hl hexit
    have hF := LMO_endBatch_21_s n S x1 x2
    refine lv_iload_n hx hb dMO_endBatch_21 rfl (lv_at hl 2 rfl) ?_
    refine lv_sipush (v := 1220) hx hb dMO_endBatch_22 (by decide) ?_
    refine lv_icmp_ge (tgt := 50) hx hb dMO_endBatch_25 (by decide) (fun c2 => ?_) (fun c2 => ?_)
    · have hF := hF.trans (if_pos c2)
      exact hexit _ _ _ x2 S hF hw (lv_sub hl [0, 1, 2] rfl)
    · have hF := hF.trans (if_neg c2)
      refine lv_iload_n hx hb dMO_endBatch_28 rfl (lv_at hl 1 rfl) ?_
      refine lv_if_ne (tgt := 50) hx hb dMO_endBatch_29 (by decide) (fun c3 => ?_) (fun c3 => ?_)
      · have hF := hF.trans (if_neg c3)
        exact hexit _ _ _ x2 S hF hw (lv_sub hl [0, 1, 2] rfl)
      · have hF := hF.trans (if_pos c3)
        refine lv_aload_n hx hb dMO_endBatch_32 rfl (lv_at hl 0 rfl) ?_
        refine V_get B hw (v := .ref (ad 50)) (by decide) rfl rfl hin_MO 0 (by decide) rfl wm_234 rfl dMO_endBatch_33 ?_
        refine lv_iload_n hx hb dMO_endBatch_36 rfl (lv_at hl 2 rfl) ?_
        refine lv_aload_n hx hb dMO_endBatch_37 rfl (lv_at hl 0 rfl) ?_
        refine V_get B hw (v := .ref (ad 51)) (by decide) rfl rfl hin_MO 1 (by decide) rfl wm_300 rfl dMO_endBatch_38 ?_
        refine lv_iload_n hx hb dMO_endBatch_41 rfl (lv_at hl 2 rfl) ?_
        refine V_lald (j := x2.toNatClampNeg) (v := S.2 51 x2.toNatClampNeg) B hw (by decide) rfl (vc_FMO_endBatch_ix42_4 S x1 x2 hJ c2 c3) rfl rfl dMO_endBatch_42 ?_
        refine V_last (j := x2.toNatClampNeg) B hw (by decide) rfl (vc_FMO_endBatch_ix43_5 S x1 x2 hJ c2 c3) rfl dMO_endBatch_43 (fun H locs hw => ?_)
        refine lv_iinc (v := x2 + 1) (lv' := [(2, .int (x2 + 1)), (0, .ref (ad 49)), (1, .int x1)]) hx hb dMO_endBatch_44 hl (k := 2) rfl rfl (by decide) rfl (fun ls hl => ?_)
        refine lv_goto (tgt := 21) hx hb dMO_endBatch_47 (by decide) ?_
        exact ih (sL S 50 x2.toNatClampNeg (S.2 51 x2.toNatClampNeg)) x1 (x2 + 1) _ _ _ (vc_FMO_endBatch_inv21_6 S x1 x2 hJ c2 c3) (Nat.lt_of_lt_of_le (vc_FMO_endBatch_mu21_7 S x1 x2 hJ c2 c3) (Nat.le_of_lt_succ hmu)) hw (lv_sub hl [1, 2, 0] rfl) (fun H locs ls y2 S' h hw hl => hexit H locs ls y2 S' (hF.trans h) hw hl)
theorem cw_FMO_endBatch {R : Room} {cells slots : Nat} (h1 : 1 ≤ R.frames) (h2 : 22 ≤ R.locals) (h3 : cells ≤ R.cells) (h4 : slots ≤ R.slots) : Cw R cells slots yMO_endBatch bMO_endBatch 3 (some .boolean) ({ frames := 0, cells := 0, slots := 0, locals := 0 } : Room) 1 := ⟨wm_459, wm_426, by decide +kernel, ⟨rfl, rfl, h1, h2⟩, h3, h4⟩
set_option maxHeartbeats 4000000 in
set_option maxRecDepth 100000 in
theorem M_FMO_endBatch (l : Launch) {ad : Nat → Nat} {cI cL : ClassId} {dC : Nat → ClassId} {dI : Nat → Nat → Nat} (hi : adI ad) (S : hS) (x1 : Int32) : Mt l ad cI cL dC dI yMO_endBatch bMO_endBatch 3 (some .boolean) ({ frames := 0, cells := 0, slots := 0, locals := 0 } : Room) [.ref (ad 49), .int x1] S (pI (FMO_endBatch S x1).1 (FMO_endBatch S x1).2) := by
  refine Mt_of (own := RMO) hi (by decide) rfl (Nat.le_of_ble_eq_true rfl) ?_
  intro p e s m args below meth c ls B hr hlk hw hl
  obtain ⟨hx, hb, -, hown, hts, -, -⟩ := id B
  have hA : ∀ q, AA ad s.heap.size q → AA ad s.heap.size q := fun _ h => h
  have hl : lv_has ls 3 [(0, .ref (ad 49)), (1, .int x1)] := hl
  have hF := FMO_endBatch_e S x1
  refine lv_aload_n hx hb dMO_endBatch_0 rfl (lv_at hl 0 rfl) ?_
  refine lv_iconst (v := 0) hx hb dMO_endBatch_1 (by decide) ?_
  refine V_putI (ty := .int) B hw (by decide) rfl rfl hin_MO tyMO_ok nmMO 4 (by decide) rfl wm_242 rfl (by decide +kernel) rfl rfl dMO_endBatch_2 (fun H locs hw => ?_)
  refine lv_aload_n hx hb dMO_endBatch_5 rfl (lv_at hl 0 rfl) ?_
  refine V_get B hw (v := .int (S.1 49 2)) (by decide) rfl rfl hin_MO 2 (by decide) rfl wm_299 rfl dMO_endBatch_6 ?_
  refine lv_if_ne (tgt := 14) hx hb dMO_endBatch_9 (by decide) (fun c1 => ?_) (fun c1 => ?_)
  · have hF := hF.trans (if_neg c1)
    refine lv_aload_n hx hb dMO_endBatch_14 rfl (lv_at hl 0 rfl) ?_
    refine lv_iconst (v := 0) hx hb dMO_endBatch_15 (by decide) ?_
    refine V_putI (ty := .boolean) B hw (by decide) rfl rfl hin_MO tyMO_ok nmMO 2 (by decide) rfl wm_299 rfl (by decide +kernel) rfl rfl dMO_endBatch_16 (fun H locs hw => ?_)
    refine lv_iconst (v := 0) hx hb dMO_endBatch_19 (by decide) ?_
    refine lv_istore_n (lv' := [(2, .int 0), (0, .ref (ad 49)), (1, .int x1)]) hx hb dMO_endBatch_20 rfl hl (by decide) rfl (fun ls hl => ?_)
    refine LPMO_endBatch_21 l hi B hr hlk hA 1300 (sI (sI S 49 4 0) 49 2 0) x1 0 _ _ _ (vc_FMO_endBatch_inv021_9 S x1 c1) (vc_FMO_endBatch_mu021_10 S x1 c1) hw (lv_sub hl [1, 2, 0] rfl) (fun H locs ls y8_2 S8 hq8 hw hl => ?_)
    rw [hq8] at hF; try dsimp only at hF
    refine lv_iconst (v := 1) hx hb dMO_endBatch_50 (by decide) ?_
    exact V_zret B hr hlk hw (by decide) (pI_of hF) dMO_endBatch_51
  · have hF := hF.trans (if_pos c1)
    refine lv_iconst (v := 0) hx hb dMO_endBatch_12 (by decide) ?_
    exact V_zret B hr hlk hw (by decide) (pI_of hF) dMO_endBatch_13
theorem cw_FMO_closeMonth {R : Room} {cells slots : Nat} (h1 : 1 ≤ R.frames) (h2 : 21 ≤ R.locals) (h3 : cells ≤ R.cells) (h4 : slots ≤ R.slots) : Cw R cells slots yMO_closeMonth bMO_closeMonth 2 (some .boolean) ({ frames := 0, cells := 0, slots := 0, locals := 0 } : Room) 1 := ⟨wm_460, wm_426, by decide +kernel, ⟨rfl, rfl, h1, h2⟩, h3, h4⟩
set_option maxHeartbeats 4000000 in
set_option maxRecDepth 100000 in
theorem M_FMO_closeMonth (l : Launch) {ad : Nat → Nat} {cI cL : ClassId} {dC : Nat → ClassId} {dI : Nat → Nat → Nat} (hi : adI ad) (S : hS) (x1 : Int32) (hp : wfM S) : Mt l ad cI cL dC dI yMO_closeMonth bMO_closeMonth 2 (some .boolean) ({ frames := 0, cells := 0, slots := 0, locals := 0 } : Room) [.ref (ad 49), .int x1] S (pI (FMO_closeMonth S x1).1 (FMO_closeMonth S x1).2) := by
  refine Mt_of (own := RMO) hi (by decide) rfl (Nat.le_of_ble_eq_true rfl) ?_
  intro p e s m args below meth c ls B hr hlk hw hl
  obtain ⟨hx, hb, -, hown, hts, -, -⟩ := id B
  have hA : ∀ q, AA ad s.heap.size q → AA ad s.heap.size q := fun _ h => h
  have hl : lv_has ls 2 [(0, .ref (ad 49)), (1, .int x1)] := hl
  have hF := FMO_closeMonth_e S x1
  refine lv_aload_n hx hb dMO_closeMonth_0 rfl (lv_at hl 0 rfl) ?_
  refine lv_iconst (v := 0) hx hb dMO_closeMonth_1 (by decide) ?_
  refine V_putI (ty := .int) B hw (by decide) rfl rfl hin_MO tyMO_ok nmMO 4 (by decide) rfl wm_242 rfl (by decide +kernel) rfl rfl dMO_closeMonth_2 (fun H locs hw => ?_)
  refine lv_iload_n hx hb dMO_closeMonth_5 rfl (lv_at hl 1 rfl) ?_
  refine lv_i2l hx hb dMO_closeMonth_6 rfl ?_
  refine lv_aload_n hx hb dMO_closeMonth_7 rfl (lv_at hl 0 rfl) ?_
  refine V_get B hw (v := .ref (ad 50)) (by decide) rfl rfl hin_MO 0 (by decide) rfl wm_234 rfl dMO_closeMonth_8 ?_
  refine lv_iconst (v := 2) hx hb dMO_closeMonth_11 (by decide) ?_
  refine V_lald (j := 2) (v := S.2 50 2) B hw (by decide) rfl (vc_FMO_closeMonth_ix12_1 S x1 hp) rfl (by first | rfl | simp [sI_1, sI_2, sL_1, sL_2]) dMO_closeMonth_12 ?_
  refine V_lne (tgt := 30) B dMO_closeMonth_13 dMO_closeMonth_14 (by decide) (fun c2 => ?_) (fun c2 => ?_)
  · have hF := hF.trans (if_neg c2)
    refine lv_iconst (v := 0) hx hb dMO_closeMonth_30 (by decide) ?_
    exact V_zret B hr hlk hw (by decide) (pI_of hF) dMO_closeMonth_31
  · have hF := hF.trans (if_pos c2)
    refine lv_aload_n hx hb dMO_closeMonth_17 rfl (lv_at hl 0 rfl) ?_
    refine V_get B hw (v := .ref (ad 50)) (by decide) rfl rfl hin_MO 0 (by decide) rfl wm_234 rfl dMO_closeMonth_18 ?_
    refine lv_iconst (v := 2) hx hb dMO_closeMonth_21 (by decide) ?_
    refine V_lald (j := 2) (v := S.2 50 2) B hw (by decide) rfl (vc_FMO_closeMonth_ix22_3 S x1 hp c2) rfl (by first | rfl | simp [sI_1, sI_2, sL_1, sL_2]) dMO_closeMonth_22 ?_
    refine lv_ldc2 (v := 120) hx hb hown (hts _ wm_302) dMO_closeMonth_23 ?_
    refine V_lne (tgt := 32) B dMO_closeMonth_26 dMO_closeMonth_27 (by decide) (fun c4 => ?_) (fun c4 => ?_)
    · have hF := hF.trans (if_neg c4)
      refine lv_aload_n hx hb dMO_closeMonth_32 rfl (lv_at hl 0 rfl) ?_
      refine V_get B hw (v := .ref (ad 50)) (by decide) rfl rfl hin_MO 0 (by decide) rfl wm_234 rfl dMO_closeMonth_33 ?_
      refine lv_iconst (v := 2) hx hb dMO_closeMonth_36 (by decide) ?_
      refine lv_dup2_11 hx hb dMO_closeMonth_37 rfl rfl ?_
      refine V_lald (j := 2) (v := S.2 50 2) B hw (by decide) rfl (vc_FMO_closeMonth_ix38_5 S x1 hp c2 c4) rfl (by first | rfl | simp [sI_1, sI_2, sL_1, sL_2]) dMO_closeMonth_38 ?_
      refine lv_lconst (v := 1) hx hb dMO_closeMonth_39 (by decide) ?_
      refine lv_ladd hx hb dMO_closeMonth_40 ?_
      refine V_last (j := 2) B hw (by decide) rfl (vc_FMO_closeMonth_ix41_6 S x1 hp c2 c4) rfl dMO_closeMonth_41 (fun H locs hw => ?_)
      refine lv_iconst (v := 1) hx hb dMO_closeMonth_42 (by decide) ?_
      exact V_zret B hr hlk hw (by decide) (pI_of hF) dMO_closeMonth_43
    · have hF := hF.trans (if_pos c4)
      refine lv_iconst (v := 0) hx hb dMO_closeMonth_30 (by decide) ?_
      exact V_zret B hr hlk hw (by decide) (pI_of hF) dMO_closeMonth_31
set_option maxHeartbeats 4000000 in
set_option maxRecDepth 100000 in
theorem LPMO_isPaid_4 (l : Launch) {ad : Nat → Nat} {cI cL : ClassId} {dC : Nat → ClassId} {dI : Nat → Nat → Nat} (hi : adI ad) {p : Program} {e : Env} {s : State} {m : MethodId} {args : Array Value} {below : List Frame} {meth : Method} {c : Code} {A : Nat → Prop} {post : Option Value → hS → Prop} (B : Bs p s m args c RMO bMO_isPaid 4 cI cL dC dI) (hr : meth.sig.returnType = (some .boolean)) (hlk : meth.locks = false) (hA : ∀ q, AA ad s.heap.size q → A q) : ∀ (n : Nat) (S : hS) (x1 : Int32) (x2 : Int32) (x3 : Int32) (H : Heap) (locs : List Loc) (ls : Array Slot), wfM S ∧ bt x3 6 ∧ rg x1 40 → ((6 - x3.toInt).toNat) < n → Wd ad cI cL dC dI A s.heap S H locs → lv_has ls 4 [(0, .ref (ad 49)), (1, .int x1), (2, .int x2), (3, .int x3)] → (∀ (H : Heap) (locs : List Loc) (ls : Array Slot) (y2 : Int32) (y3 : Int32), LMO_isPaid_4 n S x1 x2 x3 = (y2, y3) → Wd ad cI cL dC dI A s.heap S H locs → lv_has ls 4 [(0, .ref (ad 49)), (1, .int x1), (2, .int y2), (3, .int y3)] → W p l e ({ frames := 1, cells := 0, slots := 0, locals := 23 } : Room) s m args below meth c H locs 0 0 (MQ below (QcW ad cI cL dC dI post A) args s 0 0 A) (F0 m 79 ls [])) → W p l e ({ frames := 1, cells := 0, slots := 0, locals := 23 } : Room) s m args below meth c H locs 0 0 (MQ below (QcW ad cI cL dC dI post A) args s 0 0 A) (F0 m 4 ls []) := by
  intro n
  obtain ⟨hx, hb, -, hown, hts, -, -⟩ := id B
  induction n with
  | zero => exact fun S x1 x2 x3 H locs ls _ hmu => absurd hmu (Nat.not_lt_zero _)
  | succ n ih =>
    intro S x1 x2 x3 H locs ls hJ hmu hw hl hexit
    have hF := LMO_isPaid_4_s n S x1 x2 x3
    refine lv_iload_n hx hb dMO_isPaid_4 rfl (lv_at hl 3 rfl) ?_
    refine lv_i2l hx hb dMO_isPaid_5 rfl ?_
    refine lv_aload_n hx hb dMO_isPaid_6 rfl (lv_at hl 0 rfl) ?_
    refine V_get B hw (v := .ref (ad 50)) (by decide) rfl rfl hin_MO 0 (by decide) rfl wm_234 rfl dMO_isPaid_7 ?_
    refine lv_sipush (v := 260) hx hb dMO_isPaid_10 (by decide) ?_
    refine lv_iload_n hx hb dMO_isPaid_13 rfl (lv_at hl 1 rfl) ?_
    refine lv_iadd hx hb dMO_isPaid_14 ?_
    refine V_lald (j := (260 + x1).toNatClampNeg) (v := S.2 50 ((260 + x1).toNatClampNeg)) B hw (by decide) rfl (vc_FMO_isPaid_ix15_1 S x1 x2 x3 hJ) rfl rfl dMO_isPaid_15 ?_
    refine V_lge (tgt := 79) B dMO_isPaid_16 dMO_isPaid_17 (by decide) (fun c2 => ?_) (fun c2 => ?_)
    · have hF := hF.trans (if_pos c2)
      exact hexit _ _ _ x2 x3 hF hw (lv_sub hl [0, 1, 2, 3] rfl)
    · have hF := hF.trans (if_neg c2)
      refine lv_iload_n hx hb dMO_isPaid_20 rfl (lv_at hl 2 rfl) ?_
      refine lv_if_ne (tgt := 67) hx hb dMO_isPaid_21 (by decide) (fun c3 => ?_) (fun c3 => ?_)
      · have hF := hF.trans (if_neg c3)
        refine lv_iconst (v := 1) hx hb dMO_isPaid_67 (by decide) ?_
        refine lv_goto (tgt := 72) hx hb dMO_isPaid_68 (by decide) ?_
        refine lv_istore_n (lv' := [(2, .int 1), (0, .ref (ad 49)), (1, .int x1), (3, .int x3)]) hx hb dMO_isPaid_72 rfl hl (by decide) rfl (fun ls hl => ?_)
        refine lv_iinc (v := x3 + 1) (lv' := [(3, .int (x3 + 1)), (2, .int 1), (0, .ref (ad 49)), (1, .int x1)]) hx hb dMO_isPaid_73 hl (k := 3) rfl rfl (by decide) rfl (fun ls hl => ?_)
        refine lv_goto (tgt := 4) hx hb dMO_isPaid_76 (by decide) ?_
        exact ih S x1 1 (x3 + 1) _ _ _ (vc_FMO_isPaid_inv4_4 S x1 x2 x3 hJ c2 c3) (Nat.lt_of_lt_of_le (vc_FMO_isPaid_mu4_5 S x1 x2 x3 hJ c2 c3) (Nat.le_of_lt_succ hmu)) hw (lv_sub hl [2, 3, 1, 0] rfl) (fun H locs ls y2 y3 h hw hl => hexit H locs ls y2 y3 (hF.trans h) hw hl)
      · have hF := hF.trans (if_pos c3)
        refine lv_aload_n hx hb dMO_isPaid_24 rfl (lv_at hl 0 rfl) ?_
        refine lv_iload_n hx hb dMO_isPaid_25 rfl (lv_at hl 1 rfl) ?_
        refine lv_iload_n hx hb dMO_isPaid_26 rfl (lv_at hl 3 rfl) ?_
        refine V_callV (rest := []) B hi hw hA hl.1 (M_FMO_isItem l hi S x1 x3 (vc_FMO_isPaid_pre27_6 S x1 x2 x3 hJ c2 c3)) (cw_FMO_isItem (Nat.le_of_ble_eq_true rfl) (Nat.le_of_ble_eq_true rfl) (Nat.zero_le _) (Nat.zero_le _)) (by decide) rfl rfl wm_262 wm_263 wm_264 rfl (Nat.le_of_ble_eq_true rfl) dMO_isPaid_27 (kI (fun H locs hw => ?_))
        refine lv_if_eq (tgt := 71) hx hb dMO_isPaid_30 (by decide) (fun c7 => ?_) (fun c7 => ?_)
        · have hF := hF.trans (if_pos c7)
          refine lv_iconst (v := 0) hx hb dMO_isPaid_71 (by decide) ?_
          refine lv_istore_n (lv' := [(2, .int 0), (0, .ref (ad 49)), (1, .int x1), (3, .int x3)]) hx hb dMO_isPaid_72 rfl hl (by decide) rfl (fun ls hl => ?_)
          refine lv_iinc (v := x3 + 1) (lv' := [(3, .int (x3 + 1)), (2, .int 0), (0, .ref (ad 49)), (1, .int x1)]) hx hb dMO_isPaid_73 hl (k := 3) rfl rfl (by decide) rfl (fun ls hl => ?_)
          refine lv_goto (tgt := 4) hx hb dMO_isPaid_76 (by decide) ?_
          exact ih S x1 0 (x3 + 1) _ _ _ (vc_FMO_isPaid_inv4_8 S x1 x2 x3 hJ c2 c3 c7) (Nat.lt_of_lt_of_le (vc_FMO_isPaid_mu4_9 S x1 x2 x3 hJ c2 c3 c7) (Nat.le_of_lt_succ hmu)) hw (lv_sub hl [2, 3, 1, 0] rfl) (fun H locs ls y2 y3 h hw hl => hexit H locs ls y2 y3 (hF.trans h) hw hl)
        · have hF := hF.trans (if_neg c7)
          refine lv_aload_n hx hb dMO_isPaid_33 rfl (lv_at hl 0 rfl) ?_
          refine V_get B hw (v := .ref (ad 50)) (by decide) rfl rfl hin_MO 0 (by decide) rfl wm_234 rfl dMO_isPaid_34 ?_
          refine lv_sipush (v := 780) hx hb dMO_isPaid_37 (by decide) ?_
          refine lv_bipush (v := 6) hx hb dMO_isPaid_40 (by decide) ?_
          refine lv_iload_n hx hb dMO_isPaid_42 rfl (lv_at hl 1 rfl) ?_
          refine lv_imul hx hb dMO_isPaid_43 ?_
          refine lv_iadd hx hb dMO_isPaid_44 ?_
          refine lv_iload_n hx hb dMO_isPaid_45 rfl (lv_at hl 3 rfl) ?_
          refine lv_iadd hx hb dMO_isPaid_46 ?_
          refine V_lald (j := ((780 + (6 * x1)) + x3).toNatClampNeg) (v := S.2 50 (((780 + (6 * x1)) + x3).toNatClampNeg)) B hw (by decide) rfl (vc_FMO_isPaid_ix47_10 S x1 x2 x3 hJ c2 c3 c7) rfl rfl dMO_isPaid_47 ?_
          refine lv_aload_n hx hb dMO_isPaid_48 rfl (lv_at hl 0 rfl) ?_
          refine V_get B hw (v := .ref (ad 50)) (by decide) rfl rfl hin_MO 0 (by decide) rfl wm_234 rfl dMO_isPaid_49 ?_
          refine lv_sipush (v := 540) hx hb dMO_isPaid_52 (by decide) ?_
          refine lv_bipush (v := 6) hx hb dMO_isPaid_55 (by decide) ?_
          refine lv_iload_n hx hb dMO_isPaid_57 rfl (lv_at hl 1 rfl) ?_
          refine lv_imul hx hb dMO_isPaid_58 ?_
          refine lv_iadd hx hb dMO_isPaid_59 ?_
          refine lv_iload_n hx hb dMO_isPaid_60 rfl (lv_at hl 3 rfl) ?_
          refine lv_iadd hx hb dMO_isPaid_61 ?_
          refine V_lald (j := ((540 + (6 * x1)) + x3).toNatClampNeg) (v := S.2 50 (((540 + (6 * x1)) + x3).toNatClampNeg)) B hw (by decide) rfl (vc_FMO_isPaid_ix62_11 S x1 x2 x3 hJ c2 c3 c7) rfl rfl dMO_isPaid_62 ?_
          refine V_lge (tgt := 71) B dMO_isPaid_63 dMO_isPaid_64 (by decide) (fun c12 => ?_) (fun c12 => ?_)
          · have hF := hF.trans (if_pos c12)
            refine lv_iconst (v := 0) hx hb dMO_isPaid_71 (by decide) ?_
            refine lv_istore_n (lv' := [(2, .int 0), (0, .ref (ad 49)), (1, .int x1), (3, .int x3)]) hx hb dMO_isPaid_72 rfl hl (by decide) rfl (fun ls hl => ?_)
            refine lv_iinc (v := x3 + 1) (lv' := [(3, .int (x3 + 1)), (2, .int 0), (0, .ref (ad 49)), (1, .int x1)]) hx hb dMO_isPaid_73 hl (k := 3) rfl rfl (by decide) rfl (fun ls hl => ?_)
            refine lv_goto (tgt := 4) hx hb dMO_isPaid_76 (by decide) ?_
            exact ih S x1 0 (x3 + 1) _ _ _ (vc_FMO_isPaid_inv4_13 S x1 x2 x3 hJ c2 c3 c7 c12) (Nat.lt_of_lt_of_le (vc_FMO_isPaid_mu4_14 S x1 x2 x3 hJ c2 c3 c7 c12) (Nat.le_of_lt_succ hmu)) hw (lv_sub hl [2, 3, 1, 0] rfl) (fun H locs ls y2 y3 h hw hl => hexit H locs ls y2 y3 (hF.trans h) hw hl)
          · have hF := hF.trans (if_neg c12)
            refine lv_iconst (v := 1) hx hb dMO_isPaid_67 (by decide) ?_
            refine lv_goto (tgt := 72) hx hb dMO_isPaid_68 (by decide) ?_
            refine lv_istore_n (lv' := [(2, .int 1), (0, .ref (ad 49)), (1, .int x1), (3, .int x3)]) hx hb dMO_isPaid_72 rfl hl (by decide) rfl (fun ls hl => ?_)
            refine lv_iinc (v := x3 + 1) (lv' := [(3, .int (x3 + 1)), (2, .int 1), (0, .ref (ad 49)), (1, .int x1)]) hx hb dMO_isPaid_73 hl (k := 3) rfl rfl (by decide) rfl (fun ls hl => ?_)
            refine lv_goto (tgt := 4) hx hb dMO_isPaid_76 (by decide) ?_
            exact ih S x1 1 (x3 + 1) _ _ _ (vc_FMO_isPaid_inv4_15 S x1 x2 x3 hJ c2 c3 c7 c12) (Nat.lt_of_lt_of_le (vc_FMO_isPaid_mu4_16 S x1 x2 x3 hJ c2 c3 c7 c12) (Nat.le_of_lt_succ hmu)) hw (lv_sub hl [2, 3, 1, 0] rfl) (fun H locs ls y2 y3 h hw hl => hexit H locs ls y2 y3 (hF.trans h) hw hl)
theorem cw_FMO_isPaid {R : Room} {cells slots : Nat} (h1 : 2 ≤ R.frames) (h2 : 46 ≤ R.locals) (h3 : cells ≤ R.cells) (h4 : slots ≤ R.slots) : Cw R cells slots yMO_isPaid bMO_isPaid 4 (some .boolean) ({ frames := 1, cells := 0, slots := 0, locals := 23 } : Room) 1 := ⟨wm_461, wm_426, by decide +kernel, ⟨rfl, rfl, h1, h2⟩, h3, h4⟩
set_option maxHeartbeats 4000000 in
set_option maxRecDepth 100000 in
theorem M_FMO_isPaid (l : Launch) {ad : Nat → Nat} {cI cL : ClassId} {dC : Nat → ClassId} {dI : Nat → Nat → Nat} (hi : adI ad) (S : hS) (x1 : Int32) (hp : wfM S ∧ rg x1 40) : Mt l ad cI cL dC dI yMO_isPaid bMO_isPaid 4 (some .boolean) ({ frames := 1, cells := 0, slots := 0, locals := 23 } : Room) [.ref (ad 49), .int x1] S (pI (FMO_isPaid S x1) S) := by
  refine Mt_of (own := RMO) hi (by decide) rfl (Nat.le_of_ble_eq_true rfl) ?_
  intro p e s m args below meth c ls B hr hlk hw hl
  obtain ⟨hx, hb, -, hown, hts, -, -⟩ := id B
  have hA : ∀ q, AA ad s.heap.size q → AA ad s.heap.size q := fun _ h => h
  have hl : lv_has ls 4 [(0, .ref (ad 49)), (1, .int x1)] := hl
  have hF := FMO_isPaid_e S x1
  refine lv_iconst (v := 0) hx hb dMO_isPaid_0 (by decide) ?_
  refine lv_istore_n (lv' := [(2, .int 0), (0, .ref (ad 49)), (1, .int x1)]) hx hb dMO_isPaid_1 rfl hl (by decide) rfl (fun ls hl => ?_)
  refine lv_iconst (v := 0) hx hb dMO_isPaid_2 (by decide) ?_
  refine lv_istore_n (lv' := [(3, .int 0), (2, .int 0), (0, .ref (ad 49)), (1, .int x1)]) hx hb dMO_isPaid_3 rfl hl (by decide) rfl (fun ls hl => ?_)
  refine LPMO_isPaid_4 l hi B hr hlk hA 300 S x1 0 0 _ _ _ (vc_FMO_isPaid_inv04_18 S x1 hp) (vc_FMO_isPaid_mu04_19 S x1 hp) hw (lv_sub hl [2, 3, 1, 0] rfl) (fun H locs ls y17_2 y17_3 hq17 hw hl => ?_)
  rw [hq17] at hF; try dsimp only at hF
  refine lv_iload_n hx hb dMO_isPaid_79 rfl (lv_at hl 2 rfl) ?_
  exact V_zret B hr hlk hw (vc_FMO_isPaid_bz80_20 S x1 hp y17_2 y17_3 hq17) (pI_r hF) dMO_isPaid_80
